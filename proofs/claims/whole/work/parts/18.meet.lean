/-! the class' leaves: cells, bits, and what is read of a meeting -/
theorem c_cell {h : Hp} {o k : Nat} (ha : ar h 1 o) (hk : k < (SH o).2) (hl : (SH o).2 ≤ 500) : Ret 0 192 [.ref o, .int (iN k)] h (some (.int (gi h o k))) (h) := by
  refine Ret_L [some (.ref o), some (.int (iN k))] rfl rfl fun Q hQ => ?_
  (refine wp_go 600 ks_192_0.1 ?_; simp (disch := first | assumption | (simp only [ob_si, ar_si, ob_sl, ar_sl]; assumption) | omega) only [ci_0, ldA_a, ldI_i, p_0, p_2, p_30, p_33, p_44, p_6, p_70, p_76, p_90, wpn_succ, wpn_zero, stp_h, lk_0, lk_s, st1_0, st1_1, st1_2, st2_0, st2_1, st2_2, kj_i, kj_a, kj_l, kj_n, cat_n, cat_i, cat_a, cat_u, cat_l, vc_i, vc_a, rv_s, tl_n, tl_s, Cal'_s, List.length_cons, List.length_nil, i0, i1, iNd, iN_lt, iN_le, iN_eq, iN_add, iN_mul, iN_mod, iN_sub, iN_div, iN_clamp, iN_inb, zle_N, zlt_N, zN_le, zN_lt, zN_eq, Nz_eq, mI_t, mI_f, bI_0, bI_1, bI_t, bI_f, dltT, dltF, dleT, dleF, deqT, deqF, Nat.not_lt_zero, not_true_eq_false, not_false_eq_true, true_and, and_true, false_and, and_false, or_true, true_or, false_or, or_false, and_self, if_true, if_false, Classical.not_not, Nat.add_assoc, Nat.zero_add, Nat.add_zero, bI_or, bI_True, bI_False, Bool.false_eq_true, reduceCtorEq, eq_self, gi_si, gl_si, gr_si, hn_si, hL_si, hX_si, gi_sl, gl_sl, gr_sl, hn_sl, ob_si, ar_si, ob_sl, ar_sl, ks_192_0, ha, ha.1, ha.2])
  exact hQ
theorem c_cell_q {h : Hp} {o k : Nat} (ha : ar h 1 o) (hk : k < (SH o).2) (hl : (SH o).2 ≤ 500) {e : Nat} (hd : 0 ≤ e) (K : Option Value → Hp → Prop) : Cal e 192 [.ref o, .int (iN k)] h K = K (some (.int (gi h o k))) (h) := Cal_eq (c_cell (ha := ha) (hk := hk) (hl := hl)) hd K
theorem c_cellF {h : Hp} {o k : Nat} (ha : ar h 1 o) (hk : (SH o).2 ≤ k) (hk2 : k < 2147483648) (hl : (SH o).2 ≤ 500) : Ret 0 192 [.ref o, .int (iN k)] h (some (.int (iN 0))) (h) := by
  refine Ret_L [some (.ref o), some (.int (iN k))] rfl rfl fun Q hQ => ?_
  (refine wp_go 600 ks_192_0.1 ?_; simp (disch := first | assumption | (simp only [ob_si, ar_si, ob_sl, ar_sl]; assumption) | omega) only [ci_0, ldA_a, ldI_i, p_0, p_2, p_30, p_33, p_44, p_6, p_70, p_76, p_90, wpn_succ, wpn_zero, stp_h, lk_0, lk_s, st1_0, st1_1, st1_2, st2_0, st2_1, st2_2, kj_i, kj_a, kj_l, kj_n, cat_n, cat_i, cat_a, cat_u, cat_l, vc_i, vc_a, rv_s, tl_n, tl_s, Cal'_s, List.length_cons, List.length_nil, i0, i1, iNd, iN_lt, iN_le, iN_eq, iN_add, iN_mul, iN_mod, iN_sub, iN_div, iN_clamp, iN_inb, zle_N, zlt_N, zN_le, zN_lt, zN_eq, Nz_eq, mI_t, mI_f, bI_0, bI_1, bI_t, bI_f, dltT, dltF, dleT, dleF, deqT, deqF, Nat.not_lt_zero, not_true_eq_false, not_false_eq_true, true_and, and_true, false_and, and_false, or_true, true_or, false_or, or_false, and_self, if_true, if_false, Classical.not_not, Nat.add_assoc, Nat.zero_add, Nat.add_zero, bI_or, bI_True, bI_False, Bool.false_eq_true, reduceCtorEq, eq_self, gi_si, gl_si, gr_si, hn_si, hL_si, hX_si, gi_sl, gl_sl, gr_sl, hn_sl, ob_si, ar_si, ob_sl, ar_sl, ks_192_0, ha, ha.1, ha.2])
  exact hQ
theorem c_cellF_q {h : Hp} {o k : Nat} (ha : ar h 1 o) (hk : (SH o).2 ≤ k) (hk2 : k < 2147483648) (hl : (SH o).2 ≤ 500) {e : Nat} (hd : 0 ≤ e) (K : Option Value → Hp → Prop) : Cal e 192 [.ref o, .int (iN k)] h K = K (some (.int (iN 0))) (h) := Cal_eq (c_cellF (ha := ha) (hk := hk) (hk2 := hk2) (hl := hl)) hd K
theorem c_set {h : Hp} {o k : Nat} {v : Int32} (ha : ar h 1 o) (hk : k < (SH o).2) (hl : (SH o).2 ≤ 500) : Ret 0 193 [.ref o, .int (iN k), .int v] h none (si h o k v) := by
  refine Ret_L [some (.ref o), some (.int (iN k)), some (.int v)] rfl rfl fun Q hQ => ?_
  (refine wp_go 600 ks_193_0.1 ?_; simp (disch := first | assumption | (simp only [ob_si, ar_si, ob_sl, ar_sl]; assumption) | omega) only [ldA_a, ldI_i, p_0, p_2, p_33, p_44, p_71, p_76, p_94, wpn_succ, wpn_zero, stp_h, lk_0, lk_s, st1_0, st1_1, st1_2, st2_0, st2_1, st2_2, kj_i, kj_a, kj_l, kj_n, cat_n, cat_i, cat_a, cat_u, cat_l, vc_i, vc_a, rv_s, tl_n, tl_s, Cal'_s, List.length_cons, List.length_nil, i0, i1, iNd, iN_lt, iN_le, iN_eq, iN_add, iN_mul, iN_mod, iN_sub, iN_div, iN_clamp, iN_inb, zle_N, zlt_N, zN_le, zN_lt, zN_eq, Nz_eq, mI_t, mI_f, bI_0, bI_1, bI_t, bI_f, dltT, dltF, dleT, dleF, deqT, deqF, Nat.not_lt_zero, not_true_eq_false, not_false_eq_true, true_and, and_true, false_and, and_false, or_true, true_or, false_or, or_false, and_self, if_true, if_false, Classical.not_not, Nat.add_assoc, Nat.zero_add, Nat.add_zero, bI_or, bI_True, bI_False, Bool.false_eq_true, reduceCtorEq, eq_self, gi_si, gl_si, gr_si, hn_si, hL_si, hX_si, gi_sl, gl_sl, gr_sl, hn_sl, ob_si, ar_si, ob_sl, ar_sl, ks_193_0, ha, ha.1, ha.2])
  exact hQ
theorem c_set_q {h : Hp} {o k : Nat} {v : Int32} (ha : ar h 1 o) (hk : k < (SH o).2) (hl : (SH o).2 ≤ 500) {e : Nat} (hd : 0 ≤ e) (K : Option Value → Hp → Prop) : Cal e 193 [.ref o, .int (iN k), .int v] h K = K none (si h o k v) := Cal_eq (c_set (ha := ha) (hk := hk) (hl := hl)) hd K
theorem bit_dec : ∀ b < 256, ∀ k < 8, (iN b >>> (iN k &&& 31)) &&& iN 1 = (if b.testBit k = true then iN 1 else iN 0) := by
  simp only [iN_def]
  decide +kernel
theorem bit_eq {b k : Nat} (hb : b < 256) (hk : k < 8) : (iN b >>> (iN k &&& 31)) &&& iN 1 = bI (b.testBit k = true) := by
  rw [bit_dec b hb k hk]
  by_cases h : b.testBit k = true
  · rw [if_pos h, bI_t h]
  · rw [if_neg h, bI_f h]
theorem c_bit {h : Hp} {b k : Nat} (hb : b < 256) (hk : k < 8) : Ret 0 194 [.int (iN b), .int (iN k)] h (some (.int (bI (b.testBit k = true)))) (h) := by
  refine Ret_L [some (.int (iN b)), some (.int (iN k))] rfl rfl fun Q hQ => ?_
  by_cases hp : b.testBit k = true
  · rw [bI_t hp] at hQ
    (refine wp_go 600 ks_194_0.1 ?_; simp (disch := first | assumption | (simp only [ob_si, ar_si, ob_sl, ar_sl]; assumption) | omega) only [ci_0, ci_1, ldI_i, p_0, p_13, p_16, p_30, p_42, p_6, p_91, wpn_succ, wpn_zero, stp_h, lk_0, lk_s, st1_0, st1_1, st1_2, st2_0, st2_1, st2_2, kj_i, kj_a, kj_l, kj_n, cat_n, cat_i, cat_a, cat_u, cat_l, vc_i, vc_a, rv_s, tl_n, tl_s, Cal'_s, List.length_cons, List.length_nil, i0, i1, iNd, iN_lt, iN_le, iN_eq, iN_add, iN_mul, iN_mod, iN_sub, iN_div, iN_clamp, iN_inb, zle_N, zlt_N, zN_le, zN_lt, zN_eq, Nz_eq, mI_t, mI_f, bI_0, bI_1, bI_t, bI_f, dltT, dltF, dleT, dleF, deqT, deqF, Nat.not_lt_zero, not_true_eq_false, not_false_eq_true, true_and, and_true, false_and, and_false, or_true, true_or, false_or, or_false, and_self, if_true, if_false, Classical.not_not, Nat.add_assoc, Nat.zero_add, Nat.add_zero, bI_or, bI_True, bI_False, Bool.false_eq_true, reduceCtorEq, eq_self, gi_si, gl_si, gr_si, hn_si, hL_si, hX_si, gi_sl, gl_sl, gr_sl, hn_sl, ob_si, ar_si, ob_sl, ar_sl, ks_194_0, bit_eq, hp])
    exact hQ
  · rw [bI_f hp] at hQ
    (refine wp_go 600 ks_194_0.1 ?_; simp (disch := first | assumption | (simp only [ob_si, ar_si, ob_sl, ar_sl]; assumption) | omega) only [ci_0, ci_1, ldI_i, p_0, p_13, p_16, p_30, p_42, p_6, p_91, wpn_succ, wpn_zero, stp_h, lk_0, lk_s, st1_0, st1_1, st1_2, st2_0, st2_1, st2_2, kj_i, kj_a, kj_l, kj_n, cat_n, cat_i, cat_a, cat_u, cat_l, vc_i, vc_a, rv_s, tl_n, tl_s, Cal'_s, List.length_cons, List.length_nil, i0, i1, iNd, iN_lt, iN_le, iN_eq, iN_add, iN_mul, iN_mod, iN_sub, iN_div, iN_clamp, iN_inb, zle_N, zlt_N, zN_le, zN_lt, zN_eq, Nz_eq, mI_t, mI_f, bI_0, bI_1, bI_t, bI_f, dltT, dltF, dleT, dleF, deqT, deqF, Nat.not_lt_zero, not_true_eq_false, not_false_eq_true, true_and, and_true, false_and, and_false, or_true, true_or, false_or, or_false, and_self, if_true, if_false, Classical.not_not, Nat.add_assoc, Nat.zero_add, Nat.add_zero, bI_or, bI_True, bI_False, Bool.false_eq_true, reduceCtorEq, eq_self, gi_si, gl_si, gr_si, hn_si, hL_si, hX_si, gi_sl, gl_sl, gr_sl, hn_sl, ob_si, ar_si, ob_sl, ar_sl, ks_194_0, bit_eq, hp])
    exact hQ
theorem c_bit_q {h : Hp} {b k : Nat} (hb : b < 256) (hk : k < 8) {e : Nat} (hd : 0 ≤ e) (K : Option Value → Hp → Prop) : Cal e 194 [.int (iN b), .int (iN k)] h K = K (some (.int (bI (b.testBit k = true)))) (h) := Cal_eq (c_bit (hb := hb) (hk := hk)) hd K
theorem o_bit {h : Hp} {b k : Nat} (hb : b < 256) (hk : k < 8) : Ret 0 206 [.int (iN b), .int (iN k)] h (some (.int (bI (b.testBit k = true)))) (h) := by
  refine Ret_L [some (.int (iN b)), some (.int (iN k))] rfl rfl fun Q hQ => ?_
  by_cases hp : b.testBit k = true
  · rw [bI_t hp] at hQ
    (refine wp_go 600 ks_206_0.1 ?_; simp (disch := first | assumption | (simp only [ob_si, ar_si, ob_sl, ar_sl]; assumption) | omega) only [ci_0, ci_1, ldI_i, p_0, p_13, p_16, p_30, p_42, p_6, p_91, wpn_succ, wpn_zero, stp_h, lk_0, lk_s, st1_0, st1_1, st1_2, st2_0, st2_1, st2_2, kj_i, kj_a, kj_l, kj_n, cat_n, cat_i, cat_a, cat_u, cat_l, vc_i, vc_a, rv_s, tl_n, tl_s, Cal'_s, List.length_cons, List.length_nil, i0, i1, iNd, iN_lt, iN_le, iN_eq, iN_add, iN_mul, iN_mod, iN_sub, iN_div, iN_clamp, iN_inb, zle_N, zlt_N, zN_le, zN_lt, zN_eq, Nz_eq, mI_t, mI_f, bI_0, bI_1, bI_t, bI_f, dltT, dltF, dleT, dleF, deqT, deqF, Nat.not_lt_zero, not_true_eq_false, not_false_eq_true, true_and, and_true, false_and, and_false, or_true, true_or, false_or, or_false, and_self, if_true, if_false, Classical.not_not, Nat.add_assoc, Nat.zero_add, Nat.add_zero, bI_or, bI_True, bI_False, Bool.false_eq_true, reduceCtorEq, eq_self, gi_si, gl_si, gr_si, hn_si, hL_si, hX_si, gi_sl, gl_sl, gr_sl, hn_sl, ob_si, ar_si, ob_sl, ar_sl, ks_206_0, bit_eq, hp])
    exact hQ
  · rw [bI_f hp] at hQ
    (refine wp_go 600 ks_206_0.1 ?_; simp (disch := first | assumption | (simp only [ob_si, ar_si, ob_sl, ar_sl]; assumption) | omega) only [ci_0, ci_1, ldI_i, p_0, p_13, p_16, p_30, p_42, p_6, p_91, wpn_succ, wpn_zero, stp_h, lk_0, lk_s, st1_0, st1_1, st1_2, st2_0, st2_1, st2_2, kj_i, kj_a, kj_l, kj_n, cat_n, cat_i, cat_a, cat_u, cat_l, vc_i, vc_a, rv_s, tl_n, tl_s, Cal'_s, List.length_cons, List.length_nil, i0, i1, iNd, iN_lt, iN_le, iN_eq, iN_add, iN_mul, iN_mod, iN_sub, iN_div, iN_clamp, iN_inb, zle_N, zlt_N, zN_le, zN_lt, zN_eq, Nz_eq, mI_t, mI_f, bI_0, bI_1, bI_t, bI_f, dltT, dltF, dleT, dleF, deqT, deqF, Nat.not_lt_zero, not_true_eq_false, not_false_eq_true, true_and, and_true, false_and, and_false, or_true, true_or, false_or, or_false, and_self, if_true, if_false, Classical.not_not, Nat.add_assoc, Nat.zero_add, Nat.add_zero, bI_or, bI_True, bI_False, Bool.false_eq_true, reduceCtorEq, eq_self, gi_si, gl_si, gr_si, hn_si, hL_si, hX_si, gi_sl, gl_sl, gr_sl, hn_sl, ob_si, ar_si, ob_sl, ar_sl, ks_206_0, bit_eq, hp])
    exact hQ
theorem o_bit_q {h : Hp} {b k : Nat} (hb : b < 256) (hk : k < 8) {e : Nat} (hd : 0 ≤ e) (K : Option Value → Hp → Prop) : Cal e 206 [.int (iN b), .int (iN k)] h K = K (some (.int (bI (b.testBit k = true)))) (h) := Cal_eq (o_bit (hb := hb) (hk := hk)) hd K
/-- how many ones, of numbers below 64 -/
noncomputable def bcN (v : Nat) : Nat := v % 2 + v / 2 % 2 + v / 4 % 2 + v / 8 % 2 + v / 16 % 2 + v / 32 % 2
theorem j_bc {h : Hp} {v : Nat} (hv : v < 64) : Ret 0 298 [.int (iN v)] h (some (.int (iN (bcN v)))) (h) := by
  refine Ret_L [some (.int (iN v))] rfl rfl fun Q hQ => ?_
  have key : ∀ w, w = iN (bcN v) → Q (some (.int w)) h := fun w e => by rw [e]; exact hQ
  refine wp_go 600 ks_298_0.1 ?_
  simp only [ldI_i, p_0, p_10, p_11, p_13, p_17, p_3, p_6, p_90, wpn_succ, wpn_zero, stp_h, lk_0, lk_s, st1_0, st1_1, st1_2, st2_0, st2_1, st2_2, kj_i, kj_a, kj_l, kj_n, cat_n, cat_i, cat_a, cat_u, cat_l, vc_i, vc_a, rv_s, tl_n, tl_s, Cal'_s, List.length_cons, List.length_nil, ks_298_0, ks_298_1, Nat.zero_add, Nat.lt_add_one, true_and]
  refine key _ ?_
  clear key hQ
  revert v
  simp only [iN_def]
  decide +kernel
theorem j_bc_q {h : Hp} {v : Nat} (hv : v < 64) {e : Nat} (hd : 0 ≤ e) (K : Option Value → Hp → Prop) : Cal e 298 [.int (iN v)] h K = K (some (.int (iN (bcN v)))) (h) := Cal_eq (j_bc (hv := hv)) hd K
/-! a meeting -/
abbrev Mt : Type := Nat × Int32 × (Nat → Nat) × (Nat → Nat) × (Nat → Nat) × (Nat → Nat) × (Nat → Nat → Nat)
noncomputable def xN (x : Mt) : Nat := x.1
noncomputable def xD (x : Mt) : Int32 := x.2.1
noncomputable def xK (x : Mt) : Nat → Nat := x.2.2.1
noncomputable def xF (x : Mt) : Nat → Nat := x.2.2.2.1
noncomputable def xH (x : Mt) : Nat → Nat := x.2.2.2.2.1
noncomputable def xM (x : Mt) : Nat → Nat := x.2.2.2.2.2.1
noncomputable def xQ (x : Mt) : Nat → Nat → Nat := x.2.2.2.2.2.2
noncomputable def At (h : Hp) (m : Nat) (x : Mt) : Prop := gi h m 5 = iN (xN x) ∧ gi h m 6 = xD x ∧ (∀ i, i < 6 → gi h (m + 1) i = iN (xK x i)) ∧ (∀ i, i < 6 → gi h (m + 2) i = iN (xF x i)) ∧ (∀ i, i < 6 → gi h (m + 3) i = iN (xH x i)) ∧ (∀ i, i < 6 → gi h (m + 4) i = mI (xM x i)) ∧ ∀ i j, i < 6 → j < 6 → gi h (m + 5) (i * 6 + j) = iN (xQ x i j)
noncomputable def Wf (x : Mt) : Prop := xN x ≤ 6 ∧ (∀ i, xK x i < 6) ∧ (∀ i, xF x i < 10) ∧ (∀ i, xH x i < 32) ∧ (∀ i, xM x i ≤ 6) ∧ (∀ i j, xQ x i j ≤ 99) ∧ (∀ i j, xQ x i j = xQ x j i) ∧ (∀ i j, xN x ≤ j → xQ x i j = 0) ∧ ∀ i, i < xN x → xM x i < 6 → xM x i < xN x ∧ xM x i ≠ i ∧ xM x (xM x i) = i
theorem M_facts {h : Hp} {m : Nat} (hm : isM m) (hB : Bs h) : ob h m 3 ∧ gr h m 0 = some (m + 1) ∧ gr h m 1 = some (m + 2) ∧ gr h m 2 = some (m + 3) ∧ gr h m 3 = some (m + 4) ∧ gr h m 4 = some (m + 5) ∧ ar h 1 (m + 1) ∧ ar h 1 (m + 2) ∧ ar h 1 (m + 3) ∧ ar h 1 (m + 4) ∧ ar h 1 (m + 5) ∧ (SH (m + 1)).2 = 6 ∧ (SH (m + 2)).2 = 6 ∧ (SH (m + 3)).2 = 6 ∧ (SH (m + 4)).2 = 6 ∧ (SH (m + 5)).2 = 36 := by
  unfold isM at hm
  rcases hm with rfl | rfl | rfl | rfl | rfl | rfl | rfl | rfl | rfl | rfl | rfl <;> exact ⟨hB.ob (by decide) (by decide), hB.r (by decide), hB.r (by decide), hB.r (by decide), hB.r (by decide), hB.r (by decide), hB.ar (by decide) (by decide), hB.ar (by decide) (by decide), hB.ar (by decide) (by decide), hB.ar (by decide) (by decide), hB.ar (by decide) (by decide), by decide, by decide, by decide, by decide, by decide⟩
noncomputable def isP (n : Nat) (p : Int32) : Prop := ∃ i, i < n ∧ p = iN i
noncomputable def isT (n : Nat) (p q : Int32) : Prop := ∃ i j, i < n ∧ j < n ∧ i ≠ j ∧ p = iN i ∧ q = iN j
theorem ex_N {p : Int32} {n : Nat} (h0 : ¬ p < iN 0) (hp : ¬ iN n ≤ p) (hn : n < 2147483648) : ∃ i, i < n ∧ p = iN i := by
  have h1 : (0 : Int32) ≤ p := by rw [i0]; exact Int32.not_lt.mp h0
  refine ⟨p.toNatClampNeg, ?_, by rw [iN_def]; exact (Int32.ofNat_toNatClampNeg p h1).symm⟩
  have h2 : p < iN n := Int32.not_le.mp hp
  rw [Int32.lt_iff_toInt_lt, iN_toInt hn] at h2
  have h3 := Int32.cast_toNatClampNeg p h1
  omega
theorem c_people {h : Hp} {m : Nat} {x : Mt} (hm : isM m) (hB : Bs h) (hA : At h m x) (hW : Wf x) : Ret 0 22 [.ref m] h (some (.int (iN (xN x)))) (h) := by
  refine Ret_L [some (.ref m)] rfl rfl fun Q hQ => ?_
  obtain ⟨oM, rM0, rM1, rM2, rM3, rM4, aM1, aM2, aM3, aM4, aM5, sM1, sM2, sM3, sM4, sM5⟩ := M_facts hm hB
  obtain ⟨fN, fD, fK, fF, fH, fM, fQ⟩ := hA
  (refine wp_go 600 ks_22_0.1 ?_; simp (disch := first | assumption | (simp only [ob_si, ar_si, ob_sl, ar_sl]; assumption) | omega) only [ldA_a, p_2, p_60, p_90, wpn_succ, wpn_zero, stp_h, lk_0, lk_s, st1_0, st1_1, st1_2, st2_0, st2_1, st2_2, kj_i, kj_a, kj_l, kj_n, cat_n, cat_i, cat_a, cat_u, cat_l, vc_i, vc_a, rv_s, tl_n, tl_s, Cal'_s, List.length_cons, List.length_nil, i0, i1, iNd, iN_lt, iN_le, iN_eq, iN_add, iN_mul, iN_mod, iN_sub, iN_div, iN_clamp, iN_inb, zle_N, zlt_N, zN_le, zN_lt, zN_eq, Nz_eq, mI_t, mI_f, bI_0, bI_1, bI_t, bI_f, dltT, dltF, dleT, dleF, deqT, deqF, Nat.not_lt_zero, not_true_eq_false, not_false_eq_true, true_and, and_true, false_and, and_false, or_true, true_or, false_or, or_false, and_self, if_true, if_false, Classical.not_not, Nat.add_assoc, Nat.zero_add, Nat.add_zero, bI_or, bI_True, bI_False, Bool.false_eq_true, reduceCtorEq, eq_self, gi_si, gl_si, gr_si, hn_si, hL_si, hX_si, gi_sl, gl_sl, gr_sl, hn_sl, ob_si, ar_si, ob_sl, ar_sl, ks_22_0, oM, rM0, rM1, rM2, rM3, rM4, aM1, aM2, aM3, aM4, aM5, fN])
  exact hQ
theorem c_people_q {h : Hp} {m : Nat} {x : Mt} (hm : isM m) (hB : Bs h) (hA : At h m x) (hW : Wf x) {e : Nat} (hd : 0 ≤ e) (K : Option Value → Hp → Prop) : Cal e 22 [.ref m] h K = K (some (.int (iN (xN x)))) (h) := Cal_eq (c_people (hm := hm) (hB := hB) (hA := hA) (hW := hW)) hd K
theorem c_day {h : Hp} {m : Nat} {x : Mt} (hm : isM m) (hB : Bs h) (hA : At h m x) (hW : Wf x) : Ret 0 23 [.ref m] h (some (.int (xD x))) (h) := by
  refine Ret_L [some (.ref m)] rfl rfl fun Q hQ => ?_
  obtain ⟨oM, rM0, rM1, rM2, rM3, rM4, aM1, aM2, aM3, aM4, aM5, sM1, sM2, sM3, sM4, sM5⟩ := M_facts hm hB
  obtain ⟨fN, fD, fK, fF, fH, fM, fQ⟩ := hA
  (refine wp_go 600 ks_23_0.1 ?_; simp (disch := first | assumption | (simp only [ob_si, ar_si, ob_sl, ar_sl]; assumption) | omega) only [ldA_a, p_2, p_60, p_90, wpn_succ, wpn_zero, stp_h, lk_0, lk_s, st1_0, st1_1, st1_2, st2_0, st2_1, st2_2, kj_i, kj_a, kj_l, kj_n, cat_n, cat_i, cat_a, cat_u, cat_l, vc_i, vc_a, rv_s, tl_n, tl_s, Cal'_s, List.length_cons, List.length_nil, i0, i1, iNd, iN_lt, iN_le, iN_eq, iN_add, iN_mul, iN_mod, iN_sub, iN_div, iN_clamp, iN_inb, zle_N, zlt_N, zN_le, zN_lt, zN_eq, Nz_eq, mI_t, mI_f, bI_0, bI_1, bI_t, bI_f, dltT, dltF, dleT, dleF, deqT, deqF, Nat.not_lt_zero, not_true_eq_false, not_false_eq_true, true_and, and_true, false_and, and_false, or_true, true_or, false_or, or_false, and_self, if_true, if_false, Classical.not_not, Nat.add_assoc, Nat.zero_add, Nat.add_zero, bI_or, bI_True, bI_False, Bool.false_eq_true, reduceCtorEq, eq_self, gi_si, gl_si, gr_si, hn_si, hL_si, hX_si, gi_sl, gl_sl, gr_sl, hn_sl, ob_si, ar_si, ob_sl, ar_sl, ks_23_0, oM, rM0, rM1, rM2, rM3, rM4, aM1, aM2, aM3, aM4, aM5, fD])
  exact hQ
theorem c_day_q {h : Hp} {m : Nat} {x : Mt} (hm : isM m) (hB : Bs h) (hA : At h m x) (hW : Wf x) {e : Nat} (hd : 0 ≤ e) (K : Option Value → Hp → Prop) : Cal e 23 [.ref m] h K = K (some (.int (xD x))) (h) := Cal_eq (c_day (hm := hm) (hB := hB) (hA := hA) (hW := hW)) hd K
theorem c_hasT {h : Hp} {m i : Nat} {x : Mt} (hm : isM m) (hB : Bs h) (hA : At h m x) (hW : Wf x) (hi : i < xN x) : Ret 0 25 [.ref m, .int (iN i)] h (some (.int (iN 1))) (h) := by
  refine Ret_L [some (.ref m), some (.int (iN i))] rfl rfl fun Q hQ => ?_
  obtain ⟨oM, rM0, rM1, rM2, rM3, rM4, aM1, aM2, aM3, aM4, aM5, sM1, sM2, sM3, sM4, sM5⟩ := M_facts hm hB
  obtain ⟨fN, fD, fK, fF, fH, fM, fQ⟩ := hA
  have wN := hW.1
  (refine wp_go 600 ks_25_0.1 ?_; simp (disch := first | assumption | (simp only [ob_si, ar_si, ob_sl, ar_sl]; assumption) | omega) only [ci_0, ci_1, ldA_a, ldI_i, p_0, p_2, p_30, p_33, p_44, p_6, p_60, p_91, wpn_succ, wpn_zero, stp_h, lk_0, lk_s, st1_0, st1_1, st1_2, st2_0, st2_1, st2_2, kj_i, kj_a, kj_l, kj_n, cat_n, cat_i, cat_a, cat_u, cat_l, vc_i, vc_a, rv_s, tl_n, tl_s, Cal'_s, List.length_cons, List.length_nil, i0, i1, iNd, iN_lt, iN_le, iN_eq, iN_add, iN_mul, iN_mod, iN_sub, iN_div, iN_clamp, iN_inb, zle_N, zlt_N, zN_le, zN_lt, zN_eq, Nz_eq, mI_t, mI_f, bI_0, bI_1, bI_t, bI_f, dltT, dltF, dleT, dleF, deqT, deqF, Nat.not_lt_zero, not_true_eq_false, not_false_eq_true, true_and, and_true, false_and, and_false, or_true, true_or, false_or, or_false, and_self, if_true, if_false, Classical.not_not, Nat.add_assoc, Nat.zero_add, Nat.add_zero, bI_or, bI_True, bI_False, Bool.false_eq_true, reduceCtorEq, eq_self, gi_si, gl_si, gr_si, hn_si, hL_si, hX_si, gi_sl, gl_sl, gr_sl, hn_sl, ob_si, ar_si, ob_sl, ar_sl, ks_25_0, oM, rM0, rM1, rM2, rM3, rM4, aM1, aM2, aM3, aM4, aM5, fN])
  exact hQ
theorem c_hasT_q {h : Hp} {m i : Nat} {x : Mt} (hm : isM m) (hB : Bs h) (hA : At h m x) (hW : Wf x) (hi : i < xN x) {e : Nat} (hd : 0 ≤ e) (K : Option Value → Hp → Prop) : Cal e 25 [.ref m, .int (iN i)] h K = K (some (.int (iN 1))) (h) := Cal_eq (c_hasT (hm := hm) (hB := hB) (hA := hA) (hW := hW) (hi := hi)) hd K
theorem c_hasG {h : Hp} {m i : Nat} {x : Mt} (hm : isM m) (hB : Bs h) (hA : At h m x) (hW : Wf x) (hi : xN x ≤ i) (hi2 : i < 2147483648) : Ret 0 25 [.ref m, .int (iN i)] h (some (.int (iN 0))) (h) := by
  refine Ret_L [some (.ref m), some (.int (iN i))] rfl rfl fun Q hQ => ?_
  obtain ⟨oM, rM0, rM1, rM2, rM3, rM4, aM1, aM2, aM3, aM4, aM5, sM1, sM2, sM3, sM4, sM5⟩ := M_facts hm hB
  obtain ⟨fN, fD, fK, fF, fH, fM, fQ⟩ := hA
  have wN := hW.1
  (refine wp_go 600 ks_25_0.1 ?_; simp (disch := first | assumption | (simp only [ob_si, ar_si, ob_sl, ar_sl]; assumption) | omega) only [ci_0, ci_1, ldA_a, ldI_i, p_0, p_2, p_30, p_33, p_44, p_6, p_60, p_91, wpn_succ, wpn_zero, stp_h, lk_0, lk_s, st1_0, st1_1, st1_2, st2_0, st2_1, st2_2, kj_i, kj_a, kj_l, kj_n, cat_n, cat_i, cat_a, cat_u, cat_l, vc_i, vc_a, rv_s, tl_n, tl_s, Cal'_s, List.length_cons, List.length_nil, i0, i1, iNd, iN_lt, iN_le, iN_eq, iN_add, iN_mul, iN_mod, iN_sub, iN_div, iN_clamp, iN_inb, zle_N, zlt_N, zN_le, zN_lt, zN_eq, Nz_eq, mI_t, mI_f, bI_0, bI_1, bI_t, bI_f, dltT, dltF, dleT, dleF, deqT, deqF, Nat.not_lt_zero, not_true_eq_false, not_false_eq_true, true_and, and_true, false_and, and_false, or_true, true_or, false_or, or_false, and_self, if_true, if_false, Classical.not_not, Nat.add_assoc, Nat.zero_add, Nat.add_zero, bI_or, bI_True, bI_False, Bool.false_eq_true, reduceCtorEq, eq_self, gi_si, gl_si, gr_si, hn_si, hL_si, hX_si, gi_sl, gl_sl, gr_sl, hn_sl, ob_si, ar_si, ob_sl, ar_sl, ks_25_0, oM, rM0, rM1, rM2, rM3, rM4, aM1, aM2, aM3, aM4, aM5, fN])
  exact hQ
theorem c_hasG_q {h : Hp} {m i : Nat} {x : Mt} (hm : isM m) (hB : Bs h) (hA : At h m x) (hW : Wf x) (hi : xN x ≤ i) (hi2 : i < 2147483648) {e : Nat} (hd : 0 ≤ e) (K : Option Value → Hp → Prop) : Cal e 25 [.ref m, .int (iN i)] h K = K (some (.int (iN 0))) (h) := Cal_eq (c_hasG (hm := hm) (hB := hB) (hA := hA) (hW := hW) (hi := hi) (hi2 := hi2)) hd K
theorem c_hasF {h : Hp} {m : Nat} {p : Int32} {x : Mt} (hm : isM m) (hB : Bs h) (hA : At h m x) (hW : Wf x) (hp : ¬ isP (xN x) p) : Ret 0 25 [.ref m, .int p] h (some (.int (iN 0))) (h) := by
  refine Ret_L [some (.ref m), some (.int p)] rfl rfl fun Q hQ => ?_
  obtain ⟨oM, rM0, rM1, rM2, rM3, rM4, aM1, aM2, aM3, aM4, aM5, sM1, sM2, sM3, sM4, sM5⟩ := M_facts hm hB
  obtain ⟨fN, fD, fK, fF, fH, fM, fQ⟩ := hA
  have wN := hW.1
  (refine wp_go 600 ks_25_0.1 ?_; simp (disch := first | assumption | (simp only [ob_si, ar_si, ob_sl, ar_sl]; assumption) | omega) only [ci_0, ci_1, ldA_a, ldI_i, p_0, p_2, p_30, p_33, p_44, p_6, p_60, p_91, wpn_succ, wpn_zero, stp_h, lk_0, lk_s, st1_0, st1_1, st1_2, st2_0, st2_1, st2_2, kj_i, kj_a, kj_l, kj_n, cat_n, cat_i, cat_a, cat_u, cat_l, vc_i, vc_a, rv_s, tl_n, tl_s, Cal'_s, List.length_cons, List.length_nil, i0, i1, iNd, iN_lt, iN_le, iN_eq, iN_add, iN_mul, iN_mod, iN_sub, iN_div, iN_clamp, iN_inb, zle_N, zlt_N, zN_le, zN_lt, zN_eq, Nz_eq, mI_t, mI_f, bI_0, bI_1, bI_t, bI_f, dltT, dltF, dleT, dleF, deqT, deqF, Nat.not_lt_zero, not_true_eq_false, not_false_eq_true, true_and, and_true, false_and, and_false, or_true, true_or, false_or, or_false, and_self, if_true, if_false, Classical.not_not, Nat.add_assoc, Nat.zero_add, Nat.add_zero, bI_or, bI_True, bI_False, Bool.false_eq_true, reduceCtorEq, eq_self, gi_si, gl_si, gr_si, hn_si, hL_si, hX_si, gi_sl, gl_sl, gr_sl, hn_sl, ob_si, ar_si, ob_sl, ar_sl, ks_25_0, oM, rM0, rM1, rM2, rM3, rM4, aM1, aM2, aM3, aM4, aM5, fN])
  split
  · exact hQ
  · split
    · exact hQ
    · exact absurd (ex_N ‹_› ‹_› (by omega)) hp
theorem c_hasF_q {h : Hp} {m : Nat} {p : Int32} {x : Mt} (hm : isM m) (hB : Bs h) (hA : At h m x) (hW : Wf x) (hp : ¬ isP (xN x) p) {e : Nat} (hd : 0 ≤ e) (K : Option Value → Hp → Prop) : Cal e 25 [.ref m, .int p] h K = K (some (.int (iN 0))) (h) := Cal_eq (c_hasF (hm := hm) (hB := hB) (hA := hA) (hW := hW) (hp := hp)) hd K
