/-! ones of a whole int; its lowest bit -/
theorem iN_bv (v : Nat) : (iN v).toBitVec = BitVec.ofNat 32 v := by rw [iN_def]; rfl
theorem sh_k : ∀ k < 32, ((Int32.ofNat k &&& 31).toBitVec.smod 32#32).toNat = k := by decide
theorem tb_1 {i : Nat} (h : ¬ i = 0) : Nat.testBit 1 i = false := by
  cases hb : Nat.testBit 1 i with
  | false => rfl
  | true => exact absurd (Nat.testBit_one_eq_true_iff_self_eq_zero.mp hb) h
theorem bit32 {v k : Nat} (hk : k < 32) : (iN v >>> (iN k &&& 31)) &&& iN 1 = bI (v.testBit k = true) := by
  have e1 : (iN v >>> (iN k &&& 31)).toBitVec = (BitVec.ofNat 32 v).sshiftRight k := by
    rw [iN_def k]
    show (iN v).toBitVec.sshiftRight ((Int32.ofNat k &&& 31).toBitVec.smod 32#32).toNat = _
    rw [sh_k k hk, iN_bv]
  have e2 : ((iN v >>> (iN k &&& 31)) &&& iN 1).toBitVec = (BitVec.ofNat 32 v).sshiftRight k &&& BitVec.ofNat 32 1 := by
    rw [Int32.toBitVec_and, e1, iN_bv]
  by_cases hb : v.testBit k = true
  · rw [bI_t hb, ← Int32.toBitVec_inj, e2, iN_bv]
    apply BitVec.eq_of_getLsbD_eq
    intro i hi
    rw [BitVec.getLsbD_and, BitVec.getLsbD_sshiftRight, BitVec.getLsbD_ofNat, BitVec.getLsbD_ofNat]
    by_cases h0 : i = 0
    · subst h0
      simp [hk, hb]
    · simp [tb_1 h0]
  · rw [bI_f hb, ← Int32.toBitVec_inj, e2, iN_bv]
    apply BitVec.eq_of_getLsbD_eq
    intro i hi
    rw [BitVec.getLsbD_and, BitVec.getLsbD_sshiftRight, BitVec.getLsbD_ofNat, BitVec.getLsbD_ofNat, BitVec.getLsbD_ofNat]
    by_cases h0 : i = 0
    · subst h0
      simp [hk, hb]
    · simp [tb_1 h0]
theorem c_bit32 {h : Hp} {v k : Nat} (hk : k < 32) : Ret 0 194 [.int (iN v), .int (iN k)] h (some (.int (bI (v.testBit k = true)))) (h) := by
  refine Ret_L [some (.int (iN v)), some (.int (iN k))] rfl rfl fun Q hQ => ?_
  by_cases hp : v.testBit k = true
  · rw [bI_t hp] at hQ
    (refine wp_go 600 ks_194_0.1 ?_; simp (disch := first | with_reducible assumption | omega | (simp only [ob_si, ar_si, ob_sl, ar_sl]; with_reducible assumption)) only [ci_0, ci_1, ldI_i, r_0, r_13, r_16, r_30, r_42, r_6, r_91, wpn_S, wpn_zero, stp_h, lk_0, lk_s, st1_0, st1_1, st1_2, st2_0, st2_1, st2_2, kj_i, kj_a, kj_l, kj_n, cat_n, cat_i, cat_a, cat_u, cat_l, vc_i, vc_a, rv_s, tl_n, tl_s, Cal'_s, List.length_cons, List.length_nil, i0, i1, iNd, iN_lt, iN_le, iN_eq, iN_add, iN_mul, iN_mod, iN_sub, iN_div, iN_clamp, iN_inb, zle_N, zlt_N, zN_le, zN_lt, zN_eq, Nz_eq, mI_t, mI_f, bI_0, bI_1, bI_t, bI_f, dltT, dltF, dleT, dleF, deqT, deqF, Nat.not_lt_zero, not_true_eq_false, not_false_eq_true, true_and, and_true, false_and, and_false, or_true, true_or, false_or, or_false, and_self, if_true, if_false, Classical.not_not, Nat.add_assoc, Nat.zero_add, Nat.add_zero, bI_or, bI_True, bI_False, Bool.false_eq_true, reduceCtorEq, eq_self, gi_si, gl_si, gr_si, hn_si, hL_si, hX_si, gi_sl, gl_sl, gr_sl, hn_sl, ob_si, ar_si, ob_sl, ar_sl, ks_194_0, bit32, hp])
    exact hQ
  · rw [bI_f hp] at hQ
    (refine wp_go 600 ks_194_0.1 ?_; simp (disch := first | with_reducible assumption | omega | (simp only [ob_si, ar_si, ob_sl, ar_sl]; with_reducible assumption)) only [ci_0, ci_1, ldI_i, r_0, r_13, r_16, r_30, r_42, r_6, r_91, wpn_S, wpn_zero, stp_h, lk_0, lk_s, st1_0, st1_1, st1_2, st2_0, st2_1, st2_2, kj_i, kj_a, kj_l, kj_n, cat_n, cat_i, cat_a, cat_u, cat_l, vc_i, vc_a, rv_s, tl_n, tl_s, Cal'_s, List.length_cons, List.length_nil, i0, i1, iNd, iN_lt, iN_le, iN_eq, iN_add, iN_mul, iN_mod, iN_sub, iN_div, iN_clamp, iN_inb, zle_N, zlt_N, zN_le, zN_lt, zN_eq, Nz_eq, mI_t, mI_f, bI_0, bI_1, bI_t, bI_f, dltT, dltF, dleT, dleF, deqT, deqF, Nat.not_lt_zero, not_true_eq_false, not_false_eq_true, true_and, and_true, false_and, and_false, or_true, true_or, false_or, or_false, and_self, if_true, if_false, Classical.not_not, Nat.add_assoc, Nat.zero_add, Nat.add_zero, bI_or, bI_True, bI_False, Bool.false_eq_true, reduceCtorEq, eq_self, gi_si, gl_si, gr_si, hn_si, hL_si, hX_si, gi_sl, gl_sl, gr_sl, hn_sl, ob_si, ar_si, ob_sl, ar_sl, ks_194_0, bit32, hp])
    exact hQ
theorem c_bit32_q {h : Hp} {v k : Nat} (hk : k < 32) {e : Nat} (hd : 0 ≤ e) (K : Option Value → Hp → Prop) : Cal e 194 [.int (iN v), .int (iN k)] h K = K (some (.int (bI (v.testBit k = true)))) (h) := Cal_eq (c_bit32 (hk := hk)) hd K
noncomputable def lbF (v k : Nat) : Option Nat := if v.testBit k = true then some k else none
theorem c_low {h : Hp} {v : Nat} (hh : True) : Ret 1 195 [.int (iN v)] h (some (.int (oI (itx (lbF v) 0 32)))) (h) := by
  refine Ret_L [some (.int (iN v)), none] rfl rfl fun Q hQ => ?_
  (refine wp_go 600 ks_195_0.1 ?_; simp (disch := first | with_reducible assumption | omega | (simp only [ob_si, ar_si, ob_sl, ar_sl]; with_reducible assumption)) only [ci_0, ci_1, ci_31, cm_9, inc_i, ldI_i, r_0, r_3, r_30, r_31, r_45, r_6, r_81_2, r_9, r_90, wpn_S, wpn_zero, stp_h, lk_0, lk_s, st1_0, st1_1, st1_2, st2_0, st2_1, st2_2, kj_i, kj_a, kj_l, kj_n, cat_n, cat_i, cat_a, cat_u, cat_l, vc_i, vc_a, rv_s, tl_n, tl_s, Cal'_s, List.length_cons, List.length_nil, i0, i1, iNd, iN_lt, iN_le, iN_eq, iN_add, iN_mul, iN_mod, iN_sub, iN_div, iN_clamp, iN_inb, zle_N, zlt_N, zN_le, zN_lt, zN_eq, Nz_eq, mI_t, mI_f, bI_0, bI_1, bI_t, bI_f, dltT, dltF, dleT, dleF, deqT, deqF, Nat.not_lt_zero, not_true_eq_false, not_false_eq_true, true_and, and_true, false_and, and_false, or_true, true_or, false_or, or_false, and_self, if_true, if_false, Classical.not_not, Nat.add_assoc, Nat.zero_add, Nat.add_zero, bI_or, bI_True, bI_False, Bool.false_eq_true, reduceCtorEq, eq_self, gi_si, gl_si, gr_si, hn_si, hL_si, hX_si, gi_sl, gl_sl, gr_sl, hn_sl, ob_si, ar_si, ob_sl, ar_sl, ks_195_0])
  refine wp_find (fun k (_ : Unit) => [some (.int (iN v)), some (.int (iN k))]) (lbF v) 32 ?_ 32 0 () (by omega) ?_ ?_
  · intro k w hk hf hn
    unfold lbF at hf
    by_cases hb : v.testBit k = true
    · rw [if_pos hb] at hf; cases hf
    · (refine wp_go 600 ks_195_0.2.2.1 ?_; simp (disch := first | with_reducible assumption | omega | (simp only [ob_si, ar_si, ob_sl, ar_sl]; with_reducible assumption)) only [ci_0, ci_1, ci_31, cm_9, inc_i, ldI_i, r_0, r_3, r_30, r_31, r_45, r_6, r_81_2, r_9, r_90, wpn_S, wpn_zero, stp_h, lk_0, lk_s, st1_0, st1_1, st1_2, st2_0, st2_1, st2_2, kj_i, kj_a, kj_l, kj_n, cat_n, cat_i, cat_a, cat_u, cat_l, vc_i, vc_a, rv_s, tl_n, tl_s, Cal'_s, List.length_cons, List.length_nil, i0, i1, iNd, iN_lt, iN_le, iN_eq, iN_add, iN_mul, iN_mod, iN_sub, iN_div, iN_clamp, iN_inb, zle_N, zlt_N, zN_le, zN_lt, zN_eq, Nz_eq, mI_t, mI_f, bI_0, bI_1, bI_t, bI_f, dltT, dltF, dleT, dleF, deqT, deqF, Nat.not_lt_zero, not_true_eq_false, not_false_eq_true, true_and, and_true, false_and, and_false, or_true, true_or, false_or, or_false, and_self, if_true, if_false, Classical.not_not, Nat.add_assoc, Nat.zero_add, Nat.add_zero, bI_or, bI_True, bI_False, Bool.false_eq_true, reduceCtorEq, eq_self, gi_si, gl_si, gr_si, hn_si, hL_si, hX_si, gi_sl, gl_sl, gr_sl, hn_sl, ob_si, ar_si, ob_sl, ar_sl, ks_195_0, c_bit32_q, hb])
      exact hn ()
  · intro r hr k w hk hf
    rw [hr] at hQ
    unfold lbF at hf
    by_cases hb : v.testBit k = true
    · rw [if_pos hb] at hf
      obtain rfl := Option.some.inj hf
      (refine wp_go 600 ks_195_0.2.2.1 ?_; simp (disch := first | with_reducible assumption | omega | (simp only [ob_si, ar_si, ob_sl, ar_sl]; with_reducible assumption)) only [ci_0, ci_1, ci_31, cm_9, inc_i, ldI_i, r_0, r_3, r_30, r_31, r_45, r_6, r_81_2, r_9, r_90, wpn_S, wpn_zero, stp_h, lk_0, lk_s, st1_0, st1_1, st1_2, st2_0, st2_1, st2_2, kj_i, kj_a, kj_l, kj_n, cat_n, cat_i, cat_a, cat_u, cat_l, vc_i, vc_a, rv_s, tl_n, tl_s, Cal'_s, List.length_cons, List.length_nil, i0, i1, iNd, iN_lt, iN_le, iN_eq, iN_add, iN_mul, iN_mod, iN_sub, iN_div, iN_clamp, iN_inb, zle_N, zlt_N, zN_le, zN_lt, zN_eq, Nz_eq, mI_t, mI_f, bI_0, bI_1, bI_t, bI_f, dltT, dltF, dleT, dleF, deqT, deqF, Nat.not_lt_zero, not_true_eq_false, not_false_eq_true, true_and, and_true, false_and, and_false, or_true, true_or, false_or, or_false, and_self, if_true, if_false, Classical.not_not, Nat.add_assoc, Nat.zero_add, Nat.add_zero, bI_or, bI_True, bI_False, Bool.false_eq_true, reduceCtorEq, eq_self, gi_si, gl_si, gr_si, hn_si, hL_si, hX_si, gi_sl, gl_sl, gr_sl, hn_sl, ob_si, ar_si, ob_sl, ar_sl, ks_195_0, c_bit32_q, hb])
      exact hQ
    · rw [if_neg hb] at hf; cases hf
  · intro he w
    rw [he] at hQ
    (refine wp_go 600 ks_195_0.2.2.1 ?_; simp (disch := first | with_reducible assumption | omega | (simp only [ob_si, ar_si, ob_sl, ar_sl]; with_reducible assumption)) only [ci_0, ci_1, ci_31, cm_9, inc_i, ldI_i, r_0, r_3, r_30, r_31, r_45, r_6, r_81_2, r_9, r_90, wpn_S, wpn_zero, stp_h, lk_0, lk_s, st1_0, st1_1, st1_2, st2_0, st2_1, st2_2, kj_i, kj_a, kj_l, kj_n, cat_n, cat_i, cat_a, cat_u, cat_l, vc_i, vc_a, rv_s, tl_n, tl_s, Cal'_s, List.length_cons, List.length_nil, i0, i1, iNd, iN_lt, iN_le, iN_eq, iN_add, iN_mul, iN_mod, iN_sub, iN_div, iN_clamp, iN_inb, zle_N, zlt_N, zN_le, zN_lt, zN_eq, Nz_eq, mI_t, mI_f, bI_0, bI_1, bI_t, bI_f, dltT, dltF, dleT, dleF, deqT, deqF, Nat.not_lt_zero, not_true_eq_false, not_false_eq_true, true_and, and_true, false_and, and_false, or_true, true_or, false_or, or_false, and_self, if_true, if_false, Classical.not_not, Nat.add_assoc, Nat.zero_add, Nat.add_zero, bI_or, bI_True, bI_False, Bool.false_eq_true, reduceCtorEq, eq_self, gi_si, gl_si, gr_si, hn_si, hL_si, hX_si, gi_sl, gl_sl, gr_sl, hn_sl, ob_si, ar_si, ob_sl, ar_sl, ks_195_0])
    exact hQ
theorem c_low_q {h : Hp} {v : Nat} (hh : True) {e : Nat} (hd : 1 ≤ e) (K : Option Value → Hp → Prop) : Cal e 195 [.int (iN v)] h K = K (some (.int (oI (itx (lbF v) 0 32)))) (h) := Cal_eq (c_low (hh := hh)) hd K
/-! ones -/
noncomputable def pc8 (a : Nat) : Nat := a % 2 + a / 2 % 2 + a / 4 % 2 + a / 8 % 2 + a / 16 % 2 + a / 32 % 2 + a / 64 % 2 + a / 128 % 2
noncomputable def pcN (v : Nat) : Nat := pc8 (v % 256) + pc8 (v / 256 % 256) + pc8 (v / 65536 % 256) + pc8 (v / 16777216 % 256)
theorem and_b {a b c d : Nat} (hb : b < 256) (hd : d < 256) : (256 * a + b) &&& (256 * c + d) = 256 * (a &&& c) + (b &&& d) := by
  have hb2 : b < 2 ^ 8 := hb
  have hd2 : d < 2 ^ 8 := hd
  have hbd : b &&& d < 2 ^ 8 := Nat.lt_of_le_of_lt Nat.and_le_left hb2
  apply Nat.eq_of_testBit_eq
  intro j
  rw [show 256 = 2 ^ 8 from rfl, Nat.testBit_and, Nat.testBit_two_pow_mul_add a hb2, Nat.testBit_two_pow_mul_add c hd2, Nat.testBit_two_pow_mul_add (a &&& c) hbd]
  by_cases hj : j < 8
  · rw [if_pos hj, if_pos hj, if_pos hj, Nat.testBit_and]
  · rw [if_neg hj, if_neg hj, if_neg hj, Nat.testBit_and]
theorem dec_85 : ∀ a < 256, ∀ r < 2, (128 * r + a / 2) &&& 85 = (a / 2) &&& 85 := by decide +kernel
theorem dec_51 : ∀ a < 256, ∀ r < 4, (64 * r + a / 4) &&& 51 = (a / 4) &&& 51 := by decide +kernel
noncomputable def f1N (a : Nat) : Nat := a - ((a / 2) &&& 85)
noncomputable def f2N (a : Nat) : Nat := (a &&& 51) + ((a / 4) &&& 51)
noncomputable def f3N (a : Nat) : Nat := (a + a / 16) % 16
theorem dec_f : ∀ a < 256, f1N a < 256 ∧ ((a / 2) &&& 85) ≤ a ∧ f2N (f1N a) % 16 ≤ 4 ∧ f2N (f1N a) / 16 ≤ 4 ∧ f3N (f2N (f1N a)) = pc8 a ∧ ((f1N a) &&& 51) < 256 ∧ pc8 a ≤ 8 := by decide +kernel
theorem and_4 {m : Nat} (hm : m < 256) {a b c d : Nat} (ha : a < 256) (hb : b < 256) (hc : c < 256) (hd : d < 256) : (256 * (256 * (256 * d + c) + b) + a) &&& (256 * (256 * (256 * m + m) + m) + m) = 256 * (256 * (256 * (d &&& m) + (c &&& m)) + (b &&& m)) + (a &&& m) := by
  rw [and_b ha hm, and_b hb hm, and_b hc hm]
theorem sh_u {v s : Nat} (hv : v < 4294967296) (hs : s = 1 ∨ s = 2 ∨ s = 4 ∨ s = 8 ∨ s = 16) : ((iN v).toUInt32 >>> ((Int32.ofInt s).toUInt32 &&& Int32.toUInt32 31)).toInt32 = iN (v / 2 ^ s) := by
  have e : ((Int32.ofInt s).toUInt32 &&& Int32.toUInt32 31) = UInt32.ofNat s := by rcases hs with rfl | rfl | rfl | rfl | rfl <;> decide
  have e2 : (UInt32.ofNat s).toNat % 32 = s := by rcases hs with rfl | rfl | rfl | rfl | rfl <;> decide
  rw [e, ← Int32.toBitVec_inj, iN_bv (v / 2 ^ s), iN_def v]
  apply BitVec.eq_of_toNat_eq
  show (UInt32.ofNat v >>> UInt32.ofNat s).toNat = _
  rw [UInt32.toNat_shiftRight, e2, UInt32.toNat_ofNat', BitVec.toNat_ofNat, Nat.shiftRight_eq_div_pow]
  have h1 : v / 2 ^ s ≤ v := Nat.div_le_self _ _
  rw [Nat.mod_eq_of_lt (show v < 2 ^ 32 by omega), Nat.mod_eq_of_lt (show v / 2 ^ s < 2 ^ 32 by omega)]
theorem co (v : Nat) : Int32.ofInt (v : Int) = iN v := by rw [iN_def]; exact Int32.ofInt_eq_ofNat
noncomputable def us (x : Int32) (s : Int) : Int32 := (x.toUInt32 >>> ((Int32.ofInt s).toUInt32 &&& Int32.toUInt32 31)).toInt32
theorem us_N {v s : Nat} (hv : v < 4294967296) (hs : s = 1 ∨ s = 2 ∨ s = 4 ∨ s = 8 ∨ s = 16) : us (iN v) s = iN (v / 2 ^ s) := sh_u hv hs
noncomputable def sw1 (x : Int32) : Int32 := x - (us x 1 &&& Int32.ofInt 1431655765)
noncomputable def sw2 (x : Int32) : Int32 := (x &&& Int32.ofInt 858993459) + (us x 2 &&& Int32.ofInt 858993459)
noncomputable def sw3 (x : Int32) : Int32 := (x + us x 4) &&& Int32.ofInt 252645135
noncomputable def sw4 (x : Int32) : Int32 := x + us x 8
noncomputable def sw5 (x : Int32) : Int32 := x + us x 16
noncomputable def sw6 (x : Int32) : Int32 := x &&& Int32.ofInt 63
theorem swar {v : Nat} (hv : v < 4294967296) : sw6 (sw5 (sw4 (sw3 (sw2 (sw1 (iN v)))))) = iN (pcN v) := by
  obtain ⟨a, ha⟩ : ∃ a, a = v % 256 := ⟨_, rfl⟩
  obtain ⟨b, hb⟩ : ∃ b, b = v / 256 % 256 := ⟨_, rfl⟩
  obtain ⟨c, hc⟩ : ∃ c, c = v / 65536 % 256 := ⟨_, rfl⟩
  obtain ⟨d, hd⟩ : ∃ d, d = v / 16777216 % 256 := ⟨_, rfl⟩
  have hp : pcN v = pc8 a + pc8 b + pc8 c + pc8 d := by unfold pcN; rw [← ha, ← hb, ← hc, ← hd]
  rw [hp]
  have la : a < 256 := by omega
  have lb : b < 256 := by omega
  have lc : c < 256 := by omega
  have ld : d < 256 := by omega
  have ev : v = 256 * (256 * (256 * d + c) + b) + a := by omega
  obtain ⟨a1, a2, a3, a4, a5, a6, a7⟩ := dec_f a la
  obtain ⟨b1, b2, b3, b4, b5, b6, b7⟩ := dec_f b lb
  obtain ⟨c1, c2, c3, c4, c5, c6, c7⟩ := dec_f c lc
  obtain ⟨d1, d2, d3, d4, d5, d6, d7⟩ := dec_f d ld
  -- one
  have m85 : 1431655765 = 256 * (256 * (256 * 85 + 85) + 85) + 85 := rfl
  have m51 : 858993459 = 256 * (256 * (256 * 51 + 51) + 51) + 51 := rfl
  have m15 : 252645135 = 256 * (256 * (256 * 15 + 15) + 15) + 15 := rfl
  have s1 : sw1 (iN v) = iN (256 * (256 * (256 * f1N d + f1N c) + f1N b) + f1N a) := by
    unfold sw1
    rw [show (1 : Int) = ((1 : Nat) : Int) from rfl, us_N hv (Or.inl rfl), show (1431655765 : Int) = ((1431655765 : Nat) : Int) from rfl, co, iN_and]
    have e : v / 2 ^ 1 = 256 * (256 * (256 * (d / 2) + (128 * (d % 2) + c / 2)) + (128 * (c % 2) + b / 2)) + (128 * (b % 2) + a / 2) := by omega
    rw [e, m85, and_4 (by omega) (by omega) (by omega) (by omega) (by omega), dec_85 a la (b % 2) (by omega), dec_85 b lb (c % 2) (by omega), dec_85 c lc (d % 2) (by omega)]
    rw [iN_sub (by omega)]
    congr 1
    unfold f1N
    omega
  have s2 : sw2 (sw1 (iN v)) = iN (256 * (256 * (256 * f2N (f1N d) + f2N (f1N c)) + f2N (f1N b)) + f2N (f1N a)) := by
    rw [s1]
    unfold sw2
    rw [show (2 : Int) = ((2 : Nat) : Int) from rfl, us_N (by omega) (Or.inr (Or.inl rfl)), show (858993459 : Int) = ((858993459 : Nat) : Int) from rfl, co, iN_and, iN_and]
    have e : (256 * (256 * (256 * f1N d + f1N c) + f1N b) + f1N a) / 2 ^ 2 = 256 * (256 * (256 * (f1N d / 4) + (64 * (f1N d % 4) + f1N c / 4)) + (64 * (f1N c % 4) + f1N b / 4)) + (64 * (f1N b % 4) + f1N a / 4) := by omega
    rw [e, m51, and_4 (by omega) (by omega) (by omega) (by omega) (by omega), and_4 (by omega) (by omega) (by omega) (by omega) (by omega), dec_51 _ a1 (f1N b % 4) (by omega), dec_51 _ b1 (f1N c % 4) (by omega), dec_51 _ c1 (f1N d % 4) (by omega), iN_add]
    congr 1
    unfold f2N
    omega
  have s3 : sw3 (sw2 (sw1 (iN v))) = iN (256 * (256 * (256 * pc8 d + pc8 c) + pc8 b) + pc8 a) := by
    rw [s2]
    rw [← a5, ← b5, ← c5, ← d5]
    generalize f2N (f1N a) = a at *
    generalize f2N (f1N b) = b at *
    generalize f2N (f1N c) = c at *
    generalize f2N (f1N d) = d at *
    unfold sw3
    rw [show (4 : Int) = ((4 : Nat) : Int) from rfl, us_N (by omega) (Or.inr (Or.inr (Or.inl rfl))), show (252645135 : Int) = ((252645135 : Nat) : Int) from rfl, co, iN_add, iN_and]
    have e : 256 * (256 * (256 * d + c) + b) + a + (256 * (256 * (256 * d + c) + b) + a) / 2 ^ 4 = 256 * (256 * (256 * (d + d / 16) + (16 * (d % 16) + (c + c / 16))) + (16 * (c % 16) + (b + b / 16))) + (16 * (b % 16) + (a + a / 16)) := by omega
    rw [e, m15, and_4 (by omega) (by omega) (by omega) (by omega) (by omega)]
    have h15 : ∀ x, x &&& 15 = x % 16 := fun x => Nat.and_two_pow_sub_one_eq_mod x 4
    have e16 : ∀ x y, (16 * x + y) % 16 = y % 16 := fun x y => by omega
    rw [h15, h15, h15, h15, e16, e16, e16]
    rfl
  rw [s3]
  generalize pc8 a = p at *
  generalize pc8 b = q at *
  generalize pc8 c = r at *
  generalize pc8 d = t at *
  unfold sw4
  rw [show (8 : Int) = ((8 : Nat) : Int) from rfl, us_N (by omega) (Or.inr (Or.inr (Or.inr (Or.inl rfl)))), iN_add]
  have e4 : 256 * (256 * (256 * t + r) + q) + p + (256 * (256 * (256 * t + r) + q) + p) / 2 ^ 8 = 256 * (256 * (256 * t + (r + t)) + (q + r)) + (p + q) := by omega
  rw [e4]
  unfold sw5
  rw [show (16 : Int) = ((16 : Nat) : Int) from rfl, us_N (by omega) (Or.inr (Or.inr (Or.inr (Or.inr rfl)))), iN_add]
  have e5 : 256 * (256 * (256 * t + (r + t)) + (q + r)) + (p + q) + (256 * (256 * (256 * t + (r + t)) + (q + r)) + (p + q)) / 2 ^ 16 = 256 * (256 * (256 * t + (r + t)) + (q + r) + t) + (p + q + r + t) := by omega
  rw [e5]
  unfold sw6
  rw [show (63 : Int) = ((63 : Nat) : Int) from rfl, co, iN_and]
  have h63 : ∀ x, x &&& 63 = x % 64 := fun x => Nat.and_two_pow_sub_one_eq_mod x 6
  rw [h63]
  congr 1
  omega
theorem j_bc32 {h : Hp} {v : Nat} (hv : v < 4294967296) : Ret 0 298 [.int (iN v)] h (some (.int (iN (pcN v)))) (h) := by
  refine Ret_L [some (.int (iN v))] rfl rfl fun Q hQ => ?_
  have key : ∀ w, w = iN (pcN v) → Q (some (.int w)) h := fun w e => by rw [e]; exact hQ
  refine wp_go 600 ks_298_0.1 ?_
  simp only [ldI_i, p_0, p_10, p_11, p_13, p_17, p_3, p_6, p_90, wpn_S, wpn_zero, stp_h, lk_0, lk_s, st1_0, st1_1, st1_2, st2_0, st2_1, st2_2, kj_i, kj_a, kj_l, kj_n, cat_n, cat_i, cat_a, cat_u, cat_l, vc_i, vc_a, rv_s, tl_n, tl_s, Cal'_s, List.length_cons, List.length_nil, ks_298_0, ks_298_1, Nat.zero_add, Nat.lt_add_one, true_and]
  refine key _ ?_
  exact swar hv
theorem j_bc32_q {h : Hp} {v : Nat} (hv : v < 4294967296) {e : Nat} (hd : 0 ≤ e) (K : Option Value → Hp → Prop) : Cal e 298 [.int (iN v)] h K = K (some (.int (iN (pcN v)))) (h) := Cal_eq (j_bc32 (hv := hv)) hd K
noncomputable def tbs : Nat → Nat → Nat
  | 0, _ => 0
  | n + 1, v => v % 2 + tbs n (v / 2)
theorem cnt_tbs (v : Nat) : ∀ (n i a : Nat), itr (fun k a => if v.testBit k = true then a + 1 else a) i n a = a + tbs n (v / 2 ^ i)
  | 0, i, a => rfl
  | n + 1, i, a => by
    rw [itr_s, cnt_tbs v n (i + 1)]
    show _ = a + (v / 2 ^ i % 2 + tbs n (v / 2 ^ i / 2))
    rw [Nat.div_div_eq_div_mul, show 2 ^ i * 2 = 2 ^ (i + 1) from rfl, Nat.testBit_eq_decide_div_mod_eq]
    by_cases h : v / 2 ^ i % 2 = 1
    · rw [if_pos (by rw [decide_eq_true_eq]; exact h), h]; omega
    · rw [if_neg (by rw [decide_eq_true_eq]; exact h)]; omega
theorem tbs_8 (n v : Nat) : tbs (n + 8) v = pc8 (v % 256) + tbs n (v / 256) := by
  show v % 2 + (v / 2 % 2 + (v / 2 / 2 % 2 + (v / 2 / 2 / 2 % 2 + (v / 2 / 2 / 2 / 2 % 2 + (v / 2 / 2 / 2 / 2 / 2 % 2 + (v / 2 / 2 / 2 / 2 / 2 / 2 % 2 + (v / 2 / 2 / 2 / 2 / 2 / 2 / 2 % 2 + tbs n (v / 2 / 2 / 2 / 2 / 2 / 2 / 2 / 2)))))))) = _
  have e : v / 2 / 2 / 2 / 2 / 2 / 2 / 2 / 2 = v / 256 := by omega
  rw [e]
  unfold pc8
  omega
theorem cnt_pc (v : Nat) : itr (fun k a => if v.testBit k = true then a + 1 else a) 0 32 0 = pcN v := by
  rw [cnt_tbs, Nat.pow_zero, Nat.div_one, show (32 : Nat) = 24 + 8 from rfl, tbs_8, show (24 : Nat) = 16 + 8 from rfl, tbs_8, show (16 : Nat) = 8 + 8 from rfl, tbs_8, show (8 : Nat) = 0 + 8 from rfl, tbs_8]
  show 0 + (pc8 (v % 256) + (pc8 (v / 256 % 256) + (pc8 (v / 256 / 256 % 256) + (pc8 (v / 256 / 256 / 256 % 256) + 0)))) = _
  unfold pcN
  rw [show v / 256 / 256 = v / 65536 by omega, show v / 65536 / 256 = v / 16777216 by omega]
  omega
/-! bits that are told by P -/
noncomputable def fbS (P : Nat → Prop) (k a : Nat) : Nat := @ite _ (P k) (Classical.propDecidable _) (a ||| 2 ^ k) a
theorem fb_bit (P : Nat → Prop) : ∀ (n k : Nat), (itr (fbS P) 0 n 0).testBit k = true ↔ (k < n ∧ P k)
  | 0, k => by rw [itr_0, Nat.zero_testBit]; exact ⟨fun h => (by cases h), fun h => absurd h.1 (Nat.not_lt_zero k)⟩
  | n + 1, k => by
    rw [itr_last, Nat.zero_add]
    unfold fbS
    by_cases hP : P n
    · rw [if_pos hP, Nat.testBit_or, Nat.testBit_two_pow, Bool.or_eq_true, decide_eq_true_eq]
      change ((itr (fbS P) 0 n 0).testBit k = true ∨ _) ↔ _
      rw [fb_bit P n k]
      constructor
      · rintro (h | h)
        · exact ⟨by omega, h.2⟩
        · subst h; exact ⟨by omega, hP⟩
      · rintro ⟨h1, h2⟩
        by_cases e : n = k
        · exact Or.inr e
        · exact Or.inl ⟨by omega, h2⟩
    · rw [if_neg hP]
      change (itr (fbS P) 0 n 0).testBit k = true ↔ _
      rw [fb_bit P n k]
      constructor
      · rintro ⟨h1, h2⟩; exact ⟨by omega, h2⟩
      · rintro ⟨h1, h2⟩
        by_cases e : k = n
        · rw [e] at h2; exact absurd h2 hP
        · exact ⟨by omega, h2⟩
theorem fb_lt (P : Nat → Prop) (n : Nat) : itr (fbS P) 0 n 0 < 2 ^ n := by
  apply Nat.lt_pow_two_of_testBit
  intro i hi
  cases h : (itr (fbS P) 0 n 0).testBit i with
  | false => rfl
  | true => exact absurd ((fb_bit P n i).mp h).1 (by omega)
theorem itr_cgr {α : Type} {f g : Nat → α → α} : ∀ (k i : Nat) (a : α), (∀ j, i ≤ j → j < i + k → ∀ a, f j a = g j a) → itr f i k a = itr g i k a
  | 0, _, _, _ => rfl
  | k + 1, i, a, h => by rw [itr_s, itr_s, h i (Nat.le_refl _) (by omega) a]; exact itr_cgr k (i + 1) _ fun j h1 h2 => h j (by omega) (by omega)
theorem itx_cgr {ρ : Type} {f g : Nat → Option ρ} : ∀ (k i : Nat), (∀ j, i ≤ j → j < i + k → f j = g j) → itx f i k = itx g i k
  | 0, _, _ => rfl
  | k + 1, i, h => by
    have h0 := h i (Nat.le_refl _) (by omega)
    have h1 := itx_cgr k (i + 1) (fun j h1 h2 => h j (by omega) (by omega))
    cases e : f i with
    | none => rw [itx_n e, itx_n (by rw [← h0]; exact e), h1]
    | some r => rw [itx_r e, itx_r (by rw [← h0]; exact e)]
noncomputable def ctS (P : Nat → Prop) (k a : Nat) : Nat := @ite _ (P k) (Classical.propDecidable _) (a + 1) a
noncomputable def fsF (P : Nat → Prop) (k : Nat) : Option Nat := @ite _ (P k) (Classical.propDecidable _) (some k) none
theorem fb_cnt (P : Nat → Prop) : pcN (itr (fbS P) 0 32 0) = itr (ctS P) 0 32 0 := by
  rw [← cnt_pc]
  refine itr_cgr 32 0 0 fun j _ h2 a => ?_
  unfold ctS
  by_cases hP : P j
  · rw [if_pos hP, if_pos ((fb_bit P 32 j).mpr ⟨by omega, hP⟩)]
  · rw [if_neg hP, if_neg (fun e => hP ((fb_bit P 32 j).mp e).2)]
theorem fb_low (P : Nat → Prop) : itx (lbF (itr (fbS P) 0 32 0)) 0 32 = itx (fsF P) 0 32 := by
  refine itx_cgr 32 0 fun j _ h2 => ?_
  unfold lbF fsF
  by_cases hP : P j
  · rw [if_pos hP, if_pos ((fb_bit P 32 j).mpr ⟨by omega, hP⟩)]
  · rw [if_neg hP, if_neg (fun e => hP ((fb_bit P 32 j).mp e).2)]
