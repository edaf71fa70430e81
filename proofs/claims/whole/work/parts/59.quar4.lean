/-! a quarter: the model's statements -/
theorem o_l112 {h : Hp} (hh : True) : Ret 0 228 [.int (iN 112)] h (some (.int (iN 1))) (h) := by
  refine Ret_L [some (.int (iN 112))] rfl rfl fun Q hQ => ?_
  (refine wp_go 600 ks_228_0.1 ?_; simp (disch := first | with_reducible assumption | omega | (simp only [ob_si, ar_si, ob_sl, ar_sl]; with_reducible assumption)) only [ci_0, ci_1, ci_100, ci_104, ci_109, ci_112, ci_113, ldI_i, r_0, r_30, r_41, r_42, r_6, r_91, wpn_S, wpn_zero, stp_h, lk_0, lk_s, st1_0, st1_1, st1_2, st2_0, st2_1, st2_2, kj_i, kj_a, kj_l, kj_n, cat_n, cat_i, cat_a, cat_u, cat_l, vc_i, vc_a, rv_s, tl_n, tl_s, Cal'_s, List.length_cons, List.length_nil, i0, i1, iNd, iN_lt, iN_le, iN_eq, iN_add, iN_mul, iN_mod, iN_sub, iN_div, iN_clamp, iN_inb, zle_N, zlt_N, zN_le, zN_lt, zN_eq, Nz_eq, mI_t, mI_f, bI_0, bI_1, bI_t, bI_f, dltT, dltF, dleT, dleF, deqT, deqF, Nat.not_lt_zero, not_true_eq_false, not_false_eq_true, true_and, and_true, false_and, and_false, or_true, true_or, false_or, or_false, and_self, if_true, if_false, Classical.not_not, Nat.add_assoc, Nat.zero_add, Nat.add_zero, bI_or, bI_True, bI_False, Bool.false_eq_true, reduceCtorEq, eq_self, gi_si, gl_si, gr_si, hn_si, hL_si, hX_si, gi_sl, gl_sl, gr_sl, hn_sl, ob_si, ar_si, ob_sl, ar_sl, ks_228_0])
  exact hQ
theorem o_l112_q {h : Hp} (hh : True) {e : Nat} (hd : 0 ≤ e) (K : Option Value → Hp → Prop) : Cal e 228 [.int (iN 112)] h K = K (some (.int (iN 1))) (h) := Cal_eq (o_l112 (hh := hh)) hd K
theorem o_l113 {h : Hp} (hh : True) : Ret 0 228 [.int (iN 113)] h (some (.int (iN 1))) (h) := by
  refine Ret_L [some (.int (iN 113))] rfl rfl fun Q hQ => ?_
  (refine wp_go 600 ks_228_0.1 ?_; simp (disch := first | with_reducible assumption | omega | (simp only [ob_si, ar_si, ob_sl, ar_sl]; with_reducible assumption)) only [ci_0, ci_1, ci_100, ci_104, ci_109, ci_112, ci_113, ldI_i, r_0, r_30, r_41, r_42, r_6, r_91, wpn_S, wpn_zero, stp_h, lk_0, lk_s, st1_0, st1_1, st1_2, st2_0, st2_1, st2_2, kj_i, kj_a, kj_l, kj_n, cat_n, cat_i, cat_a, cat_u, cat_l, vc_i, vc_a, rv_s, tl_n, tl_s, Cal'_s, List.length_cons, List.length_nil, i0, i1, iNd, iN_lt, iN_le, iN_eq, iN_add, iN_mul, iN_mod, iN_sub, iN_div, iN_clamp, iN_inb, zle_N, zlt_N, zN_le, zN_lt, zN_eq, Nz_eq, mI_t, mI_f, bI_0, bI_1, bI_t, bI_f, dltT, dltF, dleT, dleF, deqT, deqF, Nat.not_lt_zero, not_true_eq_false, not_false_eq_true, true_and, and_true, false_and, and_false, or_true, true_or, false_or, or_false, and_self, if_true, if_false, Classical.not_not, Nat.add_assoc, Nat.zero_add, Nat.add_zero, bI_or, bI_True, bI_False, Bool.false_eq_true, reduceCtorEq, eq_self, gi_si, gl_si, gr_si, hn_si, hL_si, hX_si, gi_sl, gl_sl, gr_sl, hn_sl, ob_si, ar_si, ob_sl, ar_sl, ks_228_0])
  exact hQ
theorem o_l113_q {h : Hp} (hh : True) {e : Nat} (hd : 0 ≤ e) (K : Option Value → Hp → Prop) : Cal e 228 [.int (iN 113)] h K = K (some (.int (iN 1))) (h) := Cal_eq (o_l113 (hh := hh)) hd K
theorem o_l104 {h : Hp} (hh : True) : Ret 0 228 [.int (iN 104)] h (some (.int (iN 1))) (h) := by
  refine Ret_L [some (.int (iN 104))] rfl rfl fun Q hQ => ?_
  (refine wp_go 600 ks_228_0.1 ?_; simp (disch := first | with_reducible assumption | omega | (simp only [ob_si, ar_si, ob_sl, ar_sl]; with_reducible assumption)) only [ci_0, ci_1, ci_100, ci_104, ci_109, ci_112, ci_113, ldI_i, r_0, r_30, r_41, r_42, r_6, r_91, wpn_S, wpn_zero, stp_h, lk_0, lk_s, st1_0, st1_1, st1_2, st2_0, st2_1, st2_2, kj_i, kj_a, kj_l, kj_n, cat_n, cat_i, cat_a, cat_u, cat_l, vc_i, vc_a, rv_s, tl_n, tl_s, Cal'_s, List.length_cons, List.length_nil, i0, i1, iNd, iN_lt, iN_le, iN_eq, iN_add, iN_mul, iN_mod, iN_sub, iN_div, iN_clamp, iN_inb, zle_N, zlt_N, zN_le, zN_lt, zN_eq, Nz_eq, mI_t, mI_f, bI_0, bI_1, bI_t, bI_f, dltT, dltF, dleT, dleF, deqT, deqF, Nat.not_lt_zero, not_true_eq_false, not_false_eq_true, true_and, and_true, false_and, and_false, or_true, true_or, false_or, or_false, and_self, if_true, if_false, Classical.not_not, Nat.add_assoc, Nat.zero_add, Nat.add_zero, bI_or, bI_True, bI_False, Bool.false_eq_true, reduceCtorEq, eq_self, gi_si, gl_si, gr_si, hn_si, hL_si, hX_si, gi_sl, gl_sl, gr_sl, hn_sl, ob_si, ar_si, ob_sl, ar_sl, ks_228_0])
  exact hQ
theorem o_l104_q {h : Hp} (hh : True) {e : Nat} (hd : 0 ≤ e) (K : Option Value → Hp → Prop) : Cal e 228 [.int (iN 104)] h K = K (some (.int (iN 1))) (h) := Cal_eq (o_l104 (hh := hh)) hd K
theorem o_l109 {h : Hp} (hh : True) : Ret 0 228 [.int (iN 109)] h (some (.int (iN 1))) (h) := by
  refine Ret_L [some (.int (iN 109))] rfl rfl fun Q hQ => ?_
  (refine wp_go 600 ks_228_0.1 ?_; simp (disch := first | with_reducible assumption | omega | (simp only [ob_si, ar_si, ob_sl, ar_sl]; with_reducible assumption)) only [ci_0, ci_1, ci_100, ci_104, ci_109, ci_112, ci_113, ldI_i, r_0, r_30, r_41, r_42, r_6, r_91, wpn_S, wpn_zero, stp_h, lk_0, lk_s, st1_0, st1_1, st1_2, st2_0, st2_1, st2_2, kj_i, kj_a, kj_l, kj_n, cat_n, cat_i, cat_a, cat_u, cat_l, vc_i, vc_a, rv_s, tl_n, tl_s, Cal'_s, List.length_cons, List.length_nil, i0, i1, iNd, iN_lt, iN_le, iN_eq, iN_add, iN_mul, iN_mod, iN_sub, iN_div, iN_clamp, iN_inb, zle_N, zlt_N, zN_le, zN_lt, zN_eq, Nz_eq, mI_t, mI_f, bI_0, bI_1, bI_t, bI_f, dltT, dltF, dleT, dleF, deqT, deqF, Nat.not_lt_zero, not_true_eq_false, not_false_eq_true, true_and, and_true, false_and, and_false, or_true, true_or, false_or, or_false, and_self, if_true, if_false, Classical.not_not, Nat.add_assoc, Nat.zero_add, Nat.add_zero, bI_or, bI_True, bI_False, Bool.false_eq_true, reduceCtorEq, eq_self, gi_si, gl_si, gr_si, hn_si, hL_si, hX_si, gi_sl, gl_sl, gr_sl, hn_sl, ob_si, ar_si, ob_sl, ar_sl, ks_228_0])
  exact hQ
theorem o_l109_q {h : Hp} (hh : True) {e : Nat} (hd : 0 ≤ e) (K : Option Value → Hp → Prop) : Cal e 228 [.int (iN 109)] h K = K (some (.int (iN 1))) (h) := Cal_eq (o_l109 (hh := hh)) hd K
theorem o_l100 {h : Hp} (hh : True) : Ret 0 228 [.int (iN 100)] h (some (.int (iN 1))) (h) := by
  refine Ret_L [some (.int (iN 100))] rfl rfl fun Q hQ => ?_
  (refine wp_go 600 ks_228_0.1 ?_; simp (disch := first | with_reducible assumption | omega | (simp only [ob_si, ar_si, ob_sl, ar_sl]; with_reducible assumption)) only [ci_0, ci_1, ci_100, ci_104, ci_109, ci_112, ci_113, ldI_i, r_0, r_30, r_41, r_42, r_6, r_91, wpn_S, wpn_zero, stp_h, lk_0, lk_s, st1_0, st1_1, st1_2, st2_0, st2_1, st2_2, kj_i, kj_a, kj_l, kj_n, cat_n, cat_i, cat_a, cat_u, cat_l, vc_i, vc_a, rv_s, tl_n, tl_s, Cal'_s, List.length_cons, List.length_nil, i0, i1, iNd, iN_lt, iN_le, iN_eq, iN_add, iN_mul, iN_mod, iN_sub, iN_div, iN_clamp, iN_inb, zle_N, zlt_N, zN_le, zN_lt, zN_eq, Nz_eq, mI_t, mI_f, bI_0, bI_1, bI_t, bI_f, dltT, dltF, dleT, dleF, deqT, deqF, Nat.not_lt_zero, not_true_eq_false, not_false_eq_true, true_and, and_true, false_and, and_false, or_true, true_or, false_or, or_false, and_self, if_true, if_false, Classical.not_not, Nat.add_assoc, Nat.zero_add, Nat.add_zero, bI_or, bI_True, bI_False, Bool.false_eq_true, reduceCtorEq, eq_self, gi_si, gl_si, gr_si, hn_si, hL_si, hX_si, gi_sl, gl_sl, gr_sl, hn_sl, ob_si, ar_si, ob_sl, ar_sl, ks_228_0])
  exact hQ
theorem o_l100_q {h : Hp} (hh : True) {e : Nat} (hd : 0 ≤ e) (K : Option Value → Hp → Prop) : Cal e 228 [.int (iN 100)] h K = K (some (.int (iN 1))) (h) := Cal_eq (o_l100 (hh := hh)) hd K
theorem o_isL {h : Hp} {c : Nat} (hz : ¬ dgN c = 0) : Ret 0 228 [.int (iN c)] h (some (.int (iN 1))) h := by
  rcases dg_c hz with e | e | e | e | e
  · rw [e]; exact o_l112 trivial
  · rw [e]; exact o_l113 trivial
  · rw [e]; exact o_l104 trivial
  · rw [e]; exact o_l109 trivial
  · rw [e]; exact o_l100 trivial
theorem o_isL_q {h : Hp} {c : Nat} (hz : ¬ dgN c = 0) {e : Nat} (hd : 0 ≤ e) (K : Option Value → Hp → Prop) : Cal e 228 [.int (iN c)] h K = K (some (.int (iN 1))) h := Cal_eq (o_isL hz) hd K
theorem o_isLG {h : Hp} {c : Nat} (hc : c < 256) (e1 : ¬ c = 112) (e2 : ¬ c = 113) (e3 : ¬ c = 104) (e4 : ¬ c = 109) (e5 : ¬ c = 100) : Ret 0 228 [.int (iN c)] h (some (.int (iN 0))) (h) := by
  refine Ret_L [some (.int (iN c))] rfl rfl fun Q hQ => ?_
  (refine wp_go 600 ks_228_0.1 ?_; simp (disch := first | with_reducible assumption | omega | (simp only [ob_si, ar_si, ob_sl, ar_sl]; with_reducible assumption)) only [ci_0, ci_1, ci_100, ci_104, ci_109, ci_112, ci_113, ldI_i, r_0, r_30, r_41, r_42, r_6, r_91, wpn_S, wpn_zero, stp_h, lk_0, lk_s, st1_0, st1_1, st1_2, st2_0, st2_1, st2_2, kj_i, kj_a, kj_l, kj_n, cat_n, cat_i, cat_a, cat_u, cat_l, vc_i, vc_a, rv_s, tl_n, tl_s, Cal'_s, List.length_cons, List.length_nil, i0, i1, iNd, iN_lt, iN_le, iN_eq, iN_add, iN_mul, iN_mod, iN_sub, iN_div, iN_clamp, iN_inb, zle_N, zlt_N, zN_le, zN_lt, zN_eq, Nz_eq, mI_t, mI_f, bI_0, bI_1, bI_t, bI_f, dltT, dltF, dleT, dleF, deqT, deqF, Nat.not_lt_zero, not_true_eq_false, not_false_eq_true, true_and, and_true, false_and, and_false, or_true, true_or, false_or, or_false, and_self, if_true, if_false, Classical.not_not, Nat.add_assoc, Nat.zero_add, Nat.add_zero, bI_or, bI_True, bI_False, Bool.false_eq_true, reduceCtorEq, eq_self, gi_si, gl_si, gr_si, hn_si, hL_si, hX_si, gi_sl, gl_sl, gr_sl, hn_sl, ob_si, ar_si, ob_sl, ar_sl, ks_228_0])
  exact hQ
theorem o_isLG_q {h : Hp} {c : Nat} (hc : c < 256) (e1 : ¬ c = 112) (e2 : ¬ c = 113) (e3 : ¬ c = 104) (e4 : ¬ c = 109) (e5 : ¬ c = 100) {e : Nat} (hd : 0 ≤ e) (K : Option Value → Hp → Prop) : Cal e 228 [.int (iN c)] h K = K (some (.int (iN 0))) (h) := Cal_eq (o_isLG (hc := hc) (e1 := e1) (e2 := e2) (e3 := e3) (e4 := e4) (e5 := e5)) hd K
theorem o_isLF {h : Hp} {c : Nat} (hc : c < 256) (hz : dgN c = 0) : Ret 0 228 [.int (iN c)] h (some (.int (iN 0))) h := by
  obtain ⟨e1, e2, e3, e4, e5⟩ := dg_0 hz
  exact o_isLG hc e1 e2 e3 e4 e5
theorem o_isLz {h : Hp} (hh : True) : Ret 0 228 [.int (zI (-1))] h (some (.int (iN 0))) (h) := by
  refine Ret_L [some (.int (zI (-1)))] rfl rfl fun Q hQ => ?_
  (refine wp_go 600 ks_228_0.1 ?_; simp (disch := first | with_reducible assumption | omega | (simp only [ob_si, ar_si, ob_sl, ar_sl]; with_reducible assumption)) only [ci_0, ci_1, ci_100, ci_104, ci_109, ci_112, ci_113, ldI_i, r_0, r_30, r_41, r_42, r_6, r_91, wpn_S, wpn_zero, stp_h, lk_0, lk_s, st1_0, st1_1, st1_2, st2_0, st2_1, st2_2, kj_i, kj_a, kj_l, kj_n, cat_n, cat_i, cat_a, cat_u, cat_l, vc_i, vc_a, rv_s, tl_n, tl_s, Cal'_s, List.length_cons, List.length_nil, i0, i1, iNd, iN_lt, iN_le, iN_eq, iN_add, iN_mul, iN_mod, iN_sub, iN_div, iN_clamp, iN_inb, zle_N, zlt_N, zN_le, zN_lt, zN_eq, Nz_eq, mI_t, mI_f, bI_0, bI_1, bI_t, bI_f, dltT, dltF, dleT, dleF, deqT, deqF, Nat.not_lt_zero, not_true_eq_false, not_false_eq_true, true_and, and_true, false_and, and_false, or_true, true_or, false_or, or_false, and_self, if_true, if_false, Classical.not_not, Nat.add_assoc, Nat.zero_add, Nat.add_zero, bI_or, bI_True, bI_False, Bool.false_eq_true, reduceCtorEq, eq_self, gi_si, gl_si, gr_si, hn_si, hL_si, hX_si, gi_sl, gl_sl, gr_sl, hn_sl, ob_si, ar_si, ob_sl, ar_sl, ks_228_0])
  exact hQ
theorem o_isLz_q {h : Hp} (hh : True) {e : Nat} (hd : 0 ≤ e) (K : Option Value → Hp → Prop) : Cal e 228 [.int (zI (-1))] h K = K (some (.int (iN 0))) (h) := Cal_eq (o_isLz (hh := hh)) hd K
noncomputable def S957 : Nat → Prop := fun o => o = 95 ∨ o = 96 ∨ o = 97
noncomputable def F113 : Nat → Prop := fun k => k = 11 ∨ k = 12 ∨ k = 13
/-- what is told of the statement k, at a -/
noncomputable def Td (h : Hp) (v : Nat → Nat) (k a : Nat) : Prop := gi h 95 k = iN a ∧ gi h 96 k = iN (v a) ∧ Nm h v (v a) k (a + 1)
/-- the statement's end: what the model makes of ';' -/
noncomputable def enS (v : Nat → Nat) (n : Nat) (s : Nat × Bool) : Nat × Bool := @ite _ (s.2 = false ∧ s.1 < n ∧ v s.1 = 59) (Classical.propDecidable _) (s.1 + 1, false) (s.1, true)
noncomputable def stS (v : Nat → Nat) (n a : Nat) : Nat × Bool := @ite _ (a < n ∧ ¬ dgN (v a) = 0) (Classical.propDecidable _) (enS v n (rp (d1S v n) (dgN (v a)) (a + 1, false))) (a, true)
theorem fit_dg {v : Nat → Nat} {n a i : Nat} (h : fitP v a i) (h0 : 0 < i) (h1 : i ≤ dgN (v a)) (hn : a + i < n) : dgOK v n (a + i) := ⟨hn, fit_i h h0 h1⟩
theorem st_good {v : Nat → Nat} {n a : Nat} (hS : StP v n a) : stS v n a = (a + dgN (v a) + 2, false) := by
  have h2 := hS.2
  unfold stS
  rw [if_pos ⟨by omega, St_d hS⟩, rp1_t (dgN (v a)) (fun q hq => by
    have := fit_dg (n := n) (hS.1 (q + 1) (by omega)) (by omega) (by omega) (by omega)
    rw [show a + 1 + q = a + (q + 1) by omega]; exact this)]
  unfold enS
  rw [if_pos ⟨rfl, by show a + 1 + dgN (v a) < n; omega, by
    have := fit_e (hS.1 (dgN (v a) + 1) (Nat.le_refl _))
    show v (a + 1 + dgN (v a)) = 59
    rw [show a + 1 + dgN (v a) = a + (dgN (v a) + 1) by omega]; exact this⟩]
  show (a + 1 + dgN (v a) + 1, false) = _
  rw [show a + 1 + dgN (v a) + 1 = a + dgN (v a) + 2 by omega]
theorem en_b (v : Nat → Nat) (n a : Nat) : enS v n (a, true) = (a, true) := if_neg (fun e => by cases e.1)
theorem st_bad {v : Nat → Nat} {n K i : Nat} (hT : Tx v n K i) (ho : ¬ (i = 0 ∧ qsN v K = n ∧ 0 < n)) : stS v n (qsN v K) = (qsN v K + i, true) := by
  obtain ⟨⟨_, h2, h3, h4⟩, hE⟩ := hT
  unfold stS
  by_cases h0 : i = 0
  · subst h0
    rw [if_neg]
    · rfl
    · rintro ⟨q1, q2⟩
      rcases hE with hE | hE
      · omega
      · exact hE (Or.inl ⟨rfl, q2⟩)
  · have hf0 := fit_d (h3 0 (by omega))
    have hdig : ∀ q, q + 1 < i → q + 1 ≤ dgN (v (qsN v K)) → dgOK v n (qsN v K + 1 + q) := fun q q1 q2 => by
      have := fit_dg (n := n) (h3 (q + 1) q1) (by omega) q2 (by omega)
      rw [show qsN v K + 1 + q = qsN v K + (q + 1) by omega]; exact this
    rw [if_pos ⟨by omega, hf0⟩]
    by_cases h1 : i ≤ dgN (v (qsN v K))
    · rw [rp1_f (j := i - 1) (fun q hq => hdig q (by omega) (by omega)) (by omega) (by
        rintro ⟨d1, d2⟩
        rw [show qsN v K + 1 + (i - 1) = qsN v K + i by omega] at d1 d2
        rcases hE with hE | hE
        · omega
        · exact hE (Or.inr (Or.inl ⟨by omega, h1, d2⟩))), en_b, show qsN v K + 1 + (i - 1) = qsN v K + i by omega]
    · have e : i = dgN (v (qsN v K)) + 1 := by omega
      rw [rp1_t (dgN (v (qsN v K))) (fun q hq => hdig q (by omega) (by omega))]
      unfold enS
      rw [if_neg]
      · show (qsN v K + 1 + dgN (v (qsN v K)), true) = _
        rw [show qsN v K + 1 + dgN (v (qsN v K)) = qsN v K + i by omega]
      · rintro ⟨_, q1, q2⟩
        change qsN v K + 1 + dgN (v (qsN v K)) < n at q1
        change v (qsN v K + 1 + dgN (v (qsN v K))) = 59 at q2
        rw [show qsN v K + 1 + dgN (v (qsN v K)) = qsN v K + i by omega] at q1 q2
        rcases hE with hE | hE
        · omega
        · exact hE (Or.inr (Or.inr ⟨by omega, e, q2⟩))
set_option maxHeartbeats 8000000 in
theorem o_state {h : Hp} {n a k : Nat} {v : Nat → Nat} (hB : Bs h) (hL : LoO h n v) (hn : n ≤ 96) (hv : ∀ k, v k ≤ 255) (hP : Ps h (a, false)) (ha : a ≤ n) (hk : k < 49) (h13 : gi h 87 13 = iN k) : ∃ h', Ret 3 230 [.ref 87] h none h' ∧ Ps h' (stS v n a) ∧ gi h' 87 13 = iN (k + 1) ∧ ((stS v n a).2 = false → Td h' v k a) ∧ (∀ j, j < k → gi h' 95 j = gi h 95 j ∧ gi h' 96 j = gi h 96 j) ∧ (∀ j, j < 3 * k → gi h' 97 j = gi h 97 j) ∧ Fo S957 F113 h h' := by
  obtain ⟨oO, r9, r14, r15, r16, a94, a95, a96, a97, s94, s95, s96, s97⟩ := L_facts hB
  obtain ⟨p1, p2⟩ := id hP
  simp only at p1 p2
  rw [nB_f] at p2
  have hva := hv a
  -- the letter that is not one
  have bad : ∀ (cv : Int32), (∀ K : Option Value → Hp → Prop, Cal 2 226 [.ref 87] h K = K (some (.int cv)) h) → (∀ (K : Option Value → Hp → Prop) (g : Hp), Cal 2 228 [.int cv] g K = K (some (.int (iN 0))) g) → stS v n a = (a, true) → ∃ h', Ret 3 230 [.ref 87] h none h' ∧ Ps h' (stS v n a) ∧ gi h' 87 13 = iN (k + 1) ∧ ((stS v n a).2 = false → Td h' v k a) ∧ (∀ j, j < k → gi h' 95 j = gi h 95 j ∧ gi h' 96 j = gi h 96 j) ∧ (∀ j, j < 3 * k → gi h' 97 j = gi h 97 j) ∧ Fo S957 F113 h h' := by
    intro cv c1 c2 hst
    rw [hst]
    refine ⟨si (si (si (si (si (si (si h 95 k (iN a)) 96 k cv) 87 12 (iN 1)) 87 11 (iN a)) 87 12 (iN 1)) 87 11 (iN a)) 87 13 (iN (k + 1)), ?_, ?_, ?_, (fun e => by cases e), fun j hj => ⟨?_, ?_⟩, fun j hj => ?_, ?_⟩
    · refine Ret_L [some (.ref 87), none, none] rfl rfl fun Q hQ => ?_
      (refine wp_go 600 ks_230_0.1 ?_; simp (disch := first | with_reducible assumption | omega | (simp only [ob_si, ar_si, ob_sl, ar_sl]; with_reducible assumption)) only [ci_0, ci_1, ci_3, ci_59, ldA_a, ldI_i, oc_226, oc_229, r_0, r_10, r_12, r_2, r_3, r_30, r_31, r_32, r_41, r_50, r_6, r_60, r_62, r_63, r_64, r_71, r_80_1, r_80_3, r_81_1, r_94, wpn_S, wpn_zero, stp_h, lk_0, lk_s, st1_0, st1_1, st1_2, st2_0, st2_1, st2_2, kj_i, kj_a, kj_l, kj_n, cat_n, cat_i, cat_a, cat_u, cat_l, vc_i, vc_a, rv_s, tl_n, tl_s, Cal'_s, List.length_cons, List.length_nil, i0, i1, iNd, iN_lt, iN_le, iN_eq, iN_add, iN_mul, iN_mod, iN_sub, iN_div, iN_clamp, iN_inb, zle_N, zlt_N, zN_le, zN_lt, zN_eq, Nz_eq, mI_t, mI_f, bI_0, bI_1, bI_t, bI_f, dltT, dltF, dleT, dleF, deqT, deqF, Nat.not_lt_zero, not_true_eq_false, not_false_eq_true, true_and, and_true, false_and, and_false, or_true, true_or, false_or, or_false, and_self, if_true, if_false, Classical.not_not, Nat.add_assoc, Nat.zero_add, Nat.add_zero, bI_or, bI_True, bI_False, Bool.false_eq_true, reduceCtorEq, eq_self, gi_si, gl_si, gr_si, hn_si, hL_si, hX_si, gi_sl, gl_sl, gr_sl, hn_sl, ob_si, ar_si, ob_sl, ar_sl, ks_230_0, ks_230_1, ks_230_2, ks_230_3, oO, h13, c1, r14, a95, s95, p1, r15, a96, s96, p2, c2, up_t, up_f])
      exact hQ
    · refine ⟨?_, ?_⟩
      · rw [gi_si, up_s, up_f (by omega), gi_si, up_s, up_s]
      · rw [gi_si, up_s, up_f (by omega), gi_si, up_s, up_f (by omega), gi_si, up_s, up_s]; rfl
    · rw [gi_si, up_s, up_s]
    · simp (disch := omega) only [gi_si, up_f, up_s]
    · simp (disch := omega) only [gi_si, up_f, up_s]
    · simp (disch := omega) only [gi_si, up_f, up_s]
    · exact (((((((Fo.rf _ _ h).sa (by unfold S957; omega) (by omega) _ _).sa (by unfold S957; omega) (by omega) _ _).sf (by unfold F113; omega) _).sf (by unfold F113; omega) _).sf (by unfold F113; omega) _).sf (by unfold F113; omega) _).sf (by unfold F113; omega) _
  by_cases hl : a < n
  · have rh := o_hereT hB hL p1 hn hl
    by_cases hd : dgN (v a) = 0
    · refine bad (iN (v a)) (fun K => Cal_eq rh (by decide) K) (fun K g => Cal_eq (o_isLF (h := g) (by omega) hd) (by decide) K) ?_
      unfold stS
      rw [if_neg (fun e => e.2 hd)]
    · -- behind the letter
      obtain ⟨g1, hg1⟩ : ∃ g1, g1 = si (si (si (si h 95 k (iN a)) 96 k (iN (v a))) 87 12 (iN 0)) 87 11 (iN (a + 1)) := ⟨_, rfl⟩
      have fg : Fo S957 F113 h g1 := by
        rw [hg1]
        exact ((((Fo.rf _ _ h).sa (by unfold S957; omega) (by omega) _ _).sa (by unfold S957; omega) (by omega) _ _).sf (by unfold F113; omega) _).sf (by unfold F113; omega) _
      have Bg := fg.bs hB
      have Lg := hL.fr2 fg (by unfold S957; omega) (by unfold F113; omega)
      have Pg : Ps g1 (a + 1, false) := by
        rw [hg1]
        exact ⟨by rw [gi_si, up_s, up_s], by rw [gi_si, up_s, up_f (by omega), gi_si, up_s, up_s]; rfl⟩
      obtain ⟨h2, r2, P2, N2, d2, f2⟩ := o_nums (k := k) Bg Lg hn hv Pg (by omega) hk hd
      have le2 := rp1_le (v := v) (dgN (v a)) (a + 1) false (by omega : a + 1 ≤ n)
      have est : stS v n a = enS v n (rp (d1S v n) (dgN (v a)) (a + 1, false)) := by
        unfold stS
        rw [if_pos ⟨hl, hd⟩]
      have f2' : Fo S957 F113 h h2 := fg.tr (f2.mono (fun o ho => by unfold S97 at ho; unfold S957; omega) (fun k hk => by unfold F12 at hk; unfold F113; omega))
      have B2 := f2'.bs hB
      have L2 := hL.fr2 f2' (by unfold S957; omega) (by unfold F113; omega)
      have oO2 := (L_facts B2).1
      have e13 : gi h2 87 13 = iN k := by rw [f2.2 13 (by unfold F12; omega), hg1]; simp (disch := omega) only [gi_si, up_f, up_s]; exact h13
      have e95 : gi h2 95 k = iN a := by rw [f2.i (o := 95) (by unfold S97; omega) (by omega), hg1]; simp (disch := omega) only [gi_si, up_f, up_s]
      have e96 : gi h2 96 k = iN (v a) := by rw [f2.i (o := 96) (by unfold S97; omega) (by omega), hg1]; simp (disch := omega) only [gi_si, up_f, up_s]
      have k95 : ∀ j, j < k → gi h2 95 j = gi h 95 j := fun j hj => by rw [f2.i (o := 95) (by unfold S97; omega) (by omega), hg1]; simp (disch := omega) only [gi_si, up_f, up_s]
      have k96 : ∀ j, j < k → gi h2 96 j = gi h 96 j := fun j hj => by rw [f2.i (o := 96) (by unfold S97; omega) (by omega), hg1]; simp (disch := omega) only [gi_si, up_f, up_s]
      have k97 : ∀ j, j < 3 * k → gi h2 97 j = gi h 97 j := fun j hj => by rw [d2 j hj, hg1]; simp (disch := omega) only [gi_si, up_f]
      rw [est]
      generalize rp (d1S v n) (dgN (v a)) (a + 1, false) = s at *
      obtain ⟨a2, b2⟩ := s
      obtain ⟨q1, q2⟩ := id P2
      simp only at q1 q2 le2
      have fin : ∀ (b3 : Bool) (a3 : Nat), enS v n (a2, b2) = (a3, b3) → (b3 = false → b2 = false) → Fo S957 F113 h (si (si (si h2 87 12 (nB b3)) 87 11 (iN a3)) 87 13 (iN (k + 1))) → Ret 3 230 [.ref 87] h none (si (si (si h2 87 12 (nB b3)) 87 11 (iN a3)) 87 13 (iN (k + 1))) → ∃ h', Ret 3 230 [.ref 87] h none h' ∧ Ps h' (enS v n (a2, b2)) ∧ gi h' 87 13 = iN (k + 1) ∧ ((enS v n (a2, b2)).2 = false → Td h' v k a) ∧ (∀ j, j < k → gi h' 95 j = gi h 95 j ∧ gi h' 96 j = gi h 96 j) ∧ (∀ j, j < 3 * k → gi h' 97 j = gi h 97 j) ∧ Fo S957 F113 h h' := by
        intro b3 a3 e3 hb3 f3 r3
        rw [e3]
        refine ⟨_, r3, ⟨?_, ?_⟩, ?_, fun e => ?_, fun j hj => ⟨?_, ?_⟩, fun j hj => ?_, f3⟩
        · simp (disch := omega) only [gi_si, up_f, up_s]
        · simp (disch := omega) only [gi_si, up_f, up_s]
        · simp (disch := omega) only [gi_si, up_f, up_s]
        · obtain ⟨n1, n2, n3⟩ := N2 (hb3 e)
          refine ⟨?_, ?_, ?_, fun c => ?_, fun c => ?_⟩
          · simp (disch := omega) only [gi_si, up_f, up_s]; exact e95
          · simp (disch := omega) only [gi_si, up_f, up_s]; exact e96
          · simp (disch := omega) only [gi_si, up_f, up_s]; exact n1
          · simp (disch := omega) only [gi_si, up_f, up_s]; exact n2 c
          · simp (disch := omega) only [gi_si, up_f, up_s]; exact n3 c
        · simp (disch := omega) only [gi_si, up_f, up_s]; exact k95 j hj
        · simp (disch := omega) only [gi_si, up_f, up_s]; exact k96 j hj
        · simp (disch := omega) only [gi_si, up_f, up_s]; exact k97 j hj
      have f3 : ∀ (b3 : Bool) (a3 : Nat), Fo S957 F113 h (si (si (si h2 87 12 (nB b3)) 87 11 (iN a3)) 87 13 (iN (k + 1))) := fun b3 a3 => ((f2'.sf (by unfold F113; omega) _).sf (by unfold F113; omega) _).sf (by unfold F113; omega) _
      rw [hg1] at r2
      cases b2 with
      | true =>
        rw [nB_t] at q2
        refine fin true a2 (en_b v n a2) (fun e => by cases e) (f3 true a2) ?_
        refine Ret_L [some (.ref 87), none, none] rfl rfl fun Q hQ => ?_
        rw [nB_t] at hQ
        (refine wp_go 600 ks_230_0.1 ?_; simp (disch := first | with_reducible assumption | omega | (simp only [ob_si, ar_si, ob_sl, ar_sl]; with_reducible assumption)) only [ci_0, ci_1, ci_3, ci_59, ldA_a, ldI_i, oc_226, oc_229, r_0, r_10, r_12, r_2, r_3, r_30, r_31, r_32, r_41, r_50, r_6, r_60, r_62, r_63, r_64, r_71, r_80_1, r_80_3, r_81_1, r_94, wpn_S, wpn_zero, stp_h, lk_0, lk_s, st1_0, st1_1, st1_2, st2_0, st2_1, st2_2, kj_i, kj_a, kj_l, kj_n, cat_n, cat_i, cat_a, cat_u, cat_l, vc_i, vc_a, rv_s, tl_n, tl_s, Cal'_s, List.length_cons, List.length_nil, i0, i1, iNd, iN_lt, iN_le, iN_eq, iN_add, iN_mul, iN_mod, iN_sub, iN_div, iN_clamp, iN_inb, zle_N, zlt_N, zN_le, zN_lt, zN_eq, Nz_eq, mI_t, mI_f, bI_0, bI_1, bI_t, bI_f, dltT, dltF, dleT, dleF, deqT, deqF, Nat.not_lt_zero, not_true_eq_false, not_false_eq_true, true_and, and_true, false_and, and_false, or_true, true_or, false_or, or_false, and_self, if_true, if_false, Classical.not_not, Nat.add_assoc, Nat.zero_add, Nat.add_zero, bI_or, bI_True, bI_False, Bool.false_eq_true, reduceCtorEq, eq_self, gi_si, gl_si, gr_si, hn_si, hL_si, hX_si, gi_sl, gl_sl, gr_sl, hn_sl, ob_si, ar_si, ob_sl, ar_sl, ks_230_0, ks_230_1, ks_230_2, ks_230_3, oO, h13, Cal_eq rh, r14, a95, s95, p1, r15, a96, s96, p2, o_isL_q hd, Cal_eq r2, oO2, q1, q2, e13, up_t, up_f])
        exact hQ
      | false =>
        rw [nB_f] at q2
        by_cases hl2 : a2 < n
        · have rh2 := o_hereT B2 L2 q1 hn hl2
          have hv2 := hv a2
          by_cases h59 : v a2 = 59
          · refine fin false (a2 + 1) (if_pos ⟨rfl, hl2, h59⟩) (fun _ => rfl) (f3 false (a2 + 1)) ?_
            refine Ret_L [some (.ref 87), none, none] rfl rfl fun Q hQ => ?_
            rw [nB_f] at hQ
            (refine wp_go 600 ks_230_0.1 ?_; simp (disch := first | with_reducible assumption | omega | (simp only [ob_si, ar_si, ob_sl, ar_sl]; with_reducible assumption)) only [ci_0, ci_1, ci_3, ci_59, ldA_a, ldI_i, oc_226, oc_229, r_0, r_10, r_12, r_2, r_3, r_30, r_31, r_32, r_41, r_50, r_6, r_60, r_62, r_63, r_64, r_71, r_80_1, r_80_3, r_81_1, r_94, wpn_S, wpn_zero, stp_h, lk_0, lk_s, st1_0, st1_1, st1_2, st2_0, st2_1, st2_2, kj_i, kj_a, kj_l, kj_n, cat_n, cat_i, cat_a, cat_u, cat_l, vc_i, vc_a, rv_s, tl_n, tl_s, Cal'_s, List.length_cons, List.length_nil, i0, i1, iNd, iN_lt, iN_le, iN_eq, iN_add, iN_mul, iN_mod, iN_sub, iN_div, iN_clamp, iN_inb, zle_N, zlt_N, zN_le, zN_lt, zN_eq, Nz_eq, mI_t, mI_f, bI_0, bI_1, bI_t, bI_f, dltT, dltF, dleT, dleF, deqT, deqF, Nat.not_lt_zero, not_true_eq_false, not_false_eq_true, true_and, and_true, false_and, and_false, or_true, true_or, false_or, or_false, and_self, if_true, if_false, Classical.not_not, Nat.add_assoc, Nat.zero_add, Nat.add_zero, bI_or, bI_True, bI_False, Bool.false_eq_true, reduceCtorEq, eq_self, gi_si, gl_si, gr_si, hn_si, hL_si, hX_si, gi_sl, gl_sl, gr_sl, hn_sl, ob_si, ar_si, ob_sl, ar_sl, ks_230_0, ks_230_1, ks_230_2, ks_230_3, oO, h13, Cal_eq rh, r14, a95, s95, p1, r15, a96, s96, p2, o_isL_q hd, Cal_eq r2, oO2, q1, q2, e13, Cal_eq rh2, up_t, up_f])
            exact hQ
          · refine fin true a2 (if_neg (fun e => h59 e.2.2)) (fun e => by cases e) (f3 true a2) ?_
            refine Ret_L [some (.ref 87), none, none] rfl rfl fun Q hQ => ?_
            rw [nB_t] at hQ
            (refine wp_go 600 ks_230_0.1 ?_; simp (disch := first | with_reducible assumption | omega | (simp only [ob_si, ar_si, ob_sl, ar_sl]; with_reducible assumption)) only [ci_0, ci_1, ci_3, ci_59, ldA_a, ldI_i, oc_226, oc_229, r_0, r_10, r_12, r_2, r_3, r_30, r_31, r_32, r_41, r_50, r_6, r_60, r_62, r_63, r_64, r_71, r_80_1, r_80_3, r_81_1, r_94, wpn_S, wpn_zero, stp_h, lk_0, lk_s, st1_0, st1_1, st1_2, st2_0, st2_1, st2_2, kj_i, kj_a, kj_l, kj_n, cat_n, cat_i, cat_a, cat_u, cat_l, vc_i, vc_a, rv_s, tl_n, tl_s, Cal'_s, List.length_cons, List.length_nil, i0, i1, iNd, iN_lt, iN_le, iN_eq, iN_add, iN_mul, iN_mod, iN_sub, iN_div, iN_clamp, iN_inb, zle_N, zlt_N, zN_le, zN_lt, zN_eq, Nz_eq, mI_t, mI_f, bI_0, bI_1, bI_t, bI_f, dltT, dltF, dleT, dleF, deqT, deqF, Nat.not_lt_zero, not_true_eq_false, not_false_eq_true, true_and, and_true, false_and, and_false, or_true, true_or, false_or, or_false, and_self, if_true, if_false, Classical.not_not, Nat.add_assoc, Nat.zero_add, Nat.add_zero, bI_or, bI_True, bI_False, Bool.false_eq_true, reduceCtorEq, eq_self, gi_si, gl_si, gr_si, hn_si, hL_si, hX_si, gi_sl, gl_sl, gr_sl, hn_sl, ob_si, ar_si, ob_sl, ar_sl, ks_230_0, ks_230_1, ks_230_2, ks_230_3, oO, h13, Cal_eq rh, r14, a95, s95, p1, r15, a96, s96, p2, o_isL_q hd, Cal_eq r2, oO2, q1, q2, e13, Cal_eq rh2, up_t, up_f])
            exact hQ
        · have rh2 := o_hereF B2 L2 q1 hn hl2 (by omega)
          refine fin true a2 (if_neg (fun e => hl2 e.2.1)) (fun e => by cases e) (f3 true a2) ?_
          refine Ret_L [some (.ref 87), none, none] rfl rfl fun Q hQ => ?_
          rw [nB_t] at hQ
          (refine wp_go 600 ks_230_0.1 ?_; simp (disch := first | with_reducible assumption | omega | (simp only [ob_si, ar_si, ob_sl, ar_sl]; with_reducible assumption)) only [ci_0, ci_1, ci_3, ci_59, ldA_a, ldI_i, oc_226, oc_229, r_0, r_10, r_12, r_2, r_3, r_30, r_31, r_32, r_41, r_50, r_6, r_60, r_62, r_63, r_64, r_71, r_80_1, r_80_3, r_81_1, r_94, wpn_S, wpn_zero, stp_h, lk_0, lk_s, st1_0, st1_1, st1_2, st2_0, st2_1, st2_2, kj_i, kj_a, kj_l, kj_n, cat_n, cat_i, cat_a, cat_u, cat_l, vc_i, vc_a, rv_s, tl_n, tl_s, Cal'_s, List.length_cons, List.length_nil, i0, i1, iNd, iN_lt, iN_le, iN_eq, iN_add, iN_mul, iN_mod, iN_sub, iN_div, iN_clamp, iN_inb, zle_N, zlt_N, zN_le, zN_lt, zN_eq, Nz_eq, mI_t, mI_f, bI_0, bI_1, bI_t, bI_f, dltT, dltF, dleT, dleF, deqT, deqF, Nat.not_lt_zero, not_true_eq_false, not_false_eq_true, true_and, and_true, false_and, and_false, or_true, true_or, false_or, or_false, and_self, if_true, if_false, Classical.not_not, Nat.add_assoc, Nat.zero_add, Nat.add_zero, bI_or, bI_True, bI_False, Bool.false_eq_true, reduceCtorEq, eq_self, gi_si, gl_si, gr_si, hn_si, hL_si, hX_si, gi_sl, gl_sl, gr_sl, hn_sl, ob_si, ar_si, ob_sl, ar_sl, ks_230_0, ks_230_1, ks_230_2, ks_230_3, oO, h13, Cal_eq rh, r14, a95, s95, p1, r15, a96, s96, p2, o_isL_q hd, Cal_eq r2, oO2, q1, q2, e13, Cal_eq rh2, up_t, up_f])
          exact hQ
  · have rh := o_hereF hB hL p1 hn hl (by omega)
    refine bad (zI (-1)) (fun K => Cal_eq rh (by decide) K) (fun K g => Cal_eq (o_isLz (h := g) trivial) (by decide) K) ?_
    unfold stS
    rw [if_neg (fun e => hl e.1)]
/-! told -/
theorem swd_t112 : swk (iN 112) 223 ([(104, 141), (105, 223), (106, 223), (107, 223), (108, 223), (109, 201), (110, 223), (111, 223), (112, 96), (113, 177)] : List (Int × Nat)) = 96 := Eq.trans (swk_ne (ci_ne (c := 112) (k := 104) (by decide) (by decide) (by decide))) (Eq.trans (swk_ne (ci_ne (c := 112) (k := 105) (by decide) (by decide) (by decide))) (Eq.trans (swk_ne (ci_ne (c := 112) (k := 106) (by decide) (by decide) (by decide))) (Eq.trans (swk_ne (ci_ne (c := 112) (k := 107) (by decide) (by decide) (by decide))) (Eq.trans (swk_ne (ci_ne (c := 112) (k := 108) (by decide) (by decide) (by decide))) (Eq.trans (swk_ne (ci_ne (c := 112) (k := 109) (by decide) (by decide) (by decide))) (Eq.trans (swk_ne (ci_ne (c := 112) (k := 110) (by decide) (by decide) (by decide))) (Eq.trans (swk_ne (ci_ne (c := 112) (k := 111) (by decide) (by decide) (by decide))) (swk_eq ci_112.symm))))))))
theorem swd_t113 : swk (iN 113) 223 ([(104, 141), (105, 223), (106, 223), (107, 223), (108, 223), (109, 201), (110, 223), (111, 223), (112, 96), (113, 177)] : List (Int × Nat)) = 177 := Eq.trans (swk_ne (ci_ne (c := 113) (k := 104) (by decide) (by decide) (by decide))) (Eq.trans (swk_ne (ci_ne (c := 113) (k := 105) (by decide) (by decide) (by decide))) (Eq.trans (swk_ne (ci_ne (c := 113) (k := 106) (by decide) (by decide) (by decide))) (Eq.trans (swk_ne (ci_ne (c := 113) (k := 107) (by decide) (by decide) (by decide))) (Eq.trans (swk_ne (ci_ne (c := 113) (k := 108) (by decide) (by decide) (by decide))) (Eq.trans (swk_ne (ci_ne (c := 113) (k := 109) (by decide) (by decide) (by decide))) (Eq.trans (swk_ne (ci_ne (c := 113) (k := 110) (by decide) (by decide) (by decide))) (Eq.trans (swk_ne (ci_ne (c := 113) (k := 111) (by decide) (by decide) (by decide))) (Eq.trans (swk_ne (ci_ne (c := 113) (k := 112) (by decide) (by decide) (by decide))) (swk_eq ci_113.symm)))))))))
theorem swd_t104 : swk (iN 104) 223 ([(104, 141), (105, 223), (106, 223), (107, 223), (108, 223), (109, 201), (110, 223), (111, 223), (112, 96), (113, 177)] : List (Int × Nat)) = 141 := swk_eq ci_104.symm
theorem swd_t109 : swk (iN 109) 223 ([(104, 141), (105, 223), (106, 223), (107, 223), (108, 223), (109, 201), (110, 223), (111, 223), (112, 96), (113, 177)] : List (Int × Nat)) = 201 := Eq.trans (swk_ne (ci_ne (c := 109) (k := 104) (by decide) (by decide) (by decide))) (Eq.trans (swk_ne (ci_ne (c := 109) (k := 105) (by decide) (by decide) (by decide))) (Eq.trans (swk_ne (ci_ne (c := 109) (k := 106) (by decide) (by decide) (by decide))) (Eq.trans (swk_ne (ci_ne (c := 109) (k := 107) (by decide) (by decide) (by decide))) (Eq.trans (swk_ne (ci_ne (c := 109) (k := 108) (by decide) (by decide) (by decide))) (swk_eq ci_109.symm)))))
theorem swd_t100 : swk (iN 100) 223 ([(104, 141), (105, 223), (106, 223), (107, 223), (108, 223), (109, 201), (110, 223), (111, 223), (112, 96), (113, 177)] : List (Int × Nat)) = 223 := Eq.trans (swk_ne (ci_ne (c := 100) (k := 104) (by decide) (by decide) (by decide))) (Eq.trans (swk_ne (ci_ne (c := 100) (k := 105) (by decide) (by decide) (by decide))) (Eq.trans (swk_ne (ci_ne (c := 100) (k := 106) (by decide) (by decide) (by decide))) (Eq.trans (swk_ne (ci_ne (c := 100) (k := 107) (by decide) (by decide) (by decide))) (Eq.trans (swk_ne (ci_ne (c := 100) (k := 108) (by decide) (by decide) (by decide))) (Eq.trans (swk_ne (ci_ne (c := 100) (k := 109) (by decide) (by decide) (by decide))) (Eq.trans (swk_ne (ci_ne (c := 100) (k := 110) (by decide) (by decide) (by decide))) (Eq.trans (swk_ne (ci_ne (c := 100) (k := 111) (by decide) (by decide) (by decide))) (Eq.trans (swk_ne (ci_ne (c := 100) (k := 112) (by decide) (by decide) (by decide))) (Eq.trans (swk_ne (ci_ne (c := 100) (k := 113) (by decide) (by decide) (by decide))) (rfl))))))))))
set_option maxHeartbeats 8000000 in
theorem o_to_p {h : Hp} {n k a : Nat} {v : Nat → Nat} {y : Mt} (hB : Bs h) (hv : ∀ k, v k ≤ 255) (hS : StP v n a) (hn : n ≤ 96) (hk : k < 49) (hD : Td h v k a) (hA : Ao h y) (hW : Wf y) (e : v a = 112) : ∃ h', Ret 4 232 [.ref 87, .int (iN k)] h (some (.int (bI (exM v a y ≠ none)))) h' ∧ (∀ z, exM v a y = some z → Ao h' z) ∧ Fo Sq Fq h h' := by
  obtain ⟨oO, r9, r14, r15, r16, a94, a95, a96, a97, s94, s95, s96, s97⟩ := L_facts hB
  clear r9 r14 a94 a95 s94 s95
  obtain ⟨t95, t96, tn1, tn2, tn3⟩ := hD
  have wN := hW.1
  have fN : gi h 87 0 = iN (xN y) := hA.1
  have fD : gi h 87 6 = xD y := hA.2.1
  have hg : dgN (v a) = 4 := by rw [e]; decide
  have hle := hS.2
  rw [hg] at hle
  rw [e] at t96
  obtain ⟨d1, d1'⟩ := St_dig hS (q := 1) (by decide) (by rw [hg]; decide)
  obtain ⟨d2, d2'⟩ := St_dig hS (q := 2) (by decide) (by rw [hg]; decide)
  obtain ⟨d3, d3'⟩ := St_dig hS (q := 3) (by decide) (by rw [hg]; decide)
  obtain ⟨d4, d4'⟩ := St_dig hS (q := 4) (by decide) (by rw [hg]; decide)
  have b1 : dv v (a + 1) ≤ 9 := by unfold dv; omega
  have b2 : dv v (a + 2) ≤ 9 := by unfold dv; omega
  have b3 : tw2 v (a + 3) ≤ 99 := by
    unfold tw2 dv
    rw [show a + 3 + 1 = a + 4 by omega]
    omega
  have u1 : gi h 97 (3 * k) = iN (dv v (a + 1)) := by rw [tn1, if_neg (by omega)]
  have u2 : gi h 97 (3 * k + 1) = iN (dv v (a + 2)) := by rw [tn2 (by omega), if_neg (by omega)]
  have u3 : gi h 97 (3 * k + 2) = iN (tw2 v (a + 3)) := tn3 (Or.inl e)
  rw [ex_p e, bI_c isO_ne]
  clear e hv hS hg hle t95 tn1 tn2 tn3 d1 d1' d2 d2' d3 d3' d4 d4'
  by_cases hp : dv v (a + 1) < 6 ∧ tw2 v (a + 3) ≤ 31 ∧ xN y < 6
  · obtain ⟨p1, p2, p3⟩ := id hp
    obtain ⟨h1, q1, A1, f1⟩ := wo_come (k := dv v (a + 1)) (f := dv v (a + 2)) (c := tw2 v (a + 3)) hB hA hW p3
    refine ⟨h1, ?_, fun z hz => ?_, f1⟩
    · refine Ret_L [some (.ref 87), some (.int (iN k)), none, none, none, none] rfl rfl fun Q hQ => ?_
      rw [bI_t hp] at hQ
      (refine wp_go 600 ks_232_0.1 ?_; simp (disch := first | with_reducible assumption | omega | (simp only [ob_si, ar_si, ob_sl, ar_sl]; with_reducible assumption)) only [ci_0, ci_1, ci_104, ci_105, ci_106, ci_107, ci_108, ci_109, ci_110, ci_111, ci_112, ci_113, ci_2, ci_3, ci_31, ci_6, ci_999, cl_1, cl_60, iN_l, jN_add, jN_div, jN_eq, jN_le, jN_lt, jN_mod, jN_mul, jN_sub, l0, lc_eq, lc_ge, lc_gt, lc_le, lc_lt, ldA_a, ldI_i, oc_202, oc_203, oc_213, oc_218, oc_223, oc_231, r_0, r_10, r_12, r_2, r_27, r_3, r_30, r_31, r_44, r_45, r_6, r_60, r_62, r_7, r_70, r_71, r_80_2, r_80_3, r_80_4, r_81_3, r_91, r_99n, wpn_S, wpn_zero, stp_h, lk_0, lk_s, st1_0, st1_1, st1_2, st2_0, st2_1, st2_2, kj_i, kj_a, kj_l, kj_n, cat_n, cat_i, cat_a, cat_u, cat_l, vc_i, vc_a, rv_s, tl_n, tl_s, Cal'_s, List.length_cons, List.length_nil, i0, i1, iNd, iN_lt, iN_le, iN_eq, iN_add, iN_mul, iN_mod, iN_sub, iN_div, iN_clamp, iN_inb, zle_N, zlt_N, zN_le, zN_lt, zN_eq, Nz_eq, mI_t, mI_f, bI_0, bI_1, bI_t, bI_f, dltT, dltF, dleT, dleF, deqT, deqF, Nat.not_lt_zero, not_true_eq_false, not_false_eq_true, true_and, and_true, false_and, and_false, or_true, true_or, false_or, or_false, and_self, if_true, if_false, Classical.not_not, Nat.add_assoc, Nat.zero_add, Nat.add_zero, bI_or, bI_True, bI_False, Bool.false_eq_true, reduceCtorEq, eq_self, gi_si, gl_si, gr_si, hn_si, hL_si, hX_si, gi_sl, gl_sl, gr_sl, hn_sl, ob_si, ar_si, ob_sl, ar_sl, ks_232_0, ks_232_1, ks_232_2, ks_232_3, ks_232_4, ks_232_5, oO, r16, a97, s97, u1, u2, u3, r15, a96, s96, t96, swd_t112, fN, Cal_eq q1])
      exact hQ
    · obtain ⟨_, rfl⟩ := isO_s hz
      exact A1
  · refine ⟨h, ?_, (fun z hz => by rw [isO_f hp] at hz; cases hz), Fo.rf _ _ h⟩
    refine Ret_L [some (.ref 87), some (.int (iN k)), none, none, none, none] rfl rfl fun Q hQ => ?_
    rw [bI_f hp] at hQ
    by_cases p1 : dv v (a + 1) < 6
    · by_cases p2 : tw2 v (a + 3) ≤ 31
      · have p3 : 6 ≤ xN y := by omega
        clear hp
        (refine wp_go 600 ks_232_0.1 ?_; simp (disch := first | with_reducible assumption | omega | (simp only [ob_si, ar_si, ob_sl, ar_sl]; with_reducible assumption)) only [ci_0, ci_1, ci_104, ci_105, ci_106, ci_107, ci_108, ci_109, ci_110, ci_111, ci_112, ci_113, ci_2, ci_3, ci_31, ci_6, ci_999, cl_1, cl_60, iN_l, jN_add, jN_div, jN_eq, jN_le, jN_lt, jN_mod, jN_mul, jN_sub, l0, lc_eq, lc_ge, lc_gt, lc_le, lc_lt, ldA_a, ldI_i, oc_202, oc_203, oc_213, oc_218, oc_223, oc_231, r_0, r_10, r_12, r_2, r_27, r_3, r_30, r_31, r_44, r_45, r_6, r_60, r_62, r_7, r_70, r_71, r_80_2, r_80_3, r_80_4, r_81_3, r_91, r_99n, wpn_S, wpn_zero, stp_h, lk_0, lk_s, st1_0, st1_1, st1_2, st2_0, st2_1, st2_2, kj_i, kj_a, kj_l, kj_n, cat_n, cat_i, cat_a, cat_u, cat_l, vc_i, vc_a, rv_s, tl_n, tl_s, Cal'_s, List.length_cons, List.length_nil, i0, i1, iNd, iN_lt, iN_le, iN_eq, iN_add, iN_mul, iN_mod, iN_sub, iN_div, iN_clamp, iN_inb, zle_N, zlt_N, zN_le, zN_lt, zN_eq, Nz_eq, mI_t, mI_f, bI_0, bI_1, bI_t, bI_f, dltT, dltF, dleT, dleF, deqT, deqF, Nat.not_lt_zero, not_true_eq_false, not_false_eq_true, true_and, and_true, false_and, and_false, or_true, true_or, false_or, or_false, and_self, if_true, if_false, Classical.not_not, Nat.add_assoc, Nat.zero_add, Nat.add_zero, bI_or, bI_True, bI_False, Bool.false_eq_true, reduceCtorEq, eq_self, gi_si, gl_si, gr_si, hn_si, hL_si, hX_si, gi_sl, gl_sl, gr_sl, hn_sl, ob_si, ar_si, ob_sl, ar_sl, ks_232_0, ks_232_1, ks_232_2, ks_232_3, ks_232_4, ks_232_5, oO, r16, a97, s97, u1, u2, u3, r15, a96, s96, t96, swd_t112, fN])
        exact hQ
      · clear hp
        (refine wp_go 600 ks_232_0.1 ?_; simp (disch := first | with_reducible assumption | omega | (simp only [ob_si, ar_si, ob_sl, ar_sl]; with_reducible assumption)) only [ci_0, ci_1, ci_104, ci_105, ci_106, ci_107, ci_108, ci_109, ci_110, ci_111, ci_112, ci_113, ci_2, ci_3, ci_31, ci_6, ci_999, cl_1, cl_60, iN_l, jN_add, jN_div, jN_eq, jN_le, jN_lt, jN_mod, jN_mul, jN_sub, l0, lc_eq, lc_ge, lc_gt, lc_le, lc_lt, ldA_a, ldI_i, oc_202, oc_203, oc_213, oc_218, oc_223, oc_231, r_0, r_10, r_12, r_2, r_27, r_3, r_30, r_31, r_44, r_45, r_6, r_60, r_62, r_7, r_70, r_71, r_80_2, r_80_3, r_80_4, r_81_3, r_91, r_99n, wpn_S, wpn_zero, stp_h, lk_0, lk_s, st1_0, st1_1, st1_2, st2_0, st2_1, st2_2, kj_i, kj_a, kj_l, kj_n, cat_n, cat_i, cat_a, cat_u, cat_l, vc_i, vc_a, rv_s, tl_n, tl_s, Cal'_s, List.length_cons, List.length_nil, i0, i1, iNd, iN_lt, iN_le, iN_eq, iN_add, iN_mul, iN_mod, iN_sub, iN_div, iN_clamp, iN_inb, zle_N, zlt_N, zN_le, zN_lt, zN_eq, Nz_eq, mI_t, mI_f, bI_0, bI_1, bI_t, bI_f, dltT, dltF, dleT, dleF, deqT, deqF, Nat.not_lt_zero, not_true_eq_false, not_false_eq_true, true_and, and_true, false_and, and_false, or_true, true_or, false_or, or_false, and_self, if_true, if_false, Classical.not_not, Nat.add_assoc, Nat.zero_add, Nat.add_zero, bI_or, bI_True, bI_False, Bool.false_eq_true, reduceCtorEq, eq_self, gi_si, gl_si, gr_si, hn_si, hL_si, hX_si, gi_sl, gl_sl, gr_sl, hn_sl, ob_si, ar_si, ob_sl, ar_sl, ks_232_0, ks_232_1, ks_232_2, ks_232_3, ks_232_4, ks_232_5, oO, r16, a97, s97, u1, u2, u3, r15, a96, s96, t96, swd_t112, fN])
        exact hQ
    · clear hp
      (refine wp_go 600 ks_232_0.1 ?_; simp (disch := first | with_reducible assumption | omega | (simp only [ob_si, ar_si, ob_sl, ar_sl]; with_reducible assumption)) only [ci_0, ci_1, ci_104, ci_105, ci_106, ci_107, ci_108, ci_109, ci_110, ci_111, ci_112, ci_113, ci_2, ci_3, ci_31, ci_6, ci_999, cl_1, cl_60, iN_l, jN_add, jN_div, jN_eq, jN_le, jN_lt, jN_mod, jN_mul, jN_sub, l0, lc_eq, lc_ge, lc_gt, lc_le, lc_lt, ldA_a, ldI_i, oc_202, oc_203, oc_213, oc_218, oc_223, oc_231, r_0, r_10, r_12, r_2, r_27, r_3, r_30, r_31, r_44, r_45, r_6, r_60, r_62, r_7, r_70, r_71, r_80_2, r_80_3, r_80_4, r_81_3, r_91, r_99n, wpn_S, wpn_zero, stp_h, lk_0, lk_s, st1_0, st1_1, st1_2, st2_0, st2_1, st2_2, kj_i, kj_a, kj_l, kj_n, cat_n, cat_i, cat_a, cat_u, cat_l, vc_i, vc_a, rv_s, tl_n, tl_s, Cal'_s, List.length_cons, List.length_nil, i0, i1, iNd, iN_lt, iN_le, iN_eq, iN_add, iN_mul, iN_mod, iN_sub, iN_div, iN_clamp, iN_inb, zle_N, zlt_N, zN_le, zN_lt, zN_eq, Nz_eq, mI_t, mI_f, bI_0, bI_1, bI_t, bI_f, dltT, dltF, dleT, dleF, deqT, deqF, Nat.not_lt_zero, not_true_eq_false, not_false_eq_true, true_and, and_true, false_and, and_false, or_true, true_or, false_or, or_false, and_self, if_true, if_false, Classical.not_not, Nat.add_assoc, Nat.zero_add, Nat.add_zero, bI_or, bI_True, bI_False, Bool.false_eq_true, reduceCtorEq, eq_self, gi_si, gl_si, gr_si, hn_si, hL_si, hX_si, gi_sl, gl_sl, gr_sl, hn_sl, ob_si, ar_si, ob_sl, ar_sl, ks_232_0, ks_232_1, ks_232_2, ks_232_3, ks_232_4, ks_232_5, oO, r16, a97, s97, u1, u2, u3, r15, a96, s96, t96, swd_t112, fN])
      exact hQ
set_option maxHeartbeats 8000000 in
theorem o_to_q {h : Hp} {n k a : Nat} {v : Nat → Nat} {y : Mt} (hB : Bs h) (hv : ∀ k, v k ≤ 255) (hS : StP v n a) (hn : n ≤ 96) (hk : k < 49) (hD : Td h v k a) (hA : Ao h y) (hW : Wf y) (e : v a = 113) : ∃ h', Ret 4 232 [.ref 87, .int (iN k)] h (some (.int (bI (exM v a y ≠ none)))) h' ∧ (∀ z, exM v a y = some z → Ao h' z) ∧ Fo Sq Fq h h' := by
  obtain ⟨oO, r9, r14, r15, r16, a94, a95, a96, a97, s94, s95, s96, s97⟩ := L_facts hB
  clear r9 r14 a94 a95 s94 s95
  obtain ⟨t95, t96, tn1, tn2, tn3⟩ := hD
  have wN := hW.1
  have fN : gi h 87 0 = iN (xN y) := hA.1
  have fD : gi h 87 6 = xD y := hA.2.1
  have hg : dgN (v a) = 4 := by rw [e]; decide
  have hle := hS.2
  rw [hg] at hle
  rw [e] at t96
  obtain ⟨d1, d1'⟩ := St_dig hS (q := 1) (by decide) (by rw [hg]; decide)
  obtain ⟨d2, d2'⟩ := St_dig hS (q := 2) (by decide) (by rw [hg]; decide)
  obtain ⟨d3, d3'⟩ := St_dig hS (q := 3) (by decide) (by rw [hg]; decide)
  obtain ⟨d4, d4'⟩ := St_dig hS (q := 4) (by decide) (by rw [hg]; decide)
  have b1 : dv v (a + 1) ≤ 9 := by unfold dv; omega
  have b2 : dv v (a + 2) ≤ 9 := by unfold dv; omega
  have b3 : tw2 v (a + 3) ≤ 99 := by
    unfold tw2 dv
    rw [show a + 3 + 1 = a + 4 by omega]
    omega
  have u1 : gi h 97 (3 * k) = iN (dv v (a + 1)) := by rw [tn1, if_neg (by omega)]
  have u2 : gi h 97 (3 * k + 1) = iN (dv v (a + 2)) := by rw [tn2 (by omega), if_neg (by omega)]
  have u3 : gi h 97 (3 * k + 2) = iN (tw2 v (a + 3)) := tn3 (Or.inr e)
  rw [ex_q e, bI_c isO_ne]
  clear e hv hS hg hle t95 tn1 tn2 tn3 d1 d1' d2 d2' d3 d3' d4 d4'
  have rt := o_two (p := iN (dv v (a + 1))) (q := iN (dv v (a + 2))) hB hA hW
  rw [isT_N (by omega) (by omega) (by omega)] at rt
  by_cases hp : dv v (a + 1) < xN y ∧ dv v (a + 2) < xN y ∧ ¬ dv v (a + 1) = dv v (a + 2)
  · obtain ⟨p1, p2, p3⟩ := id hp
    rw [bI_t hp] at rt ⊢
    have f1 : Fo Sq Fq h (si (si h 92 (6 * dv v (a + 1) + dv v (a + 2)) (iN (tw2 v (a + 3)))) 92 (6 * dv v (a + 2) + dv v (a + 1)) (iN (tw2 v (a + 3)))) := ((Fo.rf _ _ h).sa (by unfold Sq; omega) (by omega) _ _).sa (by unfold Sq; omega) (by omega) _ _
    refine ⟨_, ?_, fun z hz => ?_, f1⟩
    · refine Ret_L [some (.ref 87), some (.int (iN k)), none, none, none, none] rfl rfl fun Q hQ => ?_
      (refine wp_go 600 ks_232_0.1 ?_; simp (disch := first | with_reducible assumption | omega | (simp only [ob_si, ar_si, ob_sl, ar_sl]; with_reducible assumption)) only [ci_0, ci_1, ci_104, ci_105, ci_106, ci_107, ci_108, ci_109, ci_110, ci_111, ci_112, ci_113, ci_2, ci_3, ci_31, ci_6, ci_999, cl_1, cl_60, iN_l, jN_add, jN_div, jN_eq, jN_le, jN_lt, jN_mod, jN_mul, jN_sub, l0, lc_eq, lc_ge, lc_gt, lc_le, lc_lt, ldA_a, ldI_i, oc_202, oc_203, oc_213, oc_218, oc_223, oc_231, r_0, r_10, r_12, r_2, r_27, r_3, r_30, r_31, r_44, r_45, r_6, r_60, r_62, r_7, r_70, r_71, r_80_2, r_80_3, r_80_4, r_81_3, r_91, r_99n, wpn_S, wpn_zero, stp_h, lk_0, lk_s, st1_0, st1_1, st1_2, st2_0, st2_1, st2_2, kj_i, kj_a, kj_l, kj_n, cat_n, cat_i, cat_a, cat_u, cat_l, vc_i, vc_a, rv_s, tl_n, tl_s, Cal'_s, List.length_cons, List.length_nil, i0, i1, iNd, iN_lt, iN_le, iN_eq, iN_add, iN_mul, iN_mod, iN_sub, iN_div, iN_clamp, iN_inb, zle_N, zlt_N, zN_le, zN_lt, zN_eq, Nz_eq, mI_t, mI_f, bI_0, bI_1, bI_t, bI_f, dltT, dltF, dleT, dleF, deqT, deqF, Nat.not_lt_zero, not_true_eq_false, not_false_eq_true, true_and, and_true, false_and, and_false, or_true, true_or, false_or, or_false, and_self, if_true, if_false, Classical.not_not, Nat.add_assoc, Nat.zero_add, Nat.add_zero, bI_or, bI_True, bI_False, Bool.false_eq_true, reduceCtorEq, eq_self, gi_si, gl_si, gr_si, hn_si, hL_si, hX_si, gi_sl, gl_sl, gr_sl, hn_sl, ob_si, ar_si, ob_sl, ar_sl, ks_232_0, ks_232_1, ks_232_2, ks_232_3, ks_232_4, ks_232_5, oO, r16, a97, s97, u1, u2, u3, r15, a96, s96, t96, swd_t113, Cal_eq rt, o_setQ_q hB])
      exact hQ
    · obtain ⟨_, rfl⟩ := isO_s hz
      exact Ao_Q (by omega) (by omega) hA
  · rw [bI_f hp] at rt ⊢
    refine ⟨h, ?_, (fun z hz => by rw [isO_f hp] at hz; cases hz), Fo.rf _ _ h⟩
    refine Ret_L [some (.ref 87), some (.int (iN k)), none, none, none, none] rfl rfl fun Q hQ => ?_
    (refine wp_go 600 ks_232_0.1 ?_; simp (disch := first | with_reducible assumption | omega | (simp only [ob_si, ar_si, ob_sl, ar_sl]; with_reducible assumption)) only [ci_0, ci_1, ci_104, ci_105, ci_106, ci_107, ci_108, ci_109, ci_110, ci_111, ci_112, ci_113, ci_2, ci_3, ci_31, ci_6, ci_999, cl_1, cl_60, iN_l, jN_add, jN_div, jN_eq, jN_le, jN_lt, jN_mod, jN_mul, jN_sub, l0, lc_eq, lc_ge, lc_gt, lc_le, lc_lt, ldA_a, ldI_i, oc_202, oc_203, oc_213, oc_218, oc_223, oc_231, r_0, r_10, r_12, r_2, r_27, r_3, r_30, r_31, r_44, r_45, r_6, r_60, r_62, r_7, r_70, r_71, r_80_2, r_80_3, r_80_4, r_81_3, r_91, r_99n, wpn_S, wpn_zero, stp_h, lk_0, lk_s, st1_0, st1_1, st1_2, st2_0, st2_1, st2_2, kj_i, kj_a, kj_l, kj_n, cat_n, cat_i, cat_a, cat_u, cat_l, vc_i, vc_a, rv_s, tl_n, tl_s, Cal'_s, List.length_cons, List.length_nil, i0, i1, iNd, iN_lt, iN_le, iN_eq, iN_add, iN_mul, iN_mod, iN_sub, iN_div, iN_clamp, iN_inb, zle_N, zlt_N, zN_le, zN_lt, zN_eq, Nz_eq, mI_t, mI_f, bI_0, bI_1, bI_t, bI_f, dltT, dltF, dleT, dleF, deqT, deqF, Nat.not_lt_zero, not_true_eq_false, not_false_eq_true, true_and, and_true, false_and, and_false, or_true, true_or, false_or, or_false, and_self, if_true, if_false, Classical.not_not, Nat.add_assoc, Nat.zero_add, Nat.add_zero, bI_or, bI_True, bI_False, Bool.false_eq_true, reduceCtorEq, eq_self, gi_si, gl_si, gr_si, hn_si, hL_si, hX_si, gi_sl, gl_sl, gr_sl, hn_sl, ob_si, ar_si, ob_sl, ar_sl, ks_232_0, ks_232_1, ks_232_2, ks_232_3, ks_232_4, ks_232_5, oO, r16, a97, s97, u1, u2, u3, r15, a96, s96, t96, swd_t113, Cal_eq rt])
    exact hQ
set_option maxHeartbeats 8000000 in
theorem o_to_h {h : Hp} {n k a : Nat} {v : Nat → Nat} {y : Mt} (hB : Bs h) (hv : ∀ k, v k ≤ 255) (hS : StP v n a) (hn : n ≤ 96) (hk : k < 49) (hD : Td h v k a) (hA : Ao h y) (hW : Wf y) (e : v a = 104) : ∃ h', Ret 4 232 [.ref 87, .int (iN k)] h (some (.int (bI (exM v a y ≠ none)))) h' ∧ (∀ z, exM v a y = some z → Ao h' z) ∧ Fo Sq Fq h h' := by
  obtain ⟨oO, r9, r14, r15, r16, a94, a95, a96, a97, s94, s95, s96, s97⟩ := L_facts hB
  clear r9 r14 a94 a95 s94 s95
  obtain ⟨t95, t96, tn1, tn2, tn3⟩ := hD
  have wN := hW.1
  have fN : gi h 87 0 = iN (xN y) := hA.1
  have fD : gi h 87 6 = xD y := hA.2.1
  have hg : dgN (v a) = 3 := by rw [e]; decide
  have hle := hS.2
  rw [hg] at hle
  rw [e] at t96
  obtain ⟨d1, d1'⟩ := St_dig hS (q := 1) (by decide) (by rw [hg]; decide)
  obtain ⟨d2, d2'⟩ := St_dig hS (q := 2) (by decide) (by rw [hg]; decide)
  obtain ⟨d3, d3'⟩ := St_dig hS (q := 3) (by decide) (by rw [hg]; decide)
  have b1 : dv v (a + 1) ≤ 9 := by unfold dv; omega
  have b3 : tw2 v (a + 2) ≤ 99 := by
    unfold tw2 dv
    rw [show a + 2 + 1 = a + 3 by omega]
    omega
  have u1 : gi h 97 (3 * k) = iN (dv v (a + 1)) := by rw [tn1, if_neg (by omega)]
  have u2 : gi h 97 (3 * k + 1) = iN (tw2 v (a + 2)) := by rw [tn2 (by omega), if_pos e]
  rw [ex_h e, bI_c isO_ne]
  clear e hv hS hg hle t95 tn1 tn2 tn3 d1 d1' d2 d2' d3 d3'
  obtain ⟨oO2, rO1, rO2, rO3, rO4, rO5, rO8, aO1, aO2, aO3, aO4, aO5, aO8, sO1, sO2, sO3, sO4, sO5, sO8⟩ := O_facts hB
  clear oO2 rO1 rO2 rO4 rO5 rO8 aO1 aO2 aO4 aO5 aO8 sO1 sO2 sO4 sO5 sO8
  have rt := o_one (p := iN (dv v (a + 1))) hB hA hW
  rw [isP_N (by omega) (by omega)] at rt
  by_cases hp : dv v (a + 1) < xN y ∧ tw2 v (a + 2) ≤ 31
  · obtain ⟨p1, p2⟩ := id hp
    rw [bI_t p1] at rt
    rw [bI_t hp]
    refine ⟨si h 90 (dv v (a + 1)) (iN (tw2 v (a + 2))), ?_, fun z hz => ?_, (Fo.rf _ _ h).sa (by unfold Sq; omega) (by omega) _ _⟩
    · refine Ret_L [some (.ref 87), some (.int (iN k)), none, none, none, none] rfl rfl fun Q hQ => ?_
      (refine wp_go 600 ks_232_0.1 ?_; simp (disch := first | with_reducible assumption | omega | (simp only [ob_si, ar_si, ob_sl, ar_sl]; with_reducible assumption)) only [ci_0, ci_1, ci_104, ci_105, ci_106, ci_107, ci_108, ci_109, ci_110, ci_111, ci_112, ci_113, ci_2, ci_3, ci_31, ci_6, ci_999, cl_1, cl_60, iN_l, jN_add, jN_div, jN_eq, jN_le, jN_lt, jN_mod, jN_mul, jN_sub, l0, lc_eq, lc_ge, lc_gt, lc_le, lc_lt, ldA_a, ldI_i, oc_202, oc_203, oc_213, oc_218, oc_223, oc_231, r_0, r_10, r_12, r_2, r_27, r_3, r_30, r_31, r_44, r_45, r_6, r_60, r_62, r_7, r_70, r_71, r_80_2, r_80_3, r_80_4, r_81_3, r_91, r_99n, wpn_S, wpn_zero, stp_h, lk_0, lk_s, st1_0, st1_1, st1_2, st2_0, st2_1, st2_2, kj_i, kj_a, kj_l, kj_n, cat_n, cat_i, cat_a, cat_u, cat_l, vc_i, vc_a, rv_s, tl_n, tl_s, Cal'_s, List.length_cons, List.length_nil, i0, i1, iNd, iN_lt, iN_le, iN_eq, iN_add, iN_mul, iN_mod, iN_sub, iN_div, iN_clamp, iN_inb, zle_N, zlt_N, zN_le, zN_lt, zN_eq, Nz_eq, mI_t, mI_f, bI_0, bI_1, bI_t, bI_f, dltT, dltF, dleT, dleF, deqT, deqF, Nat.not_lt_zero, not_true_eq_false, not_false_eq_true, true_and, and_true, false_and, and_false, or_true, true_or, false_or, or_false, and_self, if_true, if_false, Classical.not_not, Nat.add_assoc, Nat.zero_add, Nat.add_zero, bI_or, bI_True, bI_False, Bool.false_eq_true, reduceCtorEq, eq_self, gi_si, gl_si, gr_si, hn_si, hL_si, hX_si, gi_sl, gl_sl, gr_sl, hn_sl, ob_si, ar_si, ob_sl, ar_sl, ks_232_0, ks_232_1, ks_232_2, ks_232_3, ks_232_4, ks_232_5, oO, r16, a97, s97, u1, u2, r15, a96, s96, t96, swd_t104, Cal_eq rt, rO3, aO3, sO3])
      exact hQ
    · obtain ⟨_, rfl⟩ := isO_s hz
      exact Ao_H hA
  · rw [bI_f hp]
    refine ⟨h, ?_, (fun z hz => by rw [isO_f hp] at hz; cases hz), Fo.rf _ _ h⟩
    refine Ret_L [some (.ref 87), some (.int (iN k)), none, none, none, none] rfl rfl fun Q hQ => ?_
    by_cases p1 : dv v (a + 1) < xN y
    · rw [bI_t p1] at rt
      have p2 : ¬ tw2 v (a + 2) ≤ 31 := fun q => hp ⟨p1, q⟩
      clear hp
      (refine wp_go 600 ks_232_0.1 ?_; simp (disch := first | with_reducible assumption | omega | (simp only [ob_si, ar_si, ob_sl, ar_sl]; with_reducible assumption)) only [ci_0, ci_1, ci_104, ci_105, ci_106, ci_107, ci_108, ci_109, ci_110, ci_111, ci_112, ci_113, ci_2, ci_3, ci_31, ci_6, ci_999, cl_1, cl_60, iN_l, jN_add, jN_div, jN_eq, jN_le, jN_lt, jN_mod, jN_mul, jN_sub, l0, lc_eq, lc_ge, lc_gt, lc_le, lc_lt, ldA_a, ldI_i, oc_202, oc_203, oc_213, oc_218, oc_223, oc_231, r_0, r_10, r_12, r_2, r_27, r_3, r_30, r_31, r_44, r_45, r_6, r_60, r_62, r_7, r_70, r_71, r_80_2, r_80_3, r_80_4, r_81_3, r_91, r_99n, wpn_S, wpn_zero, stp_h, lk_0, lk_s, st1_0, st1_1, st1_2, st2_0, st2_1, st2_2, kj_i, kj_a, kj_l, kj_n, cat_n, cat_i, cat_a, cat_u, cat_l, vc_i, vc_a, rv_s, tl_n, tl_s, Cal'_s, List.length_cons, List.length_nil, i0, i1, iNd, iN_lt, iN_le, iN_eq, iN_add, iN_mul, iN_mod, iN_sub, iN_div, iN_clamp, iN_inb, zle_N, zlt_N, zN_le, zN_lt, zN_eq, Nz_eq, mI_t, mI_f, bI_0, bI_1, bI_t, bI_f, dltT, dltF, dleT, dleF, deqT, deqF, Nat.not_lt_zero, not_true_eq_false, not_false_eq_true, true_and, and_true, false_and, and_false, or_true, true_or, false_or, or_false, and_self, if_true, if_false, Classical.not_not, Nat.add_assoc, Nat.zero_add, Nat.add_zero, bI_or, bI_True, bI_False, Bool.false_eq_true, reduceCtorEq, eq_self, gi_si, gl_si, gr_si, hn_si, hL_si, hX_si, gi_sl, gl_sl, gr_sl, hn_sl, ob_si, ar_si, ob_sl, ar_sl, ks_232_0, ks_232_1, ks_232_2, ks_232_3, ks_232_4, ks_232_5, oO, r16, a97, s97, u1, u2, r15, a96, s96, t96, swd_t104, Cal_eq rt])
      exact hQ
    · rw [bI_f p1] at rt
      clear hp
      (refine wp_go 600 ks_232_0.1 ?_; simp (disch := first | with_reducible assumption | omega | (simp only [ob_si, ar_si, ob_sl, ar_sl]; with_reducible assumption)) only [ci_0, ci_1, ci_104, ci_105, ci_106, ci_107, ci_108, ci_109, ci_110, ci_111, ci_112, ci_113, ci_2, ci_3, ci_31, ci_6, ci_999, cl_1, cl_60, iN_l, jN_add, jN_div, jN_eq, jN_le, jN_lt, jN_mod, jN_mul, jN_sub, l0, lc_eq, lc_ge, lc_gt, lc_le, lc_lt, ldA_a, ldI_i, oc_202, oc_203, oc_213, oc_218, oc_223, oc_231, r_0, r_10, r_12, r_2, r_27, r_3, r_30, r_31, r_44, r_45, r_6, r_60, r_62, r_7, r_70, r_71, r_80_2, r_80_3, r_80_4, r_81_3, r_91, r_99n, wpn_S, wpn_zero, stp_h, lk_0, lk_s, st1_0, st1_1, st1_2, st2_0, st2_1, st2_2, kj_i, kj_a, kj_l, kj_n, cat_n, cat_i, cat_a, cat_u, cat_l, vc_i, vc_a, rv_s, tl_n, tl_s, Cal'_s, List.length_cons, List.length_nil, i0, i1, iNd, iN_lt, iN_le, iN_eq, iN_add, iN_mul, iN_mod, iN_sub, iN_div, iN_clamp, iN_inb, zle_N, zlt_N, zN_le, zN_lt, zN_eq, Nz_eq, mI_t, mI_f, bI_0, bI_1, bI_t, bI_f, dltT, dltF, dleT, dleF, deqT, deqF, Nat.not_lt_zero, not_true_eq_false, not_false_eq_true, true_and, and_true, false_and, and_false, or_true, true_or, false_or, or_false, and_self, if_true, if_false, Classical.not_not, Nat.add_assoc, Nat.zero_add, Nat.add_zero, bI_or, bI_True, bI_False, Bool.false_eq_true, reduceCtorEq, eq_self, gi_si, gl_si, gr_si, hn_si, hL_si, hX_si, gi_sl, gl_sl, gr_sl, hn_sl, ob_si, ar_si, ob_sl, ar_sl, ks_232_0, ks_232_1, ks_232_2, ks_232_3, ks_232_4, ks_232_5, oO, r16, a97, s97, u1, u2, r15, a96, s96, t96, swd_t104, Cal_eq rt])
      exact hQ
set_option maxHeartbeats 8000000 in
theorem o_to_m {h : Hp} {n k a : Nat} {v : Nat → Nat} {y : Mt} (hB : Bs h) (hv : ∀ k, v k ≤ 255) (hS : StP v n a) (hn : n ≤ 96) (hk : k < 49) (hD : Td h v k a) (hA : Ao h y) (hW : Wf y) (e : v a = 109) : ∃ h', Ret 4 232 [.ref 87, .int (iN k)] h (some (.int (bI (exM v a y ≠ none)))) h' ∧ (∀ z, exM v a y = some z → Ao h' z) ∧ Fo Sq Fq h h' := by
  obtain ⟨oO, r9, r14, r15, r16, a94, a95, a96, a97, s94, s95, s96, s97⟩ := L_facts hB
  clear r9 r14 a94 a95 s94 s95
  obtain ⟨t95, t96, tn1, tn2, tn3⟩ := hD
  have wN := hW.1
  have fN : gi h 87 0 = iN (xN y) := hA.1
  have fD : gi h 87 6 = xD y := hA.2.1
  have hg : dgN (v a) = 2 := by rw [e]; decide
  have hle := hS.2
  rw [hg] at hle
  rw [e] at t96
  obtain ⟨d1, d1'⟩ := St_dig hS (q := 1) (by decide) (by rw [hg]; decide)
  obtain ⟨d2, d2'⟩ := St_dig hS (q := 2) (by decide) (by rw [hg]; decide)
  have b1 : dv v (a + 1) ≤ 9 := by unfold dv; omega
  have b2 : dv v (a + 2) ≤ 9 := by unfold dv; omega
  have u1 : gi h 97 (3 * k) = iN (dv v (a + 1)) := by rw [tn1, if_neg (by omega)]
  have u2 : gi h 97 (3 * k + 1) = iN (dv v (a + 2)) := by rw [tn2 (by omega), if_neg (by omega)]
  rw [ex_m e, bI_c isO_ne]
  clear e hv hS hg hle t95 tn1 tn2 tn3 d1 d1' d2 d2'
  have rt := o_two (p := iN (dv v (a + 1))) (q := iN (dv v (a + 2))) hB hA hW
  rw [isT_N (by omega) (by omega) (by omega)] at rt
  by_cases hp : dv v (a + 1) < xN y ∧ dv v (a + 2) < xN y ∧ ¬ dv v (a + 1) = dv v (a + 2)
  · obtain ⟨p1, p2, p3⟩ := id hp
    rw [bI_t hp] at rt ⊢
    obtain ⟨h1, q1, A1, f1⟩ := wo_jp (i := dv v (a + 1)) (j := dv v (a + 2)) hB hA hW p1 p2 p3
    refine ⟨h1, ?_, fun z hz => ?_, f1⟩
    · refine Ret_L [some (.ref 87), some (.int (iN k)), none, none, none, none] rfl rfl fun Q hQ => ?_
      (refine wp_go 600 ks_232_0.1 ?_; simp (disch := first | with_reducible assumption | omega | (simp only [ob_si, ar_si, ob_sl, ar_sl]; with_reducible assumption)) only [ci_0, ci_1, ci_104, ci_105, ci_106, ci_107, ci_108, ci_109, ci_110, ci_111, ci_112, ci_113, ci_2, ci_3, ci_31, ci_6, ci_999, cl_1, cl_60, iN_l, jN_add, jN_div, jN_eq, jN_le, jN_lt, jN_mod, jN_mul, jN_sub, l0, lc_eq, lc_ge, lc_gt, lc_le, lc_lt, ldA_a, ldI_i, oc_202, oc_203, oc_213, oc_218, oc_223, oc_231, r_0, r_10, r_12, r_2, r_27, r_3, r_30, r_31, r_44, r_45, r_6, r_60, r_62, r_7, r_70, r_71, r_80_2, r_80_3, r_80_4, r_81_3, r_91, r_99n, wpn_S, wpn_zero, stp_h, lk_0, lk_s, st1_0, st1_1, st1_2, st2_0, st2_1, st2_2, kj_i, kj_a, kj_l, kj_n, cat_n, cat_i, cat_a, cat_u, cat_l, vc_i, vc_a, rv_s, tl_n, tl_s, Cal'_s, List.length_cons, List.length_nil, i0, i1, iNd, iN_lt, iN_le, iN_eq, iN_add, iN_mul, iN_mod, iN_sub, iN_div, iN_clamp, iN_inb, zle_N, zlt_N, zN_le, zN_lt, zN_eq, Nz_eq, mI_t, mI_f, bI_0, bI_1, bI_t, bI_f, dltT, dltF, dleT, dleF, deqT, deqF, Nat.not_lt_zero, not_true_eq_false, not_false_eq_true, true_and, and_true, false_and, and_false, or_true, true_or, false_or, or_false, and_self, if_true, if_false, Classical.not_not, Nat.add_assoc, Nat.zero_add, Nat.add_zero, bI_or, bI_True, bI_False, Bool.false_eq_true, reduceCtorEq, eq_self, gi_si, gl_si, gr_si, hn_si, hL_si, hX_si, gi_sl, gl_sl, gr_sl, hn_sl, ob_si, ar_si, ob_sl, ar_sl, ks_232_0, ks_232_1, ks_232_2, ks_232_3, ks_232_4, ks_232_5, oO, r16, a97, s97, u1, u2, r15, a96, s96, t96, swd_t109, Cal_eq rt, Cal_eq q1])
      exact hQ
    · obtain ⟨_, rfl⟩ := isO_s hz
      exact A1
  · rw [bI_f hp] at rt ⊢
    refine ⟨h, ?_, (fun z hz => by rw [isO_f hp] at hz; cases hz), Fo.rf _ _ h⟩
    refine Ret_L [some (.ref 87), some (.int (iN k)), none, none, none, none] rfl rfl fun Q hQ => ?_
    (refine wp_go 600 ks_232_0.1 ?_; simp (disch := first | with_reducible assumption | omega | (simp only [ob_si, ar_si, ob_sl, ar_sl]; with_reducible assumption)) only [ci_0, ci_1, ci_104, ci_105, ci_106, ci_107, ci_108, ci_109, ci_110, ci_111, ci_112, ci_113, ci_2, ci_3, ci_31, ci_6, ci_999, cl_1, cl_60, iN_l, jN_add, jN_div, jN_eq, jN_le, jN_lt, jN_mod, jN_mul, jN_sub, l0, lc_eq, lc_ge, lc_gt, lc_le, lc_lt, ldA_a, ldI_i, oc_202, oc_203, oc_213, oc_218, oc_223, oc_231, r_0, r_10, r_12, r_2, r_27, r_3, r_30, r_31, r_44, r_45, r_6, r_60, r_62, r_7, r_70, r_71, r_80_2, r_80_3, r_80_4, r_81_3, r_91, r_99n, wpn_S, wpn_zero, stp_h, lk_0, lk_s, st1_0, st1_1, st1_2, st2_0, st2_1, st2_2, kj_i, kj_a, kj_l, kj_n, cat_n, cat_i, cat_a, cat_u, cat_l, vc_i, vc_a, rv_s, tl_n, tl_s, Cal'_s, List.length_cons, List.length_nil, i0, i1, iNd, iN_lt, iN_le, iN_eq, iN_add, iN_mul, iN_mod, iN_sub, iN_div, iN_clamp, iN_inb, zle_N, zlt_N, zN_le, zN_lt, zN_eq, Nz_eq, mI_t, mI_f, bI_0, bI_1, bI_t, bI_f, dltT, dltF, dleT, dleF, deqT, deqF, Nat.not_lt_zero, not_true_eq_false, not_false_eq_true, true_and, and_true, false_and, and_false, or_true, true_or, false_or, or_false, and_self, if_true, if_false, Classical.not_not, Nat.add_assoc, Nat.zero_add, Nat.add_zero, bI_or, bI_True, bI_False, Bool.false_eq_true, reduceCtorEq, eq_self, gi_si, gl_si, gr_si, hn_si, hL_si, hX_si, gi_sl, gl_sl, gr_sl, hn_sl, ob_si, ar_si, ob_sl, ar_sl, ks_232_0, ks_232_1, ks_232_2, ks_232_3, ks_232_4, ks_232_5, oO, r16, a97, s97, u1, u2, r15, a96, s96, t96, swd_t109, Cal_eq rt])
    exact hQ
set_option maxHeartbeats 8000000 in
theorem o_to_d {h : Hp} {n k a : Nat} {v : Nat → Nat} {y : Mt} (hB : Bs h) (hv : ∀ k, v k ≤ 255) (hS : StP v n a) (hn : n ≤ 96) (hk : k < 49) (hD : Td h v k a) (hA : Ao h y) (hW : Wf y) (e : v a = 100) : ∃ h', Ret 4 232 [.ref 87, .int (iN k)] h (some (.int (bI (exM v a y ≠ none)))) h' ∧ (∀ z, exM v a y = some z → Ao h' z) ∧ Fo Sq Fq h h' := by
  obtain ⟨oO, r9, r14, r15, r16, a94, a95, a96, a97, s94, s95, s96, s97⟩ := L_facts hB
  clear r9 r14 a94 a95 s94 s95
  obtain ⟨t95, t96, tn1, tn2, tn3⟩ := hD
  have wN := hW.1
  have fN : gi h 87 0 = iN (xN y) := hA.1
  have fD : gi h 87 6 = xD y := hA.2.1
  have hg : dgN (v a) = 2 := by rw [e]; decide
  have hle := hS.2
  rw [hg] at hle
  rw [e] at t96
  obtain ⟨d1, d1'⟩ := St_dig hS (q := 1) (by decide) (by rw [hg]; decide)
  obtain ⟨d2, d2'⟩ := St_dig hS (q := 2) (by decide) (by rw [hg]; decide)
  have b3 : tw2 v (a + 1) ≤ 99 := by
    unfold tw2 dv
    rw [show a + 1 + 1 = a + 2 by omega]
    omega
  have u1 : gi h 97 (3 * k) = iN (tw2 v (a + 1)) := by rw [tn1, if_pos e]
  rw [ex_d e, bI_c isO_ne]
  clear e hv hS hg hle t95 tn1 tn2 tn3 d1 d1' d2 d2'
  by_cases p1 : 1 ≤ tw2 v (a + 1) ∧ tw2 v (a + 1) ≤ 60
  · obtain ⟨p1a, p1b⟩ := p1
    by_cases p2 : iN 999 < xD y + iN (tw2 v (a + 1))
    · obtain ⟨p3, p4⟩ := raw_gt p2
      refine ⟨h, ?_, (fun z hz => by rw [isO_f (fun q => q.2 p2)] at hz; cases hz), Fo.rf _ _ h⟩
      refine Ret_L [some (.ref 87), some (.int (iN k)), none, none, none, none] rfl rfl fun Q hQ => ?_
      rw [bI_f (fun q => q.2 p2)] at hQ
      (refine wp_go 600 ks_232_0.1 ?_; simp (disch := first | with_reducible assumption | omega | (simp only [ob_si, ar_si, ob_sl, ar_sl]; with_reducible assumption)) only [ci_0, ci_1, ci_104, ci_105, ci_106, ci_107, ci_108, ci_109, ci_110, ci_111, ci_112, ci_113, ci_2, ci_3, ci_31, ci_6, ci_999, cl_1, cl_60, iN_l, jN_add, jN_div, jN_eq, jN_le, jN_lt, jN_mod, jN_mul, jN_sub, l0, lc_eq, lc_ge, lc_gt, lc_le, lc_lt, ldA_a, ldI_i, oc_202, oc_203, oc_213, oc_218, oc_223, oc_231, r_0, r_10, r_12, r_2, r_27, r_3, r_30, r_31, r_44, r_45, r_6, r_60, r_62, r_7, r_70, r_71, r_80_2, r_80_3, r_80_4, r_81_3, r_91, r_99n, wpn_S, wpn_zero, stp_h, lk_0, lk_s, st1_0, st1_1, st1_2, st2_0, st2_1, st2_2, kj_i, kj_a, kj_l, kj_n, cat_n, cat_i, cat_a, cat_u, cat_l, vc_i, vc_a, rv_s, tl_n, tl_s, Cal'_s, List.length_cons, List.length_nil, i0, i1, iNd, iN_lt, iN_le, iN_eq, iN_add, iN_mul, iN_mod, iN_sub, iN_div, iN_clamp, iN_inb, zle_N, zlt_N, zN_le, zN_lt, zN_eq, Nz_eq, mI_t, mI_f, bI_0, bI_1, bI_t, bI_f, dltT, dltF, dleT, dleF, deqT, deqF, Nat.not_lt_zero, not_true_eq_false, not_false_eq_true, true_and, and_true, false_and, and_false, or_true, true_or, false_or, or_false, and_self, if_true, if_false, Classical.not_not, Nat.add_assoc, Nat.zero_add, Nat.add_zero, bI_or, bI_True, bI_False, Bool.false_eq_true, reduceCtorEq, eq_self, gi_si, gl_si, gr_si, hn_si, hL_si, hX_si, gi_sl, gl_sl, gr_sl, hn_sl, ob_si, ar_si, ob_sl, ar_sl, ks_232_0, ks_232_1, ks_232_2, ks_232_3, ks_232_4, ks_232_5, oO, r16, a97, s97, u1, r15, a96, s96, t96, swd_t100, o_in_q trivial, iN_l, fD, p3, p4])
      exact hQ
    · obtain ⟨p3, p4⟩ := raw_le p2
      obtain ⟨h1, q1, A1, f1⟩ := wo_go (n := tw2 v (a + 1)) hB hA hW (by omega)
      refine ⟨h1, ?_, fun z hz => ?_, f1⟩
      · refine Ret_L [some (.ref 87), some (.int (iN k)), none, none, none, none] rfl rfl fun Q hQ => ?_
        rw [bI_t ⟨⟨p1a, p1b⟩, p2⟩] at hQ
        (refine wp_go 600 ks_232_0.1 ?_; simp (disch := first | with_reducible assumption | omega | (simp only [ob_si, ar_si, ob_sl, ar_sl]; with_reducible assumption)) only [ci_0, ci_1, ci_104, ci_105, ci_106, ci_107, ci_108, ci_109, ci_110, ci_111, ci_112, ci_113, ci_2, ci_3, ci_31, ci_6, ci_999, cl_1, cl_60, iN_l, jN_add, jN_div, jN_eq, jN_le, jN_lt, jN_mod, jN_mul, jN_sub, l0, lc_eq, lc_ge, lc_gt, lc_le, lc_lt, ldA_a, ldI_i, oc_202, oc_203, oc_213, oc_218, oc_223, oc_231, r_0, r_10, r_12, r_2, r_27, r_3, r_30, r_31, r_44, r_45, r_6, r_60, r_62, r_7, r_70, r_71, r_80_2, r_80_3, r_80_4, r_81_3, r_91, r_99n, wpn_S, wpn_zero, stp_h, lk_0, lk_s, st1_0, st1_1, st1_2, st2_0, st2_1, st2_2, kj_i, kj_a, kj_l, kj_n, cat_n, cat_i, cat_a, cat_u, cat_l, vc_i, vc_a, rv_s, tl_n, tl_s, Cal'_s, List.length_cons, List.length_nil, i0, i1, iNd, iN_lt, iN_le, iN_eq, iN_add, iN_mul, iN_mod, iN_sub, iN_div, iN_clamp, iN_inb, zle_N, zlt_N, zN_le, zN_lt, zN_eq, Nz_eq, mI_t, mI_f, bI_0, bI_1, bI_t, bI_f, dltT, dltF, dleT, dleF, deqT, deqF, Nat.not_lt_zero, not_true_eq_false, not_false_eq_true, true_and, and_true, false_and, and_false, or_true, true_or, false_or, or_false, and_self, if_true, if_false, Classical.not_not, Nat.add_assoc, Nat.zero_add, Nat.add_zero, bI_or, bI_True, bI_False, Bool.false_eq_true, reduceCtorEq, eq_self, gi_si, gl_si, gr_si, hn_si, hL_si, hX_si, gi_sl, gl_sl, gr_sl, hn_sl, ob_si, ar_si, ob_sl, ar_sl, ks_232_0, ks_232_1, ks_232_2, ks_232_3, ks_232_4, ks_232_5, oO, r16, a97, s97, u1, r15, a96, s96, t96, swd_t100, o_in_q trivial, iN_l, fD, p3, p4, Cal_eq q1])
        exact hQ
      · obtain ⟨_, rfl⟩ := isO_s hz
        exact A1
  · refine ⟨h, ?_, (fun z hz => by rw [isO_f (fun q => p1 q.1)] at hz; cases hz), Fo.rf _ _ h⟩
    refine Ret_L [some (.ref 87), some (.int (iN k)), none, none, none, none] rfl rfl fun Q hQ => ?_
    rw [bI_f (fun q => p1 q.1)] at hQ
    by_cases p3 : 1 ≤ tw2 v (a + 1)
    · have p4 : ¬ tw2 v (a + 1) ≤ 60 := fun q => p1 ⟨p3, q⟩
      clear p1
      (refine wp_go 600 ks_232_0.1 ?_; simp (disch := first | with_reducible assumption | omega | (simp only [ob_si, ar_si, ob_sl, ar_sl]; with_reducible assumption)) only [ci_0, ci_1, ci_104, ci_105, ci_106, ci_107, ci_108, ci_109, ci_110, ci_111, ci_112, ci_113, ci_2, ci_3, ci_31, ci_6, ci_999, cl_1, cl_60, iN_l, jN_add, jN_div, jN_eq, jN_le, jN_lt, jN_mod, jN_mul, jN_sub, l0, lc_eq, lc_ge, lc_gt, lc_le, lc_lt, ldA_a, ldI_i, oc_202, oc_203, oc_213, oc_218, oc_223, oc_231, r_0, r_10, r_12, r_2, r_27, r_3, r_30, r_31, r_44, r_45, r_6, r_60, r_62, r_7, r_70, r_71, r_80_2, r_80_3, r_80_4, r_81_3, r_91, r_99n, wpn_S, wpn_zero, stp_h, lk_0, lk_s, st1_0, st1_1, st1_2, st2_0, st2_1, st2_2, kj_i, kj_a, kj_l, kj_n, cat_n, cat_i, cat_a, cat_u, cat_l, vc_i, vc_a, rv_s, tl_n, tl_s, Cal'_s, List.length_cons, List.length_nil, i0, i1, iNd, iN_lt, iN_le, iN_eq, iN_add, iN_mul, iN_mod, iN_sub, iN_div, iN_clamp, iN_inb, zle_N, zlt_N, zN_le, zN_lt, zN_eq, Nz_eq, mI_t, mI_f, bI_0, bI_1, bI_t, bI_f, dltT, dltF, dleT, dleF, deqT, deqF, Nat.not_lt_zero, not_true_eq_false, not_false_eq_true, true_and, and_true, false_and, and_false, or_true, true_or, false_or, or_false, and_self, if_true, if_false, Classical.not_not, Nat.add_assoc, Nat.zero_add, Nat.add_zero, bI_or, bI_True, bI_False, Bool.false_eq_true, reduceCtorEq, eq_self, gi_si, gl_si, gr_si, hn_si, hL_si, hX_si, gi_sl, gl_sl, gr_sl, hn_sl, ob_si, ar_si, ob_sl, ar_sl, ks_232_0, ks_232_1, ks_232_2, ks_232_3, ks_232_4, ks_232_5, oO, r16, a97, s97, u1, r15, a96, s96, t96, swd_t100, o_in_q trivial, iN_l])
      exact hQ
    · clear p1
      (refine wp_go 600 ks_232_0.1 ?_; simp (disch := first | with_reducible assumption | omega | (simp only [ob_si, ar_si, ob_sl, ar_sl]; with_reducible assumption)) only [ci_0, ci_1, ci_104, ci_105, ci_106, ci_107, ci_108, ci_109, ci_110, ci_111, ci_112, ci_113, ci_2, ci_3, ci_31, ci_6, ci_999, cl_1, cl_60, iN_l, jN_add, jN_div, jN_eq, jN_le, jN_lt, jN_mod, jN_mul, jN_sub, l0, lc_eq, lc_ge, lc_gt, lc_le, lc_lt, ldA_a, ldI_i, oc_202, oc_203, oc_213, oc_218, oc_223, oc_231, r_0, r_10, r_12, r_2, r_27, r_3, r_30, r_31, r_44, r_45, r_6, r_60, r_62, r_7, r_70, r_71, r_80_2, r_80_3, r_80_4, r_81_3, r_91, r_99n, wpn_S, wpn_zero, stp_h, lk_0, lk_s, st1_0, st1_1, st1_2, st2_0, st2_1, st2_2, kj_i, kj_a, kj_l, kj_n, cat_n, cat_i, cat_a, cat_u, cat_l, vc_i, vc_a, rv_s, tl_n, tl_s, Cal'_s, List.length_cons, List.length_nil, i0, i1, iNd, iN_lt, iN_le, iN_eq, iN_add, iN_mul, iN_mod, iN_sub, iN_div, iN_clamp, iN_inb, zle_N, zlt_N, zN_le, zN_lt, zN_eq, Nz_eq, mI_t, mI_f, bI_0, bI_1, bI_t, bI_f, dltT, dltF, dleT, dleF, deqT, deqF, Nat.not_lt_zero, not_true_eq_false, not_false_eq_true, true_and, and_true, false_and, and_false, or_true, true_or, false_or, or_false, and_self, if_true, if_false, Classical.not_not, Nat.add_assoc, Nat.zero_add, Nat.add_zero, bI_or, bI_True, bI_False, Bool.false_eq_true, reduceCtorEq, eq_self, gi_si, gl_si, gr_si, hn_si, hL_si, hX_si, gi_sl, gl_sl, gr_sl, hn_sl, ob_si, ar_si, ob_sl, ar_sl, ks_232_0, ks_232_1, ks_232_2, ks_232_3, ks_232_4, ks_232_5, oO, r16, a97, s97, u1, r15, a96, s96, t96, swd_t100, o_in_q trivial, iN_l])
      exact hQ
theorem o_told {h : Hp} {n k a : Nat} {v : Nat → Nat} {y : Mt} (hB : Bs h) (hv : ∀ k, v k ≤ 255) (hS : StP v n a) (hn : n ≤ 96) (hk : k < 49) (hD : Td h v k a) (hA : Ao h y) (hW : Wf y) : ∃ h', Ret 4 232 [.ref 87, .int (iN k)] h (some (.int (bI (exM v a y ≠ none)))) h' ∧ (∀ z, exM v a y = some z → Ao h' z) ∧ Fo Sq Fq h h' := by
  rcases dg_c (St_d hS) with e | e | e | e | e
  · exact o_to_p hB hv hS hn hk hD hA hW e
  · exact o_to_q hB hv hS hn hk hD hA hW e
  · exact o_to_h hB hv hS hn hk hD hA hW e
  · exact o_to_m hB hv hS hn hk hD hA hW e
  · exact o_to_d hB hv hS hn hk hD hA hW e
