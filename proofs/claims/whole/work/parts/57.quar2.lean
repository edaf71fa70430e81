/-! a quarter: the class carries it out -/
theorem ex_p {v : Nat → Nat} {a : Nat} {y : Mt} (hc : v a = 112) : exM v a y = isO (dv v (a + 1) < 6 ∧ tw2 v (a + 3) ≤ 31 ∧ xN y < 6) (adM y (dv v (a + 1)) (dv v (a + 2)) (tw2 v (a + 3))) := by
  unfold exM exO tA tB tE
  rw [if_pos hc, if_neg (show ¬ v a = 100 by omega), if_neg (show ¬ v a = 104 by omega)]
theorem ex_h {v : Nat → Nat} {a : Nat} {y : Mt} (hc : v a = 104) : exM v a y = isO (dv v (a + 1) < xN y ∧ tw2 v (a + 2) ≤ 31) (uH y (dv v (a + 1)) (tw2 v (a + 2))) := by
  unfold exM exO tA tB tE
  rw [if_neg (show ¬ v a = 112 by omega), if_pos hc, if_neg (show ¬ v a = 100 by omega), if_pos hc]
theorem ex_q {v : Nat → Nat} {a : Nat} {y : Mt} (hc : v a = 113) : exM v a y = isO (dv v (a + 1) < xN y ∧ dv v (a + 2) < xN y ∧ ¬ dv v (a + 1) = dv v (a + 2)) (uQ y (dv v (a + 1)) (dv v (a + 2)) (tw2 v (a + 3))) := by
  unfold exM exO tA tB tE
  rw [if_neg (show ¬ v a = 112 by omega), if_neg (show ¬ v a = 104 by omega), if_pos hc, if_neg (show ¬ v a = 100 by omega), if_neg (show ¬ v a = 104 by omega)]
theorem ex_m {v : Nat → Nat} {a : Nat} {y : Mt} (hc : v a = 109) : exM v a y = isO (dv v (a + 1) < xN y ∧ dv v (a + 2) < xN y ∧ ¬ dv v (a + 1) = dv v (a + 2)) (jpM y (dv v (a + 1)) (dv v (a + 2))) := by
  unfold exM exO tA tB tE
  rw [if_neg (show ¬ v a = 112 by omega), if_neg (show ¬ v a = 104 by omega), if_neg (show ¬ v a = 113 by omega), if_pos hc, if_neg (show ¬ v a = 100 by omega), if_neg (show ¬ v a = 104 by omega)]
theorem ex_d {v : Nat → Nat} {a : Nat} {y : Mt} (hc : v a = 100) : exM v a y = isO ((1 ≤ tw2 v (a + 1) ∧ tw2 v (a + 1) ≤ 60) ∧ ¬ iN 999 < xD y + iN (tw2 v (a + 1))) (dayM y (tw2 v (a + 1))) := by
  unfold exM exO tA tB tE
  rw [if_neg (show ¬ v a = 112 by omega), if_neg (show ¬ v a = 104 by omega), if_neg (show ¬ v a = 113 by omega), if_neg (show ¬ v a = 109 by omega), if_pos hc]
theorem M7 : isM 7 := Or.inr (Or.inl rfl)
theorem q_person {h : Hp} {a b e : Nat} {y : Mt} (hB : Bs h) (hA : At h 7 y) (hW : Wf y) (ha : a < 100) (he : e < 1000) : ∃ h', Ret 2 107 [.ref 7, .int (iN a), .int (iN b), .int (iN e)] h (some (.int (bI (a < 6 ∧ e ≤ 31 ∧ xN y < 6)))) h' ∧ ((a < 6 ∧ e ≤ 31 ∧ xN y < 6) → At h' 7 (adM y a b e)) ∧ Fr (Sm 7) h h' := by
  have o7 : ob h 7 3 := hB.ob (by decide) (by decide)
  have wN := hW.1
  have rf := c_isFull M7 hB hA hW
  by_cases hP : a < 6 ∧ e ≤ 31 ∧ xN y < 6
  · obtain ⟨p1, p2, p3⟩ := id hP
    obtain ⟨h1, r1, A1, f1⟩ := w_add (m := 7) (k := a) (f := b) (c := e) M7 hB hA hW p3
    refine ⟨h1, ?_, fun _ => A1, f1⟩
    refine Ret_L [some (.ref 7), some (.int (iN a)), some (.int (iN b)), some (.int (iN e))] rfl rfl fun Q hQ => ?_
    rw [bI_t hP] at hQ
    (refine wp_go 600 ks_107_0.1 ?_; simp (disch := first | with_reducible assumption | omega | (simp only [ob_si, ar_si, ob_sl, ar_sl]; with_reducible assumption)) only [ci_0, ci_1, ci_31, ci_6, ldA_a, ldI_i, oc_24, oc_27, r_0, r_2, r_31, r_44, r_45, r_52, r_6, r_80_1, r_80_4, r_91, wpn_S, wpn_zero, stp_h, lk_0, lk_s, st1_0, st1_1, st1_2, st2_0, st2_1, st2_2, kj_i, kj_a, kj_l, kj_n, cat_n, cat_i, cat_a, cat_u, cat_l, vc_i, vc_a, rv_s, tl_n, tl_s, Cal'_s, List.length_cons, List.length_nil, i0, i1, iNd, iN_lt, iN_le, iN_eq, iN_add, iN_mul, iN_mod, iN_sub, iN_div, iN_clamp, iN_inb, zle_N, zlt_N, zN_le, zN_lt, zN_eq, Nz_eq, mI_t, mI_f, bI_0, bI_1, bI_t, bI_f, dltT, dltF, dleT, dleF, deqT, deqF, Nat.not_lt_zero, not_true_eq_false, not_false_eq_true, true_and, and_true, false_and, and_false, or_true, true_or, false_or, or_false, and_self, if_true, if_false, Classical.not_not, Nat.add_assoc, Nat.zero_add, Nat.add_zero, bI_or, bI_True, bI_False, Bool.false_eq_true, reduceCtorEq, eq_self, gi_si, gl_si, gr_si, hn_si, hL_si, hX_si, gi_sl, gl_sl, gr_sl, hn_sl, ob_si, ar_si, ob_sl, ar_sl, ks_107_0, o7, Cal_eq rf, Cal_eq r1])
    exact hQ
  · refine ⟨h, ?_, fun e => absurd e hP, Fr.rf _ h⟩
    refine Ret_L [some (.ref 7), some (.int (iN a)), some (.int (iN b)), some (.int (iN e))] rfl rfl fun Q hQ => ?_
    rw [bI_f hP] at hQ
    by_cases p1 : a < 6
    · by_cases p2 : e ≤ 31
      · have p3 : 6 ≤ xN y := by omega
        (refine wp_go 600 ks_107_0.1 ?_; simp (disch := first | with_reducible assumption | omega | (simp only [ob_si, ar_si, ob_sl, ar_sl]; with_reducible assumption)) only [ci_0, ci_1, ci_31, ci_6, ldA_a, ldI_i, oc_24, oc_27, r_0, r_2, r_31, r_44, r_45, r_52, r_6, r_80_1, r_80_4, r_91, wpn_S, wpn_zero, stp_h, lk_0, lk_s, st1_0, st1_1, st1_2, st2_0, st2_1, st2_2, kj_i, kj_a, kj_l, kj_n, cat_n, cat_i, cat_a, cat_u, cat_l, vc_i, vc_a, rv_s, tl_n, tl_s, Cal'_s, List.length_cons, List.length_nil, i0, i1, iNd, iN_lt, iN_le, iN_eq, iN_add, iN_mul, iN_mod, iN_sub, iN_div, iN_clamp, iN_inb, zle_N, zlt_N, zN_le, zN_lt, zN_eq, Nz_eq, mI_t, mI_f, bI_0, bI_1, bI_t, bI_f, dltT, dltF, dleT, dleF, deqT, deqF, Nat.not_lt_zero, not_true_eq_false, not_false_eq_true, true_and, and_true, false_and, and_false, or_true, true_or, false_or, or_false, and_self, if_true, if_false, Classical.not_not, Nat.add_assoc, Nat.zero_add, Nat.add_zero, bI_or, bI_True, bI_False, Bool.false_eq_true, reduceCtorEq, eq_self, gi_si, gl_si, gr_si, hn_si, hL_si, hX_si, gi_sl, gl_sl, gr_sl, hn_sl, ob_si, ar_si, ob_sl, ar_sl, ks_107_0, o7, Cal_eq rf])
        exact hQ
      · (refine wp_go 600 ks_107_0.1 ?_; simp (disch := first | with_reducible assumption | omega | (simp only [ob_si, ar_si, ob_sl, ar_sl]; with_reducible assumption)) only [ci_0, ci_1, ci_31, ci_6, ldA_a, ldI_i, oc_24, oc_27, r_0, r_2, r_31, r_44, r_45, r_52, r_6, r_80_1, r_80_4, r_91, wpn_S, wpn_zero, stp_h, lk_0, lk_s, st1_0, st1_1, st1_2, st2_0, st2_1, st2_2, kj_i, kj_a, kj_l, kj_n, cat_n, cat_i, cat_a, cat_u, cat_l, vc_i, vc_a, rv_s, tl_n, tl_s, Cal'_s, List.length_cons, List.length_nil, i0, i1, iNd, iN_lt, iN_le, iN_eq, iN_add, iN_mul, iN_mod, iN_sub, iN_div, iN_clamp, iN_inb, zle_N, zlt_N, zN_le, zN_lt, zN_eq, Nz_eq, mI_t, mI_f, bI_0, bI_1, bI_t, bI_f, dltT, dltF, dleT, dleF, deqT, deqF, Nat.not_lt_zero, not_true_eq_false, not_false_eq_true, true_and, and_true, false_and, and_false, or_true, true_or, false_or, or_false, and_self, if_true, if_false, Classical.not_not, Nat.add_assoc, Nat.zero_add, Nat.add_zero, bI_or, bI_True, bI_False, Bool.false_eq_true, reduceCtorEq, eq_self, gi_si, gl_si, gr_si, hn_si, hL_si, hX_si, gi_sl, gl_sl, gr_sl, hn_sl, ob_si, ar_si, ob_sl, ar_sl, ks_107_0, o7, Cal_eq rf])
        exact hQ
    · (refine wp_go 600 ks_107_0.1 ?_; simp (disch := first | with_reducible assumption | omega | (simp only [ob_si, ar_si, ob_sl, ar_sl]; with_reducible assumption)) only [ci_0, ci_1, ci_31, ci_6, ldA_a, ldI_i, oc_24, oc_27, r_0, r_2, r_31, r_44, r_45, r_52, r_6, r_80_1, r_80_4, r_91, wpn_S, wpn_zero, stp_h, lk_0, lk_s, st1_0, st1_1, st1_2, st2_0, st2_1, st2_2, kj_i, kj_a, kj_l, kj_n, cat_n, cat_i, cat_a, cat_u, cat_l, vc_i, vc_a, rv_s, tl_n, tl_s, Cal'_s, List.length_cons, List.length_nil, i0, i1, iNd, iN_lt, iN_le, iN_eq, iN_add, iN_mul, iN_mod, iN_sub, iN_div, iN_clamp, iN_inb, zle_N, zlt_N, zN_le, zN_lt, zN_eq, Nz_eq, mI_t, mI_f, bI_0, bI_1, bI_t, bI_f, dltT, dltF, dleT, dleF, deqT, deqF, Nat.not_lt_zero, not_true_eq_false, not_false_eq_true, true_and, and_true, false_and, and_false, or_true, true_or, false_or, or_false, and_self, if_true, if_false, Classical.not_not, Nat.add_assoc, Nat.zero_add, Nat.add_zero, bI_or, bI_True, bI_False, Bool.false_eq_true, reduceCtorEq, eq_self, gi_si, gl_si, gr_si, hn_si, hL_si, hX_si, gi_sl, gl_sl, gr_sl, hn_sl, ob_si, ar_si, ob_sl, ar_sl, ks_107_0, o7, Cal_eq rf])
      exact hQ
theorem q_hours {h : Hp} {a b : Nat} {y : Mt} (hB : Bs h) (hA : At h 7 y) (hW : Wf y) (ha : a < 100) (hb : b < 1000) : ∃ h', Ret 2 108 [.ref 7, .int (iN a), .int (iN b)] h (some (.int (bI (a < xN y ∧ b ≤ 31)))) h' ∧ ((a < xN y ∧ b ≤ 31) → At h' 7 (uH y a b)) ∧ Fr (Sm 7) h h' := by
  have o7 : ob h 7 3 := hB.ob (by decide) (by decide)
  have wN := hW.1
  by_cases hP : a < xN y ∧ b ≤ 31
  · obtain ⟨p1, p2⟩ := id hP
    have r0 := c_hasT (m := 7) (i := a) M7 hB hA hW p1
    have r1 := c_setH (m := 7) (i := a) (v := iN b) M7 hB (by omega)
    refine ⟨si h (7 + 3) a (iN b), ?_, fun _ => At_H hA, (Fr.rf _ h).si (by unfold Sm; omega) _ _⟩
    refine Ret_L [some (.ref 7), some (.int (iN a)), some (.int (iN b))] rfl rfl fun Q hQ => ?_
    rw [bI_t hP] at hQ
    (refine wp_go 600 ks_108_0.1 ?_; simp (disch := first | with_reducible assumption | omega | (simp only [ob_si, ar_si, ob_sl, ar_sl]; with_reducible assumption)) only [ci_0, ci_1, ci_31, ldA_a, ldI_i, oc_25, oc_33, r_0, r_2, r_31, r_46, r_6, r_80_2, r_80_3, r_91, wpn_S, wpn_zero, stp_h, lk_0, lk_s, st1_0, st1_1, st1_2, st2_0, st2_1, st2_2, kj_i, kj_a, kj_l, kj_n, cat_n, cat_i, cat_a, cat_u, cat_l, vc_i, vc_a, rv_s, tl_n, tl_s, Cal'_s, List.length_cons, List.length_nil, i0, i1, iNd, iN_lt, iN_le, iN_eq, iN_add, iN_mul, iN_mod, iN_sub, iN_div, iN_clamp, iN_inb, zle_N, zlt_N, zN_le, zN_lt, zN_eq, Nz_eq, mI_t, mI_f, bI_0, bI_1, bI_t, bI_f, dltT, dltF, dleT, dleF, deqT, deqF, Nat.not_lt_zero, not_true_eq_false, not_false_eq_true, true_and, and_true, false_and, and_false, or_true, true_or, false_or, or_false, and_self, if_true, if_false, Classical.not_not, Nat.add_assoc, Nat.zero_add, Nat.add_zero, bI_or, bI_True, bI_False, Bool.false_eq_true, reduceCtorEq, eq_self, gi_si, gl_si, gr_si, hn_si, hL_si, hX_si, gi_sl, gl_sl, gr_sl, hn_sl, ob_si, ar_si, ob_sl, ar_sl, ks_108_0, o7, Cal_eq r0, Cal_eq r1])
    exact hQ
  · refine ⟨h, ?_, fun e => absurd e hP, Fr.rf _ h⟩
    refine Ret_L [some (.ref 7), some (.int (iN a)), some (.int (iN b))] rfl rfl fun Q hQ => ?_
    rw [bI_f hP] at hQ
    by_cases p1 : a < xN y
    · have r0 := c_hasT (m := 7) (i := a) M7 hB hA hW p1
      (refine wp_go 600 ks_108_0.1 ?_; simp (disch := first | with_reducible assumption | omega | (simp only [ob_si, ar_si, ob_sl, ar_sl]; with_reducible assumption)) only [ci_0, ci_1, ci_31, ldA_a, ldI_i, oc_25, oc_33, r_0, r_2, r_31, r_46, r_6, r_80_2, r_80_3, r_91, wpn_S, wpn_zero, stp_h, lk_0, lk_s, st1_0, st1_1, st1_2, st2_0, st2_1, st2_2, kj_i, kj_a, kj_l, kj_n, cat_n, cat_i, cat_a, cat_u, cat_l, vc_i, vc_a, rv_s, tl_n, tl_s, Cal'_s, List.length_cons, List.length_nil, i0, i1, iNd, iN_lt, iN_le, iN_eq, iN_add, iN_mul, iN_mod, iN_sub, iN_div, iN_clamp, iN_inb, zle_N, zlt_N, zN_le, zN_lt, zN_eq, Nz_eq, mI_t, mI_f, bI_0, bI_1, bI_t, bI_f, dltT, dltF, dleT, dleF, deqT, deqF, Nat.not_lt_zero, not_true_eq_false, not_false_eq_true, true_and, and_true, false_and, and_false, or_true, true_or, false_or, or_false, and_self, if_true, if_false, Classical.not_not, Nat.add_assoc, Nat.zero_add, Nat.add_zero, bI_or, bI_True, bI_False, Bool.false_eq_true, reduceCtorEq, eq_self, gi_si, gl_si, gr_si, hn_si, hL_si, hX_si, gi_sl, gl_sl, gr_sl, hn_sl, ob_si, ar_si, ob_sl, ar_sl, ks_108_0, o7, Cal_eq r0])
      exact hQ
    · have r0 := c_hasG (m := 7) (i := a) M7 hB hA hW (by omega) (by omega)
      (refine wp_go 600 ks_108_0.1 ?_; simp (disch := first | with_reducible assumption | omega | (simp only [ob_si, ar_si, ob_sl, ar_sl]; with_reducible assumption)) only [ci_0, ci_1, ci_31, ldA_a, ldI_i, oc_25, oc_33, r_0, r_2, r_31, r_46, r_6, r_80_2, r_80_3, r_91, wpn_S, wpn_zero, stp_h, lk_0, lk_s, st1_0, st1_1, st1_2, st2_0, st2_1, st2_2, kj_i, kj_a, kj_l, kj_n, cat_n, cat_i, cat_a, cat_u, cat_l, vc_i, vc_a, rv_s, tl_n, tl_s, Cal'_s, List.length_cons, List.length_nil, i0, i1, iNd, iN_lt, iN_le, iN_eq, iN_add, iN_mul, iN_mod, iN_sub, iN_div, iN_clamp, iN_inb, zle_N, zlt_N, zN_le, zN_lt, zN_eq, Nz_eq, mI_t, mI_f, bI_0, bI_1, bI_t, bI_f, dltT, dltF, dleT, dleF, deqT, deqF, Nat.not_lt_zero, not_true_eq_false, not_false_eq_true, true_and, and_true, false_and, and_false, or_true, true_or, false_or, or_false, and_self, if_true, if_false, Classical.not_not, Nat.add_assoc, Nat.zero_add, Nat.add_zero, bI_or, bI_True, bI_False, Bool.false_eq_true, reduceCtorEq, eq_self, gi_si, gl_si, gr_si, hn_si, hL_si, hX_si, gi_sl, gl_sl, gr_sl, hn_sl, ob_si, ar_si, ob_sl, ar_sl, ks_108_0, o7, Cal_eq r0])
      exact hQ
theorem q_quar {h : Hp} {a b e : Nat} {y : Mt} (hB : Bs h) (hA : At h 7 y) (hW : Wf y) (ha : a < 100) (hb : b < 100) : ∃ h', Ret 2 109 [.ref 7, .int (iN a), .int (iN b), .int (iN e)] h (some (.int (bI (a < xN y ∧ b < xN y ∧ ¬ a = b)))) h' ∧ ((a < xN y ∧ b < xN y ∧ ¬ a = b) → At h' 7 (uQ y a b e)) ∧ Fr (Sm 7) h h' := by
  have o7 : ob h 7 3 := hB.ob (by decide) (by decide)
  have wN := hW.1
  by_cases hP : a < xN y ∧ b < xN y ∧ ¬ a = b
  · obtain ⟨p1, p2, p3⟩ := id hP
    have r0 := c_areT (m := 7) (i := a) (j := b) M7 hB hA hW p1 p2 p3
    have r1 := c_setQ (m := 7) (i := a) (j := b) (v := iN e) M7 hB (by omega) (by omega)
    refine ⟨_, ?_, fun _ => At_Q (by omega) (by omega) hA, ((Fr.rf _ h).si (by unfold Sm; omega) _ _).si (by unfold Sm; omega) _ _⟩
    refine Ret_L [some (.ref 7), some (.int (iN a)), some (.int (iN b)), some (.int (iN e))] rfl rfl fun Q hQ => ?_
    rw [bI_t hP] at hQ
    (refine wp_go 600 ks_109_0.1 ?_; simp (disch := first | with_reducible assumption | omega | (simp only [ob_si, ar_si, ob_sl, ar_sl]; with_reducible assumption)) only [ci_0, ci_1, ldA_a, ldI_i, oc_26, oc_37, r_0, r_2, r_32, r_6, r_80_3, r_80_4, r_91, wpn_S, wpn_zero, stp_h, lk_0, lk_s, st1_0, st1_1, st1_2, st2_0, st2_1, st2_2, kj_i, kj_a, kj_l, kj_n, cat_n, cat_i, cat_a, cat_u, cat_l, vc_i, vc_a, rv_s, tl_n, tl_s, Cal'_s, List.length_cons, List.length_nil, i0, i1, iNd, iN_lt, iN_le, iN_eq, iN_add, iN_mul, iN_mod, iN_sub, iN_div, iN_clamp, iN_inb, zle_N, zlt_N, zN_le, zN_lt, zN_eq, Nz_eq, mI_t, mI_f, bI_0, bI_1, bI_t, bI_f, dltT, dltF, dleT, dleF, deqT, deqF, Nat.not_lt_zero, not_true_eq_false, not_false_eq_true, true_and, and_true, false_and, and_false, or_true, true_or, false_or, or_false, and_self, if_true, if_false, Classical.not_not, Nat.add_assoc, Nat.zero_add, Nat.add_zero, bI_or, bI_True, bI_False, Bool.false_eq_true, reduceCtorEq, eq_self, gi_si, gl_si, gr_si, hn_si, hL_si, hX_si, gi_sl, gl_sl, gr_sl, hn_sl, ob_si, ar_si, ob_sl, ar_sl, ks_109_0, o7, Cal_eq r0, Cal_eq r1])
    exact hQ
  · refine ⟨h, ?_, fun e => absurd e hP, Fr.rf _ h⟩
    refine Ret_L [some (.ref 7), some (.int (iN a)), some (.int (iN b)), some (.int (iN e))] rfl rfl fun Q hQ => ?_
    rw [bI_f hP] at hQ
    have r0 := c_areF (m := 7) (p := iN a) (q := iN b) M7 hB hA hW (by rw [isT_N (by omega) (by omega) (by omega)]; exact hP)
    (refine wp_go 600 ks_109_0.1 ?_; simp (disch := first | with_reducible assumption | omega | (simp only [ob_si, ar_si, ob_sl, ar_sl]; with_reducible assumption)) only [ci_0, ci_1, ldA_a, ldI_i, oc_26, oc_37, r_0, r_2, r_32, r_6, r_80_3, r_80_4, r_91, wpn_S, wpn_zero, stp_h, lk_0, lk_s, st1_0, st1_1, st1_2, st2_0, st2_1, st2_2, kj_i, kj_a, kj_l, kj_n, cat_n, cat_i, cat_a, cat_u, cat_l, vc_i, vc_a, rv_s, tl_n, tl_s, Cal'_s, List.length_cons, List.length_nil, i0, i1, iNd, iN_lt, iN_le, iN_eq, iN_add, iN_mul, iN_mod, iN_sub, iN_div, iN_clamp, iN_inb, zle_N, zlt_N, zN_le, zN_lt, zN_eq, Nz_eq, mI_t, mI_f, bI_0, bI_1, bI_t, bI_f, dltT, dltF, dleT, dleF, deqT, deqF, Nat.not_lt_zero, not_true_eq_false, not_false_eq_true, true_and, and_true, false_and, and_false, or_true, true_or, false_or, or_false, and_self, if_true, if_false, Classical.not_not, Nat.add_assoc, Nat.zero_add, Nat.add_zero, bI_or, bI_True, bI_False, Bool.false_eq_true, reduceCtorEq, eq_self, gi_si, gl_si, gr_si, hn_si, hL_si, hX_si, gi_sl, gl_sl, gr_sl, hn_sl, ob_si, ar_si, ob_sl, ar_sl, ks_109_0, o7, Cal_eq r0])
    exact hQ
theorem q_mat {h : Hp} {a b : Nat} {y : Mt} (hB : Bs h) (hA : At h 7 y) (hW : Wf y) (ha : a < 100) (hb : b < 100) : ∃ h', Ret 4 110 [.ref 7, .int (iN a), .int (iN b)] h (some (.int (bI (a < xN y ∧ b < xN y ∧ ¬ a = b)))) h' ∧ ((a < xN y ∧ b < xN y ∧ ¬ a = b) → At h' 7 (jpM y a b)) ∧ Fr (Sm 7) h h' := by
  have o7 : ob h 7 3 := hB.ob (by decide) (by decide)
  have wN := hW.1
  by_cases hP : a < xN y ∧ b < xN y ∧ ¬ a = b
  · obtain ⟨p1, p2, p3⟩ := id hP
    have r0 := c_areT (m := 7) (i := a) (j := b) M7 hB hA hW p1 p2 p3
    obtain ⟨h1, r1, A1, f1⟩ := w_jp (m := 7) (i := a) (j := b) M7 hB hA hW p1 p2 p3
    refine ⟨h1, ?_, fun _ => A1, f1⟩
    refine Ret_L [some (.ref 7), some (.int (iN a)), some (.int (iN b))] rfl rfl fun Q hQ => ?_
    rw [bI_t hP] at hQ
    (refine wp_go 600 ks_110_0.1 ?_; simp (disch := first | with_reducible assumption | omega | (simp only [ob_si, ar_si, ob_sl, ar_sl]; with_reducible assumption)) only [ci_0, ci_1, ldA_a, ldI_i, oc_26, oc_42, r_0, r_2, r_32, r_6, r_80_3, r_91, wpn_S, wpn_zero, stp_h, lk_0, lk_s, st1_0, st1_1, st1_2, st2_0, st2_1, st2_2, kj_i, kj_a, kj_l, kj_n, cat_n, cat_i, cat_a, cat_u, cat_l, vc_i, vc_a, rv_s, tl_n, tl_s, Cal'_s, List.length_cons, List.length_nil, i0, i1, iNd, iN_lt, iN_le, iN_eq, iN_add, iN_mul, iN_mod, iN_sub, iN_div, iN_clamp, iN_inb, zle_N, zlt_N, zN_le, zN_lt, zN_eq, Nz_eq, mI_t, mI_f, bI_0, bI_1, bI_t, bI_f, dltT, dltF, dleT, dleF, deqT, deqF, Nat.not_lt_zero, not_true_eq_false, not_false_eq_true, true_and, and_true, false_and, and_false, or_true, true_or, false_or, or_false, and_self, if_true, if_false, Classical.not_not, Nat.add_assoc, Nat.zero_add, Nat.add_zero, bI_or, bI_True, bI_False, Bool.false_eq_true, reduceCtorEq, eq_self, gi_si, gl_si, gr_si, hn_si, hL_si, hX_si, gi_sl, gl_sl, gr_sl, hn_sl, ob_si, ar_si, ob_sl, ar_sl, ks_110_0, o7, Cal_eq r0, Cal_eq r1])
    exact hQ
  · refine ⟨h, ?_, fun e => absurd e hP, Fr.rf _ h⟩
    refine Ret_L [some (.ref 7), some (.int (iN a)), some (.int (iN b))] rfl rfl fun Q hQ => ?_
    rw [bI_f hP] at hQ
    have r0 := c_areF (m := 7) (p := iN a) (q := iN b) M7 hB hA hW (by rw [isT_N (by omega) (by omega) (by omega)]; exact hP)
    (refine wp_go 600 ks_110_0.1 ?_; simp (disch := first | with_reducible assumption | omega | (simp only [ob_si, ar_si, ob_sl, ar_sl]; with_reducible assumption)) only [ci_0, ci_1, ldA_a, ldI_i, oc_26, oc_42, r_0, r_2, r_32, r_6, r_80_3, r_91, wpn_S, wpn_zero, stp_h, lk_0, lk_s, st1_0, st1_1, st1_2, st2_0, st2_1, st2_2, kj_i, kj_a, kj_l, kj_n, cat_n, cat_i, cat_a, cat_u, cat_l, vc_i, vc_a, rv_s, tl_n, tl_s, Cal'_s, List.length_cons, List.length_nil, i0, i1, iNd, iN_lt, iN_le, iN_eq, iN_add, iN_mul, iN_mod, iN_sub, iN_div, iN_clamp, iN_inb, zle_N, zlt_N, zN_le, zN_lt, zN_eq, Nz_eq, mI_t, mI_f, bI_0, bI_1, bI_t, bI_f, dltT, dltF, dleT, dleF, deqT, deqF, Nat.not_lt_zero, not_true_eq_false, not_false_eq_true, true_and, and_true, false_and, and_false, or_true, true_or, false_or, or_false, and_self, if_true, if_false, Classical.not_not, Nat.add_assoc, Nat.zero_add, Nat.add_zero, bI_or, bI_True, bI_False, Bool.false_eq_true, reduceCtorEq, eq_self, gi_si, gl_si, gr_si, hn_si, hL_si, hX_si, gi_sl, gl_sl, gr_sl, hn_sl, ob_si, ar_si, ob_sl, ar_sl, ks_110_0, o7, Cal_eq r0])
    exact hQ
theorem bI_c {P R : Prop} (h : P ↔ R) : bI P = bI R := by rw [propext h]
theorem isO_ne {α : Type} {P : Prop} {x : α} : isO P x ≠ none ↔ P := by
  by_cases h : P
  · rw [isO_t h]; exact ⟨fun _ => h, fun _ e => by cases e⟩
  · rw [isO_f h]; exact ⟨fun e => absurd rfl e, fun e => absurd e h⟩
/-! carry -/
theorem swd_c112 : swk (iN 112) 196 ([(100, 147), (101, 196), (102, 196), (103, 196), (104, 111), (105, 196), (106, 196), (107, 196), (108, 196), (109, 139), (110, 196), (111, 196), (112, 96), (113, 124)] : List (Int × Nat)) = 96 := Eq.trans (swk_ne (ci_ne (c := 112) (k := 100) (by decide) (by decide) (by decide))) (Eq.trans (swk_ne (ci_ne (c := 112) (k := 101) (by decide) (by decide) (by decide))) (Eq.trans (swk_ne (ci_ne (c := 112) (k := 102) (by decide) (by decide) (by decide))) (Eq.trans (swk_ne (ci_ne (c := 112) (k := 103) (by decide) (by decide) (by decide))) (Eq.trans (swk_ne (ci_ne (c := 112) (k := 104) (by decide) (by decide) (by decide))) (Eq.trans (swk_ne (ci_ne (c := 112) (k := 105) (by decide) (by decide) (by decide))) (Eq.trans (swk_ne (ci_ne (c := 112) (k := 106) (by decide) (by decide) (by decide))) (Eq.trans (swk_ne (ci_ne (c := 112) (k := 107) (by decide) (by decide) (by decide))) (Eq.trans (swk_ne (ci_ne (c := 112) (k := 108) (by decide) (by decide) (by decide))) (Eq.trans (swk_ne (ci_ne (c := 112) (k := 109) (by decide) (by decide) (by decide))) (Eq.trans (swk_ne (ci_ne (c := 112) (k := 110) (by decide) (by decide) (by decide))) (Eq.trans (swk_ne (ci_ne (c := 112) (k := 111) (by decide) (by decide) (by decide))) (swk_eq ci_112.symm))))))))))))
theorem swd_c113 : swk (iN 113) 196 ([(100, 147), (101, 196), (102, 196), (103, 196), (104, 111), (105, 196), (106, 196), (107, 196), (108, 196), (109, 139), (110, 196), (111, 196), (112, 96), (113, 124)] : List (Int × Nat)) = 124 := Eq.trans (swk_ne (ci_ne (c := 113) (k := 100) (by decide) (by decide) (by decide))) (Eq.trans (swk_ne (ci_ne (c := 113) (k := 101) (by decide) (by decide) (by decide))) (Eq.trans (swk_ne (ci_ne (c := 113) (k := 102) (by decide) (by decide) (by decide))) (Eq.trans (swk_ne (ci_ne (c := 113) (k := 103) (by decide) (by decide) (by decide))) (Eq.trans (swk_ne (ci_ne (c := 113) (k := 104) (by decide) (by decide) (by decide))) (Eq.trans (swk_ne (ci_ne (c := 113) (k := 105) (by decide) (by decide) (by decide))) (Eq.trans (swk_ne (ci_ne (c := 113) (k := 106) (by decide) (by decide) (by decide))) (Eq.trans (swk_ne (ci_ne (c := 113) (k := 107) (by decide) (by decide) (by decide))) (Eq.trans (swk_ne (ci_ne (c := 113) (k := 108) (by decide) (by decide) (by decide))) (Eq.trans (swk_ne (ci_ne (c := 113) (k := 109) (by decide) (by decide) (by decide))) (Eq.trans (swk_ne (ci_ne (c := 113) (k := 110) (by decide) (by decide) (by decide))) (Eq.trans (swk_ne (ci_ne (c := 113) (k := 111) (by decide) (by decide) (by decide))) (Eq.trans (swk_ne (ci_ne (c := 113) (k := 112) (by decide) (by decide) (by decide))) (swk_eq ci_113.symm)))))))))))))
theorem swd_c104 : swk (iN 104) 196 ([(100, 147), (101, 196), (102, 196), (103, 196), (104, 111), (105, 196), (106, 196), (107, 196), (108, 196), (109, 139), (110, 196), (111, 196), (112, 96), (113, 124)] : List (Int × Nat)) = 111 := Eq.trans (swk_ne (ci_ne (c := 104) (k := 100) (by decide) (by decide) (by decide))) (Eq.trans (swk_ne (ci_ne (c := 104) (k := 101) (by decide) (by decide) (by decide))) (Eq.trans (swk_ne (ci_ne (c := 104) (k := 102) (by decide) (by decide) (by decide))) (Eq.trans (swk_ne (ci_ne (c := 104) (k := 103) (by decide) (by decide) (by decide))) (swk_eq ci_104.symm))))
theorem swd_c109 : swk (iN 109) 196 ([(100, 147), (101, 196), (102, 196), (103, 196), (104, 111), (105, 196), (106, 196), (107, 196), (108, 196), (109, 139), (110, 196), (111, 196), (112, 96), (113, 124)] : List (Int × Nat)) = 139 := Eq.trans (swk_ne (ci_ne (c := 109) (k := 100) (by decide) (by decide) (by decide))) (Eq.trans (swk_ne (ci_ne (c := 109) (k := 101) (by decide) (by decide) (by decide))) (Eq.trans (swk_ne (ci_ne (c := 109) (k := 102) (by decide) (by decide) (by decide))) (Eq.trans (swk_ne (ci_ne (c := 109) (k := 103) (by decide) (by decide) (by decide))) (Eq.trans (swk_ne (ci_ne (c := 109) (k := 104) (by decide) (by decide) (by decide))) (Eq.trans (swk_ne (ci_ne (c := 109) (k := 105) (by decide) (by decide) (by decide))) (Eq.trans (swk_ne (ci_ne (c := 109) (k := 106) (by decide) (by decide) (by decide))) (Eq.trans (swk_ne (ci_ne (c := 109) (k := 107) (by decide) (by decide) (by decide))) (Eq.trans (swk_ne (ci_ne (c := 109) (k := 108) (by decide) (by decide) (by decide))) (swk_eq ci_109.symm)))))))))
theorem swd_c100 : swk (iN 100) 196 ([(100, 147), (101, 196), (102, 196), (103, 196), (104, 111), (105, 196), (106, 196), (107, 196), (108, 196), (109, 139), (110, 196), (111, 196), (112, 96), (113, 124)] : List (Int × Nat)) = 147 := swk_eq ci_100.symm
set_option maxHeartbeats 8000000 in
theorem q_ca_p {h : Hp} {n a : Nat} {v : Nat → Nat} {y : Mt} (hB : Bs h) (hL : Lo h n v) (hn : n ≤ 96) (hv : ∀ k, v k ≤ 255) (hS : StP v n a) (hA : At h 7 y) (hW : Wf y) (e : v a = 112) : ∃ h', Ret 5 104 [.ref 32, .ref 7, .int (iN a)] h (some (.int (bI (exM v a y ≠ none)))) h' ∧ (∀ z, exM v a y = some z → At h' 7 z) ∧ Fr Sd h h' := by
  obtain ⟨oQ, rQ0, rQ1, aQ, sQ⟩ := Q_facts hB
  have o7 : ob h 7 3 := hB.ob (by decide) (by decide)
  have hg : dgN (v a) = 4 := by rw [e]; decide
  have hle := hS.2
  rw [hg] at hle
  obtain ⟨d1, d1'⟩ := St_dig hS (q := 1) (by decide) (by rw [hg]; decide)
  obtain ⟨d2, d2'⟩ := St_dig hS (q := 2) (by decide) (by rw [hg]; decide)
  obtain ⟨d3, d3'⟩ := St_dig hS (q := 3) (by decide) (by rw [hg]; decide)
  obtain ⟨d4, d4'⟩ := St_dig hS (q := 4) (by decide) (by rw [hg]; decide)
  have l0 := hL.2 a (by omega)
  rw [e] at l0
  have rA := q_digit (k := a + 1) hB hL (by omega) (hv _) d1
  have rB := q_digit (k := a + 2) hB hL (by omega) (hv _) d2
  have b1 : dv v (a + 1) ≤ 9 := by unfold dv; omega
  have b2 : dv v (a + 2) ≤ 9 := by unfold dv; omega
  have rC := q_two (k := a + 3) hB hL (by omega) (hv _) (hv _) d3 (show 48 ≤ v (a + 3 + 1) from d4)
  have b3 : tw2 v (a + 3) ≤ 99 := by
    unfold tw2 dv
    rw [show a + 3 + 1 = a + 4 by omega]
    omega
  obtain ⟨h1, r1, A1, f1⟩ := q_person (a := dv v (a + 1)) (b := dv v (a + 2)) (e := tw2 v (a + 3)) hB hA hW (by omega) (by omega)
  refine ⟨h1, ?_, fun z hz => ?_, Sm7_d f1⟩
  · refine Ret_L [some (.ref 32), some (.ref 7), some (.int (iN a)), none, none, none] rfl rfl fun Q hQ => ?_
    rw [ex_p e, bI_c isO_ne] at hQ
    clear hS hv hg hL hB hA hW d1 d1' d2 d2' d3 d3' d4 d4'
    (refine wp_go 600 ks_104_0.1 ?_; simp (disch := first | with_reducible assumption | omega | (simp only [ob_si, ar_si, ob_sl, ar_sl]; with_reducible assumption)) only [ci_0, ci_1, ci_100, ci_101, ci_102, ci_103, ci_104, ci_105, ci_106, ci_107, ci_108, ci_109, ci_110, ci_111, ci_112, ci_113, ci_2, ci_3, ci_60, ci_999, ldA_a, ldI_i, oc_105, oc_106, oc_23, oc_50, r_0, r_10, r_2, r_3, r_43, r_45, r_46, r_6, r_62, r_80_1, r_80_2, r_80_3, r_81_2, r_81_3, r_81_4, r_91, r_99n, wpn_S, wpn_zero, stp_h, lk_0, lk_s, st1_0, st1_1, st1_2, st2_0, st2_1, st2_2, kj_i, kj_a, kj_l, kj_n, cat_n, cat_i, cat_a, cat_u, cat_l, vc_i, vc_a, rv_s, tl_n, tl_s, Cal'_s, List.length_cons, List.length_nil, i0, i1, iNd, iN_lt, iN_le, iN_eq, iN_add, iN_mul, iN_mod, iN_sub, iN_div, iN_clamp, iN_inb, zle_N, zlt_N, zN_le, zN_lt, zN_eq, Nz_eq, mI_t, mI_f, bI_0, bI_1, bI_t, bI_f, dltT, dltF, dleT, dleF, deqT, deqF, Nat.not_lt_zero, not_true_eq_false, not_false_eq_true, true_and, and_true, false_and, and_false, or_true, true_or, false_or, or_false, and_self, if_true, if_false, Classical.not_not, Nat.zero_add, Nat.add_zero, bI_or, bI_True, bI_False, Bool.false_eq_true, reduceCtorEq, eq_self, gi_si, gl_si, gr_si, hn_si, hL_si, hX_si, gi_sl, gl_sl, gr_sl, hn_sl, ob_si, ar_si, ob_sl, ar_sl, ks_104_0, ks_104_1, ks_104_2, ks_104_3, oQ, rQ0, rQ1, aQ, sQ, o7, l0, c_cell_q, Cal_eq rA, Cal_eq rB, swd_c112, Cal_eq rC, Cal_eq r1])
    exact hQ
  · rw [ex_p e] at hz
    obtain ⟨hp, rfl⟩ := isO_s hz
    exact A1 hp
set_option maxHeartbeats 8000000 in
theorem q_ca_q {h : Hp} {n a : Nat} {v : Nat → Nat} {y : Mt} (hB : Bs h) (hL : Lo h n v) (hn : n ≤ 96) (hv : ∀ k, v k ≤ 255) (hS : StP v n a) (hA : At h 7 y) (hW : Wf y) (e : v a = 113) : ∃ h', Ret 5 104 [.ref 32, .ref 7, .int (iN a)] h (some (.int (bI (exM v a y ≠ none)))) h' ∧ (∀ z, exM v a y = some z → At h' 7 z) ∧ Fr Sd h h' := by
  obtain ⟨oQ, rQ0, rQ1, aQ, sQ⟩ := Q_facts hB
  have o7 : ob h 7 3 := hB.ob (by decide) (by decide)
  have hg : dgN (v a) = 4 := by rw [e]; decide
  have hle := hS.2
  rw [hg] at hle
  obtain ⟨d1, d1'⟩ := St_dig hS (q := 1) (by decide) (by rw [hg]; decide)
  obtain ⟨d2, d2'⟩ := St_dig hS (q := 2) (by decide) (by rw [hg]; decide)
  obtain ⟨d3, d3'⟩ := St_dig hS (q := 3) (by decide) (by rw [hg]; decide)
  obtain ⟨d4, d4'⟩ := St_dig hS (q := 4) (by decide) (by rw [hg]; decide)
  have l0 := hL.2 a (by omega)
  rw [e] at l0
  have rA := q_digit (k := a + 1) hB hL (by omega) (hv _) d1
  have rB := q_digit (k := a + 2) hB hL (by omega) (hv _) d2
  have b1 : dv v (a + 1) ≤ 9 := by unfold dv; omega
  have b2 : dv v (a + 2) ≤ 9 := by unfold dv; omega
  have rC := q_two (k := a + 3) hB hL (by omega) (hv _) (hv _) d3 (show 48 ≤ v (a + 3 + 1) from d4)
  have b3 : tw2 v (a + 3) ≤ 99 := by
    unfold tw2 dv
    rw [show a + 3 + 1 = a + 4 by omega]
    omega
  obtain ⟨h1, r1, A1, f1⟩ := q_quar (a := dv v (a + 1)) (b := dv v (a + 2)) (e := tw2 v (a + 3)) hB hA hW (by omega) (by omega)
  refine ⟨h1, ?_, fun z hz => ?_, Sm7_d f1⟩
  · refine Ret_L [some (.ref 32), some (.ref 7), some (.int (iN a)), none, none, none] rfl rfl fun Q hQ => ?_
    rw [ex_q e, bI_c isO_ne] at hQ
    clear hS hv hg hL hB hA hW d1 d1' d2 d2' d3 d3' d4 d4'
    (refine wp_go 600 ks_104_0.1 ?_; simp (disch := first | with_reducible assumption | omega | (simp only [ob_si, ar_si, ob_sl, ar_sl]; with_reducible assumption)) only [ci_0, ci_1, ci_100, ci_101, ci_102, ci_103, ci_104, ci_105, ci_106, ci_107, ci_108, ci_109, ci_110, ci_111, ci_112, ci_113, ci_2, ci_3, ci_60, ci_999, ldA_a, ldI_i, oc_105, oc_106, oc_23, oc_50, r_0, r_10, r_2, r_3, r_43, r_45, r_46, r_6, r_62, r_80_1, r_80_2, r_80_3, r_81_2, r_81_3, r_81_4, r_91, r_99n, wpn_S, wpn_zero, stp_h, lk_0, lk_s, st1_0, st1_1, st1_2, st2_0, st2_1, st2_2, kj_i, kj_a, kj_l, kj_n, cat_n, cat_i, cat_a, cat_u, cat_l, vc_i, vc_a, rv_s, tl_n, tl_s, Cal'_s, List.length_cons, List.length_nil, i0, i1, iNd, iN_lt, iN_le, iN_eq, iN_add, iN_mul, iN_mod, iN_sub, iN_div, iN_clamp, iN_inb, zle_N, zlt_N, zN_le, zN_lt, zN_eq, Nz_eq, mI_t, mI_f, bI_0, bI_1, bI_t, bI_f, dltT, dltF, dleT, dleF, deqT, deqF, Nat.not_lt_zero, not_true_eq_false, not_false_eq_true, true_and, and_true, false_and, and_false, or_true, true_or, false_or, or_false, and_self, if_true, if_false, Classical.not_not, Nat.zero_add, Nat.add_zero, bI_or, bI_True, bI_False, Bool.false_eq_true, reduceCtorEq, eq_self, gi_si, gl_si, gr_si, hn_si, hL_si, hX_si, gi_sl, gl_sl, gr_sl, hn_sl, ob_si, ar_si, ob_sl, ar_sl, ks_104_0, ks_104_1, ks_104_2, ks_104_3, oQ, rQ0, rQ1, aQ, sQ, o7, l0, c_cell_q, Cal_eq rA, Cal_eq rB, swd_c113, Cal_eq rC, Cal_eq r1])
    exact hQ
  · rw [ex_q e] at hz
    obtain ⟨hp, rfl⟩ := isO_s hz
    exact A1 hp
set_option maxHeartbeats 8000000 in
theorem q_ca_h {h : Hp} {n a : Nat} {v : Nat → Nat} {y : Mt} (hB : Bs h) (hL : Lo h n v) (hn : n ≤ 96) (hv : ∀ k, v k ≤ 255) (hS : StP v n a) (hA : At h 7 y) (hW : Wf y) (e : v a = 104) : ∃ h', Ret 5 104 [.ref 32, .ref 7, .int (iN a)] h (some (.int (bI (exM v a y ≠ none)))) h' ∧ (∀ z, exM v a y = some z → At h' 7 z) ∧ Fr Sd h h' := by
  obtain ⟨oQ, rQ0, rQ1, aQ, sQ⟩ := Q_facts hB
  have o7 : ob h 7 3 := hB.ob (by decide) (by decide)
  have hg : dgN (v a) = 3 := by rw [e]; decide
  have hle := hS.2
  rw [hg] at hle
  obtain ⟨d1, d1'⟩ := St_dig hS (q := 1) (by decide) (by rw [hg]; decide)
  obtain ⟨d2, d2'⟩ := St_dig hS (q := 2) (by decide) (by rw [hg]; decide)
  obtain ⟨d3, d3'⟩ := St_dig hS (q := 3) (by decide) (by rw [hg]; decide)
  have l0 := hL.2 a (by omega)
  rw [e] at l0
  have rA := q_digit (k := a + 1) hB hL (by omega) (hv _) d1
  have rB := q_digit (k := a + 2) hB hL (by omega) (hv _) d2
  have b1 : dv v (a + 1) ≤ 9 := by unfold dv; omega
  have b2 : dv v (a + 2) ≤ 9 := by unfold dv; omega
  have rC := q_two (k := a + 2) hB hL (by omega) (hv _) (hv _) d2 (show 48 ≤ v (a + 2 + 1) from d3)
  have b3 : tw2 v (a + 2) ≤ 99 := by
    unfold tw2 dv
    rw [show a + 2 + 1 = a + 3 by omega]
    omega
  obtain ⟨h1, r1, A1, f1⟩ := q_hours (a := dv v (a + 1)) (b := tw2 v (a + 2)) hB hA hW (by omega) (by omega)
  refine ⟨h1, ?_, fun z hz => ?_, Sm7_d f1⟩
  · refine Ret_L [some (.ref 32), some (.ref 7), some (.int (iN a)), none, none, none] rfl rfl fun Q hQ => ?_
    rw [ex_h e, bI_c isO_ne] at hQ
    clear hS hv hg hL hB hA hW d1 d1' d2 d2' d3 d3'
    (refine wp_go 600 ks_104_0.1 ?_; simp (disch := first | with_reducible assumption | omega | (simp only [ob_si, ar_si, ob_sl, ar_sl]; with_reducible assumption)) only [ci_0, ci_1, ci_100, ci_101, ci_102, ci_103, ci_104, ci_105, ci_106, ci_107, ci_108, ci_109, ci_110, ci_111, ci_112, ci_113, ci_2, ci_3, ci_60, ci_999, ldA_a, ldI_i, oc_105, oc_106, oc_23, oc_50, r_0, r_10, r_2, r_3, r_43, r_45, r_46, r_6, r_62, r_80_1, r_80_2, r_80_3, r_81_2, r_81_3, r_81_4, r_91, r_99n, wpn_S, wpn_zero, stp_h, lk_0, lk_s, st1_0, st1_1, st1_2, st2_0, st2_1, st2_2, kj_i, kj_a, kj_l, kj_n, cat_n, cat_i, cat_a, cat_u, cat_l, vc_i, vc_a, rv_s, tl_n, tl_s, Cal'_s, List.length_cons, List.length_nil, i0, i1, iNd, iN_lt, iN_le, iN_eq, iN_add, iN_mul, iN_mod, iN_sub, iN_div, iN_clamp, iN_inb, zle_N, zlt_N, zN_le, zN_lt, zN_eq, Nz_eq, mI_t, mI_f, bI_0, bI_1, bI_t, bI_f, dltT, dltF, dleT, dleF, deqT, deqF, Nat.not_lt_zero, not_true_eq_false, not_false_eq_true, true_and, and_true, false_and, and_false, or_true, true_or, false_or, or_false, and_self, if_true, if_false, Classical.not_not, Nat.zero_add, Nat.add_zero, bI_or, bI_True, bI_False, Bool.false_eq_true, reduceCtorEq, eq_self, gi_si, gl_si, gr_si, hn_si, hL_si, hX_si, gi_sl, gl_sl, gr_sl, hn_sl, ob_si, ar_si, ob_sl, ar_sl, ks_104_0, ks_104_1, ks_104_2, ks_104_3, oQ, rQ0, rQ1, aQ, sQ, o7, l0, c_cell_q, Cal_eq rA, Cal_eq rB, swd_c104, Cal_eq rC, Cal_eq r1])
    exact hQ
  · rw [ex_h e] at hz
    obtain ⟨hp, rfl⟩ := isO_s hz
    exact A1 hp
set_option maxHeartbeats 8000000 in
theorem q_ca_m {h : Hp} {n a : Nat} {v : Nat → Nat} {y : Mt} (hB : Bs h) (hL : Lo h n v) (hn : n ≤ 96) (hv : ∀ k, v k ≤ 255) (hS : StP v n a) (hA : At h 7 y) (hW : Wf y) (e : v a = 109) : ∃ h', Ret 5 104 [.ref 32, .ref 7, .int (iN a)] h (some (.int (bI (exM v a y ≠ none)))) h' ∧ (∀ z, exM v a y = some z → At h' 7 z) ∧ Fr Sd h h' := by
  obtain ⟨oQ, rQ0, rQ1, aQ, sQ⟩ := Q_facts hB
  have o7 : ob h 7 3 := hB.ob (by decide) (by decide)
  have hg : dgN (v a) = 2 := by rw [e]; decide
  have hle := hS.2
  rw [hg] at hle
  obtain ⟨d1, d1'⟩ := St_dig hS (q := 1) (by decide) (by rw [hg]; decide)
  obtain ⟨d2, d2'⟩ := St_dig hS (q := 2) (by decide) (by rw [hg]; decide)
  have l0 := hL.2 a (by omega)
  rw [e] at l0
  have rA := q_digit (k := a + 1) hB hL (by omega) (hv _) d1
  have rB := q_digit (k := a + 2) hB hL (by omega) (hv _) d2
  have b1 : dv v (a + 1) ≤ 9 := by unfold dv; omega
  have b2 : dv v (a + 2) ≤ 9 := by unfold dv; omega
  obtain ⟨h1, r1, A1, f1⟩ := q_mat (a := dv v (a + 1)) (b := dv v (a + 2)) hB hA hW (by omega) (by omega)
  refine ⟨h1, ?_, fun z hz => ?_, Sm7_d f1⟩
  · refine Ret_L [some (.ref 32), some (.ref 7), some (.int (iN a)), none, none, none] rfl rfl fun Q hQ => ?_
    rw [ex_m e, bI_c isO_ne] at hQ
    clear hS hv hg hL hB hA hW d1 d1' d2 d2'
    (refine wp_go 600 ks_104_0.1 ?_; simp (disch := first | with_reducible assumption | omega | (simp only [ob_si, ar_si, ob_sl, ar_sl]; with_reducible assumption)) only [ci_0, ci_1, ci_100, ci_101, ci_102, ci_103, ci_104, ci_105, ci_106, ci_107, ci_108, ci_109, ci_110, ci_111, ci_112, ci_113, ci_2, ci_3, ci_60, ci_999, ldA_a, ldI_i, oc_105, oc_106, oc_23, oc_50, r_0, r_10, r_2, r_3, r_43, r_45, r_46, r_6, r_62, r_80_1, r_80_2, r_80_3, r_81_2, r_81_3, r_81_4, r_91, r_99n, wpn_S, wpn_zero, stp_h, lk_0, lk_s, st1_0, st1_1, st1_2, st2_0, st2_1, st2_2, kj_i, kj_a, kj_l, kj_n, cat_n, cat_i, cat_a, cat_u, cat_l, vc_i, vc_a, rv_s, tl_n, tl_s, Cal'_s, List.length_cons, List.length_nil, i0, i1, iNd, iN_lt, iN_le, iN_eq, iN_add, iN_mul, iN_mod, iN_sub, iN_div, iN_clamp, iN_inb, zle_N, zlt_N, zN_le, zN_lt, zN_eq, Nz_eq, mI_t, mI_f, bI_0, bI_1, bI_t, bI_f, dltT, dltF, dleT, dleF, deqT, deqF, Nat.not_lt_zero, not_true_eq_false, not_false_eq_true, true_and, and_true, false_and, and_false, or_true, true_or, false_or, or_false, and_self, if_true, if_false, Classical.not_not, Nat.zero_add, Nat.add_zero, bI_or, bI_True, bI_False, Bool.false_eq_true, reduceCtorEq, eq_self, gi_si, gl_si, gr_si, hn_si, hL_si, hX_si, gi_sl, gl_sl, gr_sl, hn_sl, ob_si, ar_si, ob_sl, ar_sl, ks_104_0, ks_104_1, ks_104_2, ks_104_3, oQ, rQ0, rQ1, aQ, sQ, o7, l0, c_cell_q, Cal_eq rA, Cal_eq rB, swd_c109, Cal_eq r1])
    exact hQ
  · rw [ex_m e] at hz
    obtain ⟨hp, rfl⟩ := isO_s hz
    exact A1 hp
set_option maxHeartbeats 8000000 in
theorem q_ca_d {h : Hp} {n a : Nat} {v : Nat → Nat} {y : Mt} (hB : Bs h) (hL : Lo h n v) (hn : n ≤ 96) (hv : ∀ k, v k ≤ 255) (hS : StP v n a) (hA : At h 7 y) (hW : Wf y) (e : v a = 100) : ∃ h', Ret 5 104 [.ref 32, .ref 7, .int (iN a)] h (some (.int (bI (exM v a y ≠ none)))) h' ∧ (∀ z, exM v a y = some z → At h' 7 z) ∧ Fr Sd h h' := by
  obtain ⟨oQ, rQ0, rQ1, aQ, sQ⟩ := Q_facts hB
  have o7 : ob h 7 3 := hB.ob (by decide) (by decide)
  have hg : dgN (v a) = 2 := by rw [e]; decide
  have hle := hS.2
  rw [hg] at hle
  obtain ⟨d1, d1'⟩ := St_dig hS (q := 1) (by decide) (by rw [hg]; decide)
  obtain ⟨d2, d2'⟩ := St_dig hS (q := 2) (by decide) (by rw [hg]; decide)
  have l0 := hL.2 a (by omega)
  rw [e] at l0
  have rA := q_digit (k := a + 1) hB hL (by omega) (hv _) d1
  have rB := q_digit (k := a + 2) hB hL (by omega) (hv _) d2
  have b1 : dv v (a + 1) ≤ 9 := by unfold dv; omega
  have b2 : dv v (a + 2) ≤ 9 := by unfold dv; omega
  have rC := q_two (k := a + 1) hB hL (by omega) (hv _) (hv _) d1 (show 48 ≤ v (a + 1 + 1) from d2)
  have b3 : tw2 v (a + 1) ≤ 99 := by
    unfold tw2 dv
    rw [show a + 1 + 1 = a + 2 by omega]
    omega
  have rd := c_day (m := 7) M7 hB hA hW
  rw [ex_d e, bI_c isO_ne]
  by_cases p1 : 1 ≤ tw2 v (a + 1) ∧ tw2 v (a + 1) ≤ 60
  · obtain ⟨p1a, p1b⟩ := p1
    by_cases p2 : iN 999 < xD y + iN (tw2 v (a + 1))
    · obtain ⟨p3, p4⟩ := raw_gt p2
      refine ⟨h, ?_, fun z hz => ?_, Fr.rf _ h⟩
      · refine Ret_L [some (.ref 32), some (.ref 7), some (.int (iN a)), none, none, none] rfl rfl fun Q hQ => ?_
        rw [bI_f (fun q => q.2 p2)] at hQ
        clear hS hv hg hL hB hA hW d1 d1' d2 d2'
        (refine wp_go 600 ks_104_0.1 ?_; simp (disch := first | with_reducible assumption | omega | (simp only [ob_si, ar_si, ob_sl, ar_sl]; with_reducible assumption)) only [ci_0, ci_1, ci_100, ci_101, ci_102, ci_103, ci_104, ci_105, ci_106, ci_107, ci_108, ci_109, ci_110, ci_111, ci_112, ci_113, ci_2, ci_3, ci_60, ci_999, ldA_a, ldI_i, oc_105, oc_106, oc_23, oc_50, r_0, r_10, r_2, r_3, r_43, r_45, r_46, r_6, r_62, r_80_1, r_80_2, r_80_3, r_81_2, r_81_3, r_81_4, r_91, r_99n, wpn_S, wpn_zero, stp_h, lk_0, lk_s, st1_0, st1_1, st1_2, st2_0, st2_1, st2_2, kj_i, kj_a, kj_l, kj_n, cat_n, cat_i, cat_a, cat_u, cat_l, vc_i, vc_a, rv_s, tl_n, tl_s, Cal'_s, List.length_cons, List.length_nil, i0, i1, iNd, iN_lt, iN_le, iN_eq, iN_add, iN_mul, iN_mod, iN_sub, iN_div, iN_clamp, iN_inb, zle_N, zlt_N, zN_le, zN_lt, zN_eq, Nz_eq, mI_t, mI_f, bI_0, bI_1, bI_t, bI_f, dltT, dltF, dleT, dleF, deqT, deqF, Nat.not_lt_zero, not_true_eq_false, not_false_eq_true, true_and, and_true, false_and, and_false, or_true, true_or, false_or, or_false, and_self, if_true, if_false, Classical.not_not, Nat.zero_add, Nat.add_zero, bI_or, bI_True, bI_False, Bool.false_eq_true, reduceCtorEq, eq_self, gi_si, gl_si, gr_si, hn_si, hL_si, hX_si, gi_sl, gl_sl, gr_sl, hn_sl, ob_si, ar_si, ob_sl, ar_sl, ks_104_0, ks_104_1, ks_104_2, ks_104_3, oQ, rQ0, rQ1, aQ, sQ, o7, l0, c_cell_q, Cal_eq rA, Cal_eq rB, swd_c100, Cal_eq rC, Cal_eq rd, p3, p4])
        exact hQ
      · rw [isO_f (fun q => q.2 p2)] at hz; cases hz
    · obtain ⟨p3, p4⟩ := raw_le p2
      obtain ⟨h1, r1, A1, f1⟩ := w_live (m := 7) (n := tw2 v (a + 1)) M7 hB hA hW (by omega)
      refine ⟨h1, ?_, fun z hz => ?_, live7_d f1⟩
      · refine Ret_L [some (.ref 32), some (.ref 7), some (.int (iN a)), none, none, none] rfl rfl fun Q hQ => ?_
        rw [bI_t ⟨⟨p1a, p1b⟩, p2⟩] at hQ
        clear hS hv hg hL hB hA hW d1 d1' d2 d2'
        (refine wp_go 600 ks_104_0.1 ?_; simp (disch := first | with_reducible assumption | omega | (simp only [ob_si, ar_si, ob_sl, ar_sl]; with_reducible assumption)) only [ci_0, ci_1, ci_100, ci_101, ci_102, ci_103, ci_104, ci_105, ci_106, ci_107, ci_108, ci_109, ci_110, ci_111, ci_112, ci_113, ci_2, ci_3, ci_60, ci_999, ldA_a, ldI_i, oc_105, oc_106, oc_23, oc_50, r_0, r_10, r_2, r_3, r_43, r_45, r_46, r_6, r_62, r_80_1, r_80_2, r_80_3, r_81_2, r_81_3, r_81_4, r_91, r_99n, wpn_S, wpn_zero, stp_h, lk_0, lk_s, st1_0, st1_1, st1_2, st2_0, st2_1, st2_2, kj_i, kj_a, kj_l, kj_n, cat_n, cat_i, cat_a, cat_u, cat_l, vc_i, vc_a, rv_s, tl_n, tl_s, Cal'_s, List.length_cons, List.length_nil, i0, i1, iNd, iN_lt, iN_le, iN_eq, iN_add, iN_mul, iN_mod, iN_sub, iN_div, iN_clamp, iN_inb, zle_N, zlt_N, zN_le, zN_lt, zN_eq, Nz_eq, mI_t, mI_f, bI_0, bI_1, bI_t, bI_f, dltT, dltF, dleT, dleF, deqT, deqF, Nat.not_lt_zero, not_true_eq_false, not_false_eq_true, true_and, and_true, false_and, and_false, or_true, true_or, false_or, or_false, and_self, if_true, if_false, Classical.not_not, Nat.zero_add, Nat.add_zero, bI_or, bI_True, bI_False, Bool.false_eq_true, reduceCtorEq, eq_self, gi_si, gl_si, gr_si, hn_si, hL_si, hX_si, gi_sl, gl_sl, gr_sl, hn_sl, ob_si, ar_si, ob_sl, ar_sl, ks_104_0, ks_104_1, ks_104_2, ks_104_3, oQ, rQ0, rQ1, aQ, sQ, o7, l0, c_cell_q, Cal_eq rA, Cal_eq rB, swd_c100, Cal_eq rC, Cal_eq rd, p3, p4, Cal_eq r1])
        exact hQ
      · obtain ⟨hp, rfl⟩ := isO_s hz
        exact A1
  · refine ⟨h, ?_, fun z hz => ?_, Fr.rf _ h⟩
    · refine Ret_L [some (.ref 32), some (.ref 7), some (.int (iN a)), none, none, none] rfl rfl fun Q hQ => ?_
      rw [bI_f (fun q => p1 q.1)] at hQ
      by_cases p3 : 1 ≤ tw2 v (a + 1)
      · have p4 : 60 < tw2 v (a + 1) := by omega
        clear p1
        clear hS hv hg hL hB hA hW d1 d1' d2 d2'
        (refine wp_go 600 ks_104_0.1 ?_; simp (disch := first | with_reducible assumption | omega | (simp only [ob_si, ar_si, ob_sl, ar_sl]; with_reducible assumption)) only [ci_0, ci_1, ci_100, ci_101, ci_102, ci_103, ci_104, ci_105, ci_106, ci_107, ci_108, ci_109, ci_110, ci_111, ci_112, ci_113, ci_2, ci_3, ci_60, ci_999, ldA_a, ldI_i, oc_105, oc_106, oc_23, oc_50, r_0, r_10, r_2, r_3, r_43, r_45, r_46, r_6, r_62, r_80_1, r_80_2, r_80_3, r_81_2, r_81_3, r_81_4, r_91, r_99n, wpn_S, wpn_zero, stp_h, lk_0, lk_s, st1_0, st1_1, st1_2, st2_0, st2_1, st2_2, kj_i, kj_a, kj_l, kj_n, cat_n, cat_i, cat_a, cat_u, cat_l, vc_i, vc_a, rv_s, tl_n, tl_s, Cal'_s, List.length_cons, List.length_nil, i0, i1, iNd, iN_lt, iN_le, iN_eq, iN_add, iN_mul, iN_mod, iN_sub, iN_div, iN_clamp, iN_inb, zle_N, zlt_N, zN_le, zN_lt, zN_eq, Nz_eq, mI_t, mI_f, bI_0, bI_1, bI_t, bI_f, dltT, dltF, dleT, dleF, deqT, deqF, Nat.not_lt_zero, not_true_eq_false, not_false_eq_true, true_and, and_true, false_and, and_false, or_true, true_or, false_or, or_false, and_self, if_true, if_false, Classical.not_not, Nat.zero_add, Nat.add_zero, bI_or, bI_True, bI_False, Bool.false_eq_true, reduceCtorEq, eq_self, gi_si, gl_si, gr_si, hn_si, hL_si, hX_si, gi_sl, gl_sl, gr_sl, hn_sl, ob_si, ar_si, ob_sl, ar_sl, ks_104_0, ks_104_1, ks_104_2, ks_104_3, oQ, rQ0, rQ1, aQ, sQ, o7, l0, c_cell_q, Cal_eq rA, Cal_eq rB, swd_c100, Cal_eq rC])
        exact hQ
      · clear p1
        clear hS hv hg hL hB hA hW d1 d1' d2 d2'
        (refine wp_go 600 ks_104_0.1 ?_; simp (disch := first | with_reducible assumption | omega | (simp only [ob_si, ar_si, ob_sl, ar_sl]; with_reducible assumption)) only [ci_0, ci_1, ci_100, ci_101, ci_102, ci_103, ci_104, ci_105, ci_106, ci_107, ci_108, ci_109, ci_110, ci_111, ci_112, ci_113, ci_2, ci_3, ci_60, ci_999, ldA_a, ldI_i, oc_105, oc_106, oc_23, oc_50, r_0, r_10, r_2, r_3, r_43, r_45, r_46, r_6, r_62, r_80_1, r_80_2, r_80_3, r_81_2, r_81_3, r_81_4, r_91, r_99n, wpn_S, wpn_zero, stp_h, lk_0, lk_s, st1_0, st1_1, st1_2, st2_0, st2_1, st2_2, kj_i, kj_a, kj_l, kj_n, cat_n, cat_i, cat_a, cat_u, cat_l, vc_i, vc_a, rv_s, tl_n, tl_s, Cal'_s, List.length_cons, List.length_nil, i0, i1, iNd, iN_lt, iN_le, iN_eq, iN_add, iN_mul, iN_mod, iN_sub, iN_div, iN_clamp, iN_inb, zle_N, zlt_N, zN_le, zN_lt, zN_eq, Nz_eq, mI_t, mI_f, bI_0, bI_1, bI_t, bI_f, dltT, dltF, dleT, dleF, deqT, deqF, Nat.not_lt_zero, not_true_eq_false, not_false_eq_true, true_and, and_true, false_and, and_false, or_true, true_or, false_or, or_false, and_self, if_true, if_false, Classical.not_not, Nat.zero_add, Nat.add_zero, bI_or, bI_True, bI_False, Bool.false_eq_true, reduceCtorEq, eq_self, gi_si, gl_si, gr_si, hn_si, hL_si, hX_si, gi_sl, gl_sl, gr_sl, hn_sl, ob_si, ar_si, ob_sl, ar_sl, ks_104_0, ks_104_1, ks_104_2, ks_104_3, oQ, rQ0, rQ1, aQ, sQ, o7, l0, c_cell_q, Cal_eq rA, Cal_eq rB, swd_c100, Cal_eq rC])
        exact hQ
    · rw [isO_f (fun q => p1 q.1)] at hz; cases hz
theorem q_carry {h : Hp} {n a : Nat} {v : Nat → Nat} {y : Mt} (hB : Bs h) (hL : Lo h n v) (hn : n ≤ 96) (hv : ∀ k, v k ≤ 255) (hS : StP v n a) (hA : At h 7 y) (hW : Wf y) : ∃ h', Ret 5 104 [.ref 32, .ref 7, .int (iN a)] h (some (.int (bI (exM v a y ≠ none)))) h' ∧ (∀ z, exM v a y = some z → At h' 7 z) ∧ Fr Sd h h' := by
  rcases dg_c (St_d hS) with e | e | e | e | e
  · exact q_ca_p hB hL hn hv hS hA hW e
  · exact q_ca_q hB hL hn hv hS hA hW e
  · exact q_ca_h hB hL hn hv hS hA hW e
  · exact q_ca_m hB hL hn hv hS hA hW e
  · exact q_ca_d hB hL hn hv hS hA hW e
/-- behind k statements -/
noncomputable def ykN (v : Nat → Nat) (y : Mt) : Nat → Option Mt
  | 0 => some y
  | k + 1 => match ykN v y k with | some z => exM v (qsN v k) z | none => none
theorem yk_s {v : Nat → Nat} {y z : Mt} {k : Nat} (h : ykN v y k = some z) : ykN v y (k + 1) = exM v (qsN v k) z := by
  show (match ykN v y k with | some z => exM v (qsN v k) z | none => none) = _
  rw [h]
noncomputable def fxF (v : Nat → Nat) (y : Mt) (k : Nat) : Option Nat := match ykN v y (k + 1) with | some _ => none | none => some k
noncomputable def fxO (v : Nat → Nat) (y : Mt) (K : Nat) : Option Nat := itx (fxF v y) 0 K
noncomputable def fxV (v : Nat → Nat) (y : Mt) (K : Nat) : Int32 := match fxO v y K with | some k => zI (-2000) - iN (qsN v k) | none => iN K
theorem fx_n {v : Nat → Nat} {y z : Mt} {k : Nat} (h : ykN v y (k + 1) = some z) : fxF v y k = none := by unfold fxF; rw [h]
theorem fx_s {v : Nat → Nat} {y : Mt} {k : Nat} (h : ykN v y (k + 1) = none) : fxF v y k = some k := by unfold fxF; rw [h]
theorem fx_at {v : Nat → Nat} {y : Mt} {k K : Nat} (h0 : itx (fxF v y) 0 k = none) (h : ykN v y (k + 1) = none) (hk : k < K) : fxO v y K = some k := by
  have := itx_some (fxF v y) k 0 h0 k (by rw [Nat.zero_add]; exact fx_s h) (K - k - 1)
  rw [show k + 1 + (K - k - 1) = K by omega] at this
  exact this
theorem yk_W {v : Nat → Nat} {n K i : Nat} {y : Mt} (hT : TxP v n K i) (hW : Wf y) : ∀ k z, k ≤ K → ykN v y k = some z → Wf z
  | 0, z, _, h => by cases h; exact hW
  | k + 1, z, hk, h => by
    cases e : ykN v y k with
    | none =>
      have : ykN v y (k + 1) = none := by
        show (match ykN v y k with | some z => exM v (qsN v k) z | none => none) = _
        rw [e]
      rw [this] at h; cases h
    | some w =>
      rw [yk_s e] at h
      exact ex_wf (St_k hT (by omega)) (yk_W hT hW k w (by omega) e) h
theorem q_bad {h : Hp} {n K t0 : Nat} {v : Nat → Nat} (hB : Bs h) (hL : Lo h n v) (hn : n ≤ 96) (hv : ∀ k, v k ≤ 255) (hT : Tx v n K t0) (ho : ¬ okP v n K t0) : Ret 6 100 [.ref 32, .ref 7] h (some (.int (zI (-1000) - iN (qsN v K + t0)))) h := by
  have r1 := q_amiss hB hL hn hv hT
  rw [amV, if_neg ho] at r1
  have h4 := hT.1.2.2.2
  have oQ := (Q_facts hB).1
  refine Ret_L [some (.ref 32), some (.ref 7), none, none, none, none] rfl rfl fun Q hQ => ?_
  (refine wp_go 600 ks_100_0.1 ?_; simp (disch := first | with_reducible assumption | omega | (simp only [ob_si, ar_si, ob_sl, ar_sl]; with_reducible assumption)) only [ci_0, ci_1, ci_59, cm_1, cm_1000, cm_2000, inc_i, ldA_a, ldI_i, oc_101, oc_104, r_0, r_10, r_11, r_2, r_3, r_30, r_32, r_41, r_44, r_6, r_60, r_62, r_80_1, r_80_3, r_81_2, r_9, r_90, wpn_S, wpn_zero, stp_h, lk_0, lk_s, st1_0, st1_1, st1_2, st2_0, st2_1, st2_2, kj_i, kj_a, kj_l, kj_n, cat_n, cat_i, cat_a, cat_u, cat_l, vc_i, vc_a, rv_s, tl_n, tl_s, Cal'_s, List.length_cons, List.length_nil, i0, i1, iNd, iN_lt, iN_le, iN_eq, iN_add, iN_mul, iN_mod, iN_sub, iN_div, iN_clamp, iN_inb, zle_N, zlt_N, zN_le, zN_lt, zN_eq, Nz_eq, mI_t, mI_f, bI_0, bI_1, bI_t, bI_f, dltT, dltF, dleT, dleF, deqT, deqF, Nat.not_lt_zero, not_true_eq_false, not_false_eq_true, true_and, and_true, false_and, and_false, or_true, true_or, false_or, or_false, and_self, if_true, if_false, Classical.not_not, Nat.add_assoc, Nat.zero_add, Nat.add_zero, bI_or, bI_True, bI_False, Bool.false_eq_true, reduceCtorEq, eq_self, gi_si, gl_si, gr_si, hn_si, hL_si, hX_si, gi_sl, gl_sl, gr_sl, hn_sl, ob_si, ar_si, ob_sl, ar_sl, ks_100_0, ks_100_1, oQ, Cal_eq r1])
  exact hQ
theorem q_good {h : Hp} {n K t0 : Nat} {v : Nat → Nat} {y : Mt} (hB : Bs h) (hL : Lo h n v) (hn : n ≤ 96) (hv : ∀ k, v k ≤ 255) (hT : Tx v n K t0) (ho : okP v n K t0) (hA : At h 7 y) (hW : Wf y) : ∃ h', Ret 6 100 [.ref 32, .ref 7] h (some (.int (fxV v y K))) h' ∧ (∀ z, fxO v y K = none → ykN v y K = some z → At h' 7 z) ∧ Fr Sd h h' := by
  have r1 := q_amiss hB hL hn hv hT
  rw [amV, if_pos ho] at r1
  obtain ⟨o1, o2, o3⟩ := ho
  subst o2
  have hTP := hT.1
  have oQ := (Q_facts hB).1
  have hKn : 2 * K ≤ n := by have := sp_le (v := v) (Nat.zero_le K); omega
  have key : ∀ Q : Option Value → Hp → Prop, (∀ h', (∀ z, fxO v y K = none → ykN v y K = some z → At h' 7 z) → Fr Sd h h' → Q (some (.int (fxV v y K))) h') → wp 6 100 0 [some (.ref 32), some (.ref 7), none, none, none, none] [] h Q := by
    intro Q hQ
    (refine wp_go 600 ks_100_0.1 ?_; simp (disch := first | with_reducible assumption | omega | (simp only [ob_si, ar_si, ob_sl, ar_sl]; with_reducible assumption)) only [ci_0, ci_1, ci_59, cm_1, cm_1000, cm_2000, inc_i, ldA_a, ldI_i, oc_101, oc_104, r_0, r_10, r_11, r_2, r_3, r_30, r_32, r_41, r_44, r_6, r_60, r_62, r_80_1, r_80_3, r_81_2, r_9, r_90, wpn_S, wpn_zero, stp_h, lk_0, lk_s, st1_0, st1_1, st1_2, st2_0, st2_1, st2_2, kj_i, kj_a, kj_l, kj_n, cat_n, cat_i, cat_a, cat_u, cat_l, vc_i, vc_a, rv_s, tl_n, tl_s, Cal'_s, List.length_cons, List.length_nil, i0, i1, iNd, iN_lt, iN_le, iN_eq, iN_add, iN_mul, iN_mod, iN_sub, iN_div, iN_clamp, iN_inb, zle_N, zlt_N, zN_le, zN_lt, zN_eq, Nz_eq, mI_t, mI_f, bI_0, bI_1, bI_t, bI_f, dltT, dltF, dleT, dleF, deqT, deqF, Nat.not_lt_zero, not_true_eq_false, not_false_eq_true, true_and, and_true, false_and, and_false, or_true, true_or, false_or, or_false, and_self, if_true, if_false, Classical.not_not, Nat.add_assoc, Nat.zero_add, Nat.add_zero, bI_or, bI_True, bI_False, Bool.false_eq_true, reduceCtorEq, eq_self, gi_si, gl_si, gr_si, hn_si, hL_si, hX_si, gi_sl, gl_sl, gr_sl, hn_sl, ob_si, ar_si, ob_sl, ar_sl, ks_100_0, ks_100_1, oQ, Cal_eq r1])
    refine wp_loop (fun p L h' => ∃ k i z, p = qsN v k + i ∧ (k < K ∨ (k = K ∧ i = 0)) ∧ i ≤ dgN (v (qsN v k)) + 1 ∧ ykN v y k = some z ∧ itx (fxF v y) 0 k = none ∧ At h' 7 z ∧ Fr Sd h h' ∧ L = [some (.ref 32), some (.ref 7), some (.int (zI (-1))), some (.int (iN k)), some (.int (iN (qsN v k))), some (.int (iN p))]) n ?_ ?_ n 0 _ h (by omega) ⟨0, 0, y, rfl, by omega, Nat.zero_le _, rfl, rfl, hA, Fr.rf _ h, rfl⟩
    · rintro p L h1 hp ⟨k, i, z, e, hk, hi, hz, h0, A1, f1, rfl⟩ hnx
      have B1 := f1.bs hB
      have L1 := hL.fr f1 (by unfold Sd; omega) (by unfold Sd; omega)
      obtain ⟨oQ1, rQ0, rQ1, aQ, sQ⟩ := Q_facts B1
      have o71 : ob h1 7 3 := B1.ob (by decide) (by decide)
      have l1 := L1.1
      have l2 := L1.2 p (by omega)
      have hvp := hv p
      have hkK : k < K := by
        rcases hk with hk | ⟨rfl, rfl⟩
        · exact hk
        · omega
      have hS := St_k hTP hkK
      have hWz := yk_W hTP hW k z (by omega) hz
      have hf := hS.1 i hi
      by_cases h1' : i ≤ dgN (v (qsN v k))
      · have hne : ¬ v p = 59 := by
          rw [e]
          by_cases h0 : i = 0
          · subst h0
            have := dg_c (fit_d hf)
            rw [Nat.add_zero]
            omega
          · have := fit_i hf (by omega) h1'
            omega
        have hnx := hnx [some (.ref 32), some (.ref 7), some (.int (zI (-1))), some (.int (iN k)), some (.int (iN (qsN v k))), some (.int (iN (p + 1)))] h1 ⟨k, i + 1, z, by omega, Or.inl hkK, by omega, hz, h0, A1, f1, rfl⟩
        (refine wp_go 600 ks_100_0.2.2.2.2.2.2.2.2.2.2.2.2.2.2.2.2.1 ?_; simp (disch := first | with_reducible assumption | omega | (simp only [ob_si, ar_si, ob_sl, ar_sl]; with_reducible assumption)) only [ci_0, ci_1, ci_59, cm_1, cm_1000, cm_2000, inc_i, ldA_a, ldI_i, oc_101, oc_104, r_0, r_10, r_11, r_2, r_3, r_30, r_32, r_41, r_44, r_6, r_60, r_62, r_80_1, r_80_3, r_81_2, r_9, r_90, wpn_S, wpn_zero, stp_h, lk_0, lk_s, st1_0, st1_1, st1_2, st2_0, st2_1, st2_2, kj_i, kj_a, kj_l, kj_n, cat_n, cat_i, cat_a, cat_u, cat_l, vc_i, vc_a, rv_s, tl_n, tl_s, Cal'_s, List.length_cons, List.length_nil, i0, i1, iNd, iN_lt, iN_le, iN_eq, iN_add, iN_mul, iN_mod, iN_sub, iN_div, iN_clamp, iN_inb, zle_N, zlt_N, zN_le, zN_lt, zN_eq, Nz_eq, mI_t, mI_f, bI_0, bI_1, bI_t, bI_f, dltT, dltF, dleT, dleF, deqT, deqF, Nat.not_lt_zero, not_true_eq_false, not_false_eq_true, true_and, and_true, false_and, and_false, or_true, true_or, false_or, or_false, and_self, if_true, if_false, Classical.not_not, Nat.add_assoc, Nat.zero_add, Nat.add_zero, bI_or, bI_True, bI_False, Bool.false_eq_true, reduceCtorEq, eq_self, gi_si, gl_si, gr_si, hn_si, hL_si, hX_si, gi_sl, gl_sl, gr_sl, hn_sl, ob_si, ar_si, ob_sl, ar_sl, ks_100_0, ks_100_1, oQ1, rQ1, aQ, sQ, l1, l2, c_cell_q])
        exact hnx
      · have ei : i = dgN (v (qsN v k)) + 1 := by omega
        subst ei
        have h59 : v p = 59 := by rw [e]; exact fit_e hf
        obtain ⟨h2, r2, A2, f2⟩ := q_carry B1 L1 hn hv hS A1 hWz
        have B2 := f2.bs B1
        have oQ2 := (Q_facts B2).1
        rw [h59] at l2
        cases hz2 : exM v (qsN v k) z with
        | none =>
          rw [hz2, bI_f (fun e => e rfl)] at r2
          have hfx := fx_at (K := K) h0 (by rw [yk_s hz]; exact hz2) hkK
          have hQ := hQ h2 (fun z e => by rw [hfx] at e; cases e) (f1.tr f2)
          unfold fxV at hQ
          rw [hfx] at hQ
          simp only at hQ
          (refine wp_go 600 ks_100_0.2.2.2.2.2.2.2.2.2.2.2.2.2.2.2.2.1 ?_; simp (disch := first | with_reducible assumption | omega | (simp only [ob_si, ar_si, ob_sl, ar_sl]; with_reducible assumption)) only [ci_0, ci_1, ci_59, cm_1, cm_1000, cm_2000, inc_i, ldA_a, ldI_i, oc_101, oc_104, r_0, r_10, r_11, r_2, r_3, r_30, r_32, r_41, r_44, r_6, r_60, r_62, r_80_1, r_80_3, r_81_2, r_9, r_90, wpn_S, wpn_zero, stp_h, lk_0, lk_s, st1_0, st1_1, st1_2, st2_0, st2_1, st2_2, kj_i, kj_a, kj_l, kj_n, cat_n, cat_i, cat_a, cat_u, cat_l, vc_i, vc_a, rv_s, tl_n, tl_s, Cal'_s, List.length_cons, List.length_nil, i0, i1, iNd, iN_lt, iN_le, iN_eq, iN_add, iN_mul, iN_mod, iN_sub, iN_div, iN_clamp, iN_inb, zle_N, zlt_N, zN_le, zN_lt, zN_eq, Nz_eq, mI_t, mI_f, bI_0, bI_1, bI_t, bI_f, dltT, dltF, dleT, dleF, deqT, deqF, Nat.not_lt_zero, not_true_eq_false, not_false_eq_true, true_and, and_true, false_and, and_false, or_true, true_or, false_or, or_false, and_self, if_true, if_false, Classical.not_not, Nat.add_assoc, Nat.zero_add, Nat.add_zero, bI_or, bI_True, bI_False, Bool.false_eq_true, reduceCtorEq, eq_self, gi_si, gl_si, gr_si, hn_si, hL_si, hX_si, gi_sl, gl_sl, gr_sl, hn_sl, ob_si, ar_si, ob_sl, ar_sl, ks_100_0, ks_100_1, oQ1, rQ1, aQ, sQ, l1, l2, c_cell_q, o71, Cal_eq r2])
          exact hQ
        | some z2 =>
          rw [hz2, bI_t (by intro e; cases e)] at r2
          have hnx := hnx [some (.ref 32), some (.ref 7), some (.int (zI (-1))), some (.int (iN (k + 1))), some (.int (iN (qsN v (k + 1)))), some (.int (iN (p + 1)))] h2 ⟨k + 1, 0, z2, by rw [sp_s]; omega, by omega, Nat.zero_le _, by rw [yk_s hz]; exact hz2, (itx_last _ _ _).mpr ⟨h0, by rw [Nat.zero_add]; exact fx_n (by rw [yk_s hz]; exact hz2)⟩, A2 z2 hz2, f1.tr f2, rfl⟩
          have ep : p + 1 = qsN v (k + 1) := by rw [sp_s]; omega
          rw [← ep] at hnx
          (refine wp_go 600 ks_100_0.2.2.2.2.2.2.2.2.2.2.2.2.2.2.2.2.1 ?_; simp (disch := first | with_reducible assumption | omega | (simp only [ob_si, ar_si, ob_sl, ar_sl]; with_reducible assumption)) only [ci_0, ci_1, ci_59, cm_1, cm_1000, cm_2000, inc_i, ldA_a, ldI_i, oc_101, oc_104, r_0, r_10, r_11, r_2, r_3, r_30, r_32, r_41, r_44, r_6, r_60, r_62, r_80_1, r_80_3, r_81_2, r_9, r_90, wpn_S, wpn_zero, stp_h, lk_0, lk_s, st1_0, st1_1, st1_2, st2_0, st2_1, st2_2, kj_i, kj_a, kj_l, kj_n, cat_n, cat_i, cat_a, cat_u, cat_l, vc_i, vc_a, rv_s, tl_n, tl_s, Cal'_s, List.length_cons, List.length_nil, i0, i1, iNd, iN_lt, iN_le, iN_eq, iN_add, iN_mul, iN_mod, iN_sub, iN_div, iN_clamp, iN_inb, zle_N, zlt_N, zN_le, zN_lt, zN_eq, Nz_eq, mI_t, mI_f, bI_0, bI_1, bI_t, bI_f, dltT, dltF, dleT, dleF, deqT, deqF, Nat.not_lt_zero, not_true_eq_false, not_false_eq_true, true_and, and_true, false_and, and_false, or_true, true_or, false_or, or_false, and_self, if_true, if_false, Classical.not_not, Nat.add_assoc, Nat.zero_add, Nat.add_zero, bI_or, bI_True, bI_False, Bool.false_eq_true, reduceCtorEq, eq_self, gi_si, gl_si, gr_si, hn_si, hL_si, hX_si, gi_sl, gl_sl, gr_sl, hn_sl, ob_si, ar_si, ob_sl, ar_sl, ks_100_0, ks_100_1, oQ1, rQ1, aQ, sQ, l1, l2, c_cell_q, o71, Cal_eq r2])
          exact hnx
    · rintro L h1 ⟨k, i, z, e, hk, hi, hz, h0, A1, f1, rfl⟩
      have B1 := f1.bs hB
      have L1 := hL.fr f1 (by unfold Sd; omega) (by unfold Sd; omega)
      have oQ1 := (Q_facts B1).1
      have l1 := L1.1
      have hkK : k = K ∧ i = 0 := by
        rcases hk with hk | hk
        · have h1 := sp_le (v := v) (show k + 1 ≤ K by omega)
          rw [sp_s] at h1
          omega
        · exact hk
      obtain ⟨rfl, rfl⟩ := hkK
      have hQ := hQ h1 (fun w _ e2 => by rw [hz] at e2; cases e2; exact A1) f1
      unfold fxV fxO at hQ
      rw [h0] at hQ
      simp only at hQ
      (refine wp_go 600 ks_100_0.2.2.2.2.2.2.2.2.2.2.2.2.2.2.2.2.1 ?_; simp (disch := first | with_reducible assumption | omega | (simp only [ob_si, ar_si, ob_sl, ar_sl]; with_reducible assumption)) only [ci_0, ci_1, ci_59, cm_1, cm_1000, cm_2000, inc_i, ldA_a, ldI_i, oc_101, oc_104, r_0, r_10, r_11, r_2, r_3, r_30, r_32, r_41, r_44, r_6, r_60, r_62, r_80_1, r_80_3, r_81_2, r_9, r_90, wpn_S, wpn_zero, stp_h, lk_0, lk_s, st1_0, st1_1, st1_2, st2_0, st2_1, st2_2, kj_i, kj_a, kj_l, kj_n, cat_n, cat_i, cat_a, cat_u, cat_l, vc_i, vc_a, rv_s, tl_n, tl_s, Cal'_s, List.length_cons, List.length_nil, i0, i1, iNd, iN_lt, iN_le, iN_eq, iN_add, iN_mul, iN_mod, iN_sub, iN_div, iN_clamp, iN_inb, zle_N, zlt_N, zN_le, zN_lt, zN_eq, Nz_eq, mI_t, mI_f, bI_0, bI_1, bI_t, bI_f, dltT, dltF, dleT, dleF, deqT, deqF, Nat.not_lt_zero, not_true_eq_false, not_false_eq_true, true_and, and_true, false_and, and_false, or_true, true_or, false_or, or_false, and_self, if_true, if_false, Classical.not_not, Nat.add_assoc, Nat.zero_add, Nat.add_zero, bI_or, bI_True, bI_False, Bool.false_eq_true, reduceCtorEq, eq_self, gi_si, gl_si, gr_si, hn_si, hL_si, hX_si, gi_sl, gl_sl, gr_sl, hn_sl, ob_si, ar_si, ob_sl, ar_sl, ks_100_0, ks_100_1, oQ1, l1])
      exact hQ
  obtain ⟨w, h', r, rfl, A, f⟩ := Ret_ex (d := 6) (y := 100) (as := [.ref 32, .ref 7]) [some (.ref 32), some (.ref 7), none, none, none, none] rfl rfl (key (fun w h' => w = some (.int (fxV v y K)) ∧ (∀ z, fxO v y K = none → ykN v y K = some z → At h' 7 z) ∧ Fr Sd h h') fun h' a b => ⟨rfl, a, b⟩)
  exact ⟨h', r, A, f⟩
