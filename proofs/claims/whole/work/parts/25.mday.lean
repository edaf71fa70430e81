/-! the model's mats and days -/
noncomputable def Sq : Nat → Prop := fun o => 88 ≤ o ∧ o ≤ 92
noncomputable def Fq : Nat → Prop := fun k => k = 0 ∨ k = 6
theorem wo_leave {h : Hp} {i : Nat} {x : Mt} (hB : Bs h) (hA : Ao h x) (hW : Wf x) (hi : i < xN x) : ∃ h', Ret 0 221 [.ref 87, .int (iN i)] h none h' ∧ Ao h' (lvM x i) ∧ Fo Sq Fq h h' := by
  obtain ⟨oO, rO1, rO2, rO3, rO4, rO5, rO8, aO1, aO2, aO3, aO4, aO5, aO8, sO1, sO2, sO3, sO4, sO5, sO8⟩ := O_facts hB
  obtain ⟨fN, fD, fK, fF, fH, fM, fQ⟩ := id hA; obtain ⟨wN, wK, wF, wH, wM, wQ, wS, wZ, wT⟩ := id hW
  by_cases h6 : xM x i < 6
  · refine ⟨si (si h 91 (xM x i) (mI 6)) 91 i (mI 6), ?_, ?_, ?_⟩
    · refine Ret_L [some (.ref 87), some (.int (iN i))] rfl rfl fun Q hQ => ?_
      (refine wp_go 600 ks_221_0.1 ?_; simp (disch := first | assumption | (simp only [ob_si, ar_si, ob_sl, ar_sl]; assumption) | omega) only [cm_9, ldA_a, ldI_i, p_0, p_2, p_33, p_6, p_62, p_70, p_71, p_94, wpn_succ, wpn_zero, stp_h, lk_0, lk_s, st1_0, st1_1, st1_2, st2_0, st2_1, st2_2, kj_i, kj_a, kj_l, kj_n, cat_n, cat_i, cat_a, cat_u, cat_l, vc_i, vc_a, rv_s, tl_n, tl_s, Cal'_s, List.length_cons, List.length_nil, i0, i1, iNd, iN_lt, iN_le, iN_eq, iN_add, iN_mul, iN_mod, iN_sub, iN_div, iN_clamp, iN_inb, zle_N, zlt_N, zN_le, zN_lt, zN_eq, Nz_eq, mI_t, mI_f, bI_0, bI_1, bI_t, bI_f, dltT, dltF, dleT, dleF, deqT, deqF, Nat.not_lt_zero, not_true_eq_false, not_false_eq_true, true_and, and_true, false_and, and_false, or_true, true_or, false_or, or_false, and_self, if_true, if_false, Classical.not_not, Nat.add_assoc, Nat.zero_add, Nat.add_zero, bI_or, bI_True, bI_False, Bool.false_eq_true, reduceCtorEq, eq_self, gi_si, gl_si, gr_si, hn_si, hL_si, hX_si, gi_sl, gl_sl, gr_sl, hn_sl, ob_si, ar_si, ob_sl, ar_sl, ks_221_0, oO, rO1, rO2, rO3, rO4, rO5, rO8, aO1, aO2, aO3, aO4, aO5, aO8, fM, up_f, up_t])
      exact hQ
    · rw [lv_t h6]; exact Ao_M (Ao_M hA)
    · exact ((Fo.rf _ _ h).sa (by unfold Sq; omega) (by omega) _ _).sa (by unfold Sq; omega) (by omega) _ _
  · refine ⟨h, ?_, ?_, Fo.rf _ _ h⟩
    · refine Ret_L [some (.ref 87), some (.int (iN i))] rfl rfl fun Q hQ => ?_
      (refine wp_go 600 ks_221_0.1 ?_; simp (disch := first | assumption | (simp only [ob_si, ar_si, ob_sl, ar_sl]; assumption) | omega) only [cm_9, ldA_a, ldI_i, p_0, p_2, p_33, p_6, p_62, p_70, p_71, p_94, wpn_succ, wpn_zero, stp_h, lk_0, lk_s, st1_0, st1_1, st1_2, st2_0, st2_1, st2_2, kj_i, kj_a, kj_l, kj_n, cat_n, cat_i, cat_a, cat_u, cat_l, vc_i, vc_a, rv_s, tl_n, tl_s, Cal'_s, List.length_cons, List.length_nil, i0, i1, iNd, iN_lt, iN_le, iN_eq, iN_add, iN_mul, iN_mod, iN_sub, iN_div, iN_clamp, iN_inb, zle_N, zlt_N, zN_le, zN_lt, zN_eq, Nz_eq, mI_t, mI_f, bI_0, bI_1, bI_t, bI_f, dltT, dltF, dleT, dleF, deqT, deqF, Nat.not_lt_zero, not_true_eq_false, not_false_eq_true, true_and, and_true, false_and, and_false, or_true, true_or, false_or, or_false, and_self, if_true, if_false, Classical.not_not, Nat.add_assoc, Nat.zero_add, Nat.add_zero, bI_or, bI_True, bI_False, Bool.false_eq_true, reduceCtorEq, eq_self, gi_si, gl_si, gr_si, hn_si, hL_si, hX_si, gi_sl, gl_sl, gr_sl, hn_sl, ob_si, ar_si, ob_sl, ar_sl, ks_221_0, oO, rO1, rO2, rO3, rO4, rO5, rO8, aO1, aO2, aO3, aO4, aO5, aO8, fM])
      exact hQ
    · rw [lv_f h6]; exact hA
theorem wo_join {h : Hp} {i j : Nat} {x : Mt} (hB : Bs h) (hA : Ao h x) (hW : Wf x) (hi : i < xN x) (hj : j < xN x) (hij : ¬ i = j) : ∃ h', Ret 1 222 [.ref 87, .int (iN i), .int (iN j)] h none h' ∧ Ao h' (joM x i j) ∧ Fo Sq Fq h h' := by
  obtain ⟨oO, rO1, rO2, rO3, rO4, rO5, rO8, aO1, aO2, aO3, aO4, aO5, aO8, sO1, sO2, sO3, sO4, sO5, sO8⟩ := O_facts hB
  obtain ⟨fN, fD, fK, fF, fH, fM, fQ⟩ := id hA; obtain ⟨wN, wK, wF, wH, wM, wQ, wS, wZ, wT⟩ := id hW
  obtain ⟨h1, r1, A1, f1⟩ := wo_leave hB hA hW hi
  have B1 := f1.bs hB
  have W1 := wf_lv hW hi
  obtain ⟨h2, r2, A2, f2⟩ := wo_leave (i := j) B1 A1 W1 (by rw [lv_N]; exact hj)
  have B2 := f2.bs B1
  have o1 := (O_facts B1).1
  have F2 := O_facts B2
  have o2 := F2.1
  have u2 := F2.2.2.2.2.1
  have a2 : ar h2 1 91 := F2.2.2.2.2.2.2.2.2.2.2.1
  refine ⟨si (si h2 91 i (mI j)) 91 j (mI i), ?_, Ao_M (Ao_M A2), ?_⟩
  · refine Ret_L [some (.ref 87), some (.int (iN i)), some (.int (iN j))] rfl rfl fun Q hQ => ?_
    have e1 : mI j = iN j := mI_t (by omega)
    have e2 : mI i = iN i := mI_t (by omega)
    rw [e1, e2] at hQ
    (refine wp_go 600 ks_222_0.1 ?_; simp (disch := first | assumption | (simp only [ob_si, ar_si, ob_sl, ar_sl]; assumption) | omega) only [ldA_a, ldI_i, oc_221, p_0, p_2, p_62, p_71, p_80_2, p_94, wpn_succ, wpn_zero, stp_h, lk_0, lk_s, st1_0, st1_1, st1_2, st2_0, st2_1, st2_2, kj_i, kj_a, kj_l, kj_n, cat_n, cat_i, cat_a, cat_u, cat_l, vc_i, vc_a, rv_s, tl_n, tl_s, Cal'_s, List.length_cons, List.length_nil, i0, i1, iNd, iN_lt, iN_le, iN_eq, iN_add, iN_mul, iN_mod, iN_sub, iN_div, iN_clamp, iN_inb, zle_N, zlt_N, zN_le, zN_lt, zN_eq, Nz_eq, mI_t, mI_f, bI_0, bI_1, bI_t, bI_f, dltT, dltF, dleT, dleF, deqT, deqF, Nat.not_lt_zero, not_true_eq_false, not_false_eq_true, true_and, and_true, false_and, and_false, or_true, true_or, false_or, or_false, and_self, if_true, if_false, Classical.not_not, Nat.add_assoc, Nat.zero_add, Nat.add_zero, bI_or, bI_True, bI_False, Bool.false_eq_true, reduceCtorEq, eq_self, gi_si, gl_si, gr_si, hn_si, hL_si, hX_si, gi_sl, gl_sl, gr_sl, hn_sl, ob_si, ar_si, ob_sl, ar_sl, ks_222_0, oO, o1, o2, u2, a2, Cal_eq r1, Cal_eq r2])
    exact hQ
  · exact ((f1.tr f2).sa (by unfold Sq; omega) (by omega) _ _).sa (by unfold Sq; omega) (by omega) _ _
theorem wo_jp {h : Hp} {i j : Nat} {x : Mt} (hB : Bs h) (hA : Ao h x) (hW : Wf x) (hi : i < xN x) (hj : j < xN x) (hij : ¬ i = j) : ∃ h', Ret 2 223 [.ref 87, .int (iN i), .int (iN j)] h none h' ∧ Ao h' (jpM x i j) ∧ Fo Sq Fq h h' := by
  obtain ⟨oO, rO1, rO2, rO3, rO4, rO5, rO8, aO1, aO2, aO3, aO4, aO5, aO8, sO1, sO2, sO3, sO4, sO5, sO8⟩ := O_facts hB
  obtain ⟨fN, fD, fK, fF, fH, fM, fQ⟩ := id hA; obtain ⟨wN, wK, wF, wH, wM, wQ, wS, wZ, wT⟩ := id hW
  by_cases hc : xM x i = j
  · obtain ⟨h1, r1, A1, f1⟩ := wo_leave hB hA hW hi
    refine ⟨h1, ?_, by unfold jpM; rw [if_pos hc]; exact A1, f1⟩
    refine Ret_L [some (.ref 87), some (.int (iN i)), some (.int (iN j))] rfl rfl fun Q hQ => ?_
    (refine wp_go 600 ks_223_0.1 ?_; simp (disch := first | assumption | (simp only [ob_si, ar_si, ob_sl, ar_sl]; assumption) | omega) only [ldA_a, ldI_i, oc_221, oc_222, p_0, p_2, p_30, p_42, p_62, p_70, p_80_2, p_80_3, p_94, wpn_succ, wpn_zero, stp_h, lk_0, lk_s, st1_0, st1_1, st1_2, st2_0, st2_1, st2_2, kj_i, kj_a, kj_l, kj_n, cat_n, cat_i, cat_a, cat_u, cat_l, vc_i, vc_a, rv_s, tl_n, tl_s, Cal'_s, List.length_cons, List.length_nil, i0, i1, iNd, iN_lt, iN_le, iN_eq, iN_add, iN_mul, iN_mod, iN_sub, iN_div, iN_clamp, iN_inb, zle_N, zlt_N, zN_le, zN_lt, zN_eq, Nz_eq, mI_t, mI_f, bI_0, bI_1, bI_t, bI_f, dltT, dltF, dleT, dleF, deqT, deqF, Nat.not_lt_zero, not_true_eq_false, not_false_eq_true, true_and, and_true, false_and, and_false, or_true, true_or, false_or, or_false, and_self, if_true, if_false, Classical.not_not, Nat.add_assoc, Nat.zero_add, Nat.add_zero, bI_or, bI_True, bI_False, Bool.false_eq_true, reduceCtorEq, eq_self, gi_si, gl_si, gr_si, hn_si, hL_si, hX_si, gi_sl, gl_sl, gr_sl, hn_sl, ob_si, ar_si, ob_sl, ar_sl, ks_223_0, oO, rO1, rO2, rO3, rO4, rO5, rO8, aO1, aO2, aO3, aO4, aO5, aO8, fM, hc, Cal_eq r1])
    exact hQ
  · obtain ⟨h1, r1, A1, f1⟩ := wo_join hB hA hW hi hj hij
    refine ⟨h1, ?_, by unfold jpM; rw [if_neg hc]; exact A1, f1⟩
    refine Ret_L [some (.ref 87), some (.int (iN i)), some (.int (iN j))] rfl rfl fun Q hQ => ?_
    by_cases h6 : xM x i < 6 <;> (refine wp_go 600 ks_223_0.1 ?_; simp (disch := first | assumption | (simp only [ob_si, ar_si, ob_sl, ar_sl]; assumption) | omega) only [ldA_a, ldI_i, oc_221, oc_222, p_0, p_2, p_30, p_42, p_62, p_70, p_80_2, p_80_3, p_94, wpn_succ, wpn_zero, stp_h, lk_0, lk_s, st1_0, st1_1, st1_2, st2_0, st2_1, st2_2, kj_i, kj_a, kj_l, kj_n, cat_n, cat_i, cat_a, cat_u, cat_l, vc_i, vc_a, rv_s, tl_n, tl_s, Cal'_s, List.length_cons, List.length_nil, i0, i1, iNd, iN_lt, iN_le, iN_eq, iN_add, iN_mul, iN_mod, iN_sub, iN_div, iN_clamp, iN_inb, zle_N, zlt_N, zN_le, zN_lt, zN_eq, Nz_eq, mI_t, mI_f, bI_0, bI_1, bI_t, bI_f, dltT, dltF, dleT, dleF, deqT, deqF, Nat.not_lt_zero, not_true_eq_false, not_false_eq_true, true_and, and_true, false_and, and_false, or_true, true_or, false_or, or_false, and_self, if_true, if_false, Classical.not_not, Nat.add_assoc, Nat.zero_add, Nat.add_zero, bI_or, bI_True, bI_False, Bool.false_eq_true, reduceCtorEq, eq_self, gi_si, gl_si, gr_si, hn_si, hL_si, hX_si, gi_sl, gl_sl, gr_sl, hn_sl, ob_si, ar_si, ob_sl, ar_sl, ks_223_0, oO, rO1, rO2, rO3, rO4, rO5, rO8, aO1, aO2, aO3, aO4, aO5, aO8, fM, hc, Cal_eq r1]) <;> exact hQ
/-! an hour, a day -/
theorem o_hour {h : Hp} {i j t a b : Nat} {x : Mt} (hB : Bs h) (hA : Ao h x) (hW : Wf x) (hi : i < 6) (hj : j < 6) (ht : t < 5) (ha : a < 32) (hb : b < 32) : Ret 1 216 [.ref 87, .int (iN i), .int (iN j), .int (iN t), .int (iN a), .int (iN b)] h (some (.int (iN (hrN (a, b, (kpx x i j).2.2) t (xQ x i j))))) (h) := by
  refine Ret_L [some (.ref 87), some (.int (iN i)), some (.int (iN j)), some (.int (iN t)), some (.int (iN a)), some (.int (iN b)), none, none, none] rfl rfl fun Q hQ => ?_
  obtain ⟨oO, rO1, rO2, rO3, rO4, rO5, rO8, aO1, aO2, aO3, aO4, aO5, aO8, sO1, sO2, sO3, sO4, sO5, sO8⟩ := O_facts hB
  obtain ⟨fN, fD, fK, fF, fH, fM, fQ⟩ := id hA; obtain ⟨wN, wK, wF, wH, wM, wQ, wS, wZ, wT⟩ := id hW
  have hq := wQ i j
  have s1 := soN_b (k := xK x i) (wF i)
  have s2 := soN_b (k := xK x j) (wF j)
  have s3 := srN_b (k := xK x i) (wF i)
  have s4 := srN_b (k := xK x j) (wF j)
  by_cases h1 : a.testBit t = true
  · by_cases h2 : b.testBit t = true
    · rw [hrN, if_pos h1, if_pos h2] at hQ
      change Q (some (.int (iN (xQ x i j - (soN (xK x i) (xF x i) + soN (xK x j) (xF x j)))))) h at hQ
      by_cases hs : soN (xK x i) (xF x i) + soN (xK x j) (xF x j) ≤ xQ x i j
      · rw [← show min 99 (xQ x i j - (soN (xK x i) (xF x i) + soN (xK x j) (xF x j))) = xQ x i j - (soN (xK x i) (xF x i) + soN (xK x j) (xF x j)) by omega] at hQ
        (refine wp_go 600 ks_216_0.1 ?_; simp (disch := first | assumption | (simp only [ob_si, ar_si, ob_sl, ar_sl]; assumption) | omega) only [ci_99, ldA_a, ldI_i, oc_209, oc_210, oc_212, p_0, p_10, p_11, p_2, p_3, p_30, p_31, p_6, p_80_2, p_80_3, p_81_2, p_90, wpn_succ, wpn_zero, stp_h, lk_0, lk_s, st1_0, st1_1, st1_2, st2_0, st2_1, st2_2, kj_i, kj_a, kj_l, kj_n, cat_n, cat_i, cat_a, cat_u, cat_l, vc_i, vc_a, rv_s, tl_n, tl_s, Cal'_s, List.length_cons, List.length_nil, i0, i1, iNd, iN_lt, iN_le, iN_eq, iN_add, iN_mul, iN_mod, iN_sub, iN_div, iN_clamp, iN_inb, zle_N, zlt_N, zN_le, zN_lt, zN_eq, Nz_eq, mI_t, mI_f, bI_0, bI_1, bI_t, bI_f, dltT, dltF, dleT, dleF, deqT, deqF, Nat.not_lt_zero, not_true_eq_false, not_false_eq_true, true_and, and_true, false_and, and_false, or_true, true_or, false_or, or_false, and_self, if_true, if_false, Classical.not_not, Nat.add_assoc, Nat.zero_add, Nat.add_zero, bI_or, bI_True, bI_False, Bool.false_eq_true, reduceCtorEq, eq_self, gi_si, gl_si, gr_si, hn_si, hL_si, hX_si, gi_sl, gl_sl, gr_sl, hn_sl, ob_si, ar_si, ob_sl, ar_sl, ks_216_0, ks_216_1, ks_216_2, oO, o_quar_q hB hA hW, o_soft_q hB hA hW, o_sore_q hB hA hW, o_bit_q, h1, h2, o_heldN_q])
        exact hQ
      · rw [show xQ x i j - (soN (xK x i) (xF x i) + soN (xK x j) (xF x j)) = 0 by omega] at hQ
        (refine wp_go 600 ks_216_0.1 ?_; simp (disch := first | assumption | (simp only [ob_si, ar_si, ob_sl, ar_sl]; assumption) | omega) only [ci_99, ldA_a, ldI_i, oc_209, oc_210, oc_212, p_0, p_10, p_11, p_2, p_3, p_30, p_31, p_6, p_80_2, p_80_3, p_81_2, p_90, wpn_succ, wpn_zero, stp_h, lk_0, lk_s, st1_0, st1_1, st1_2, st2_0, st2_1, st2_2, kj_i, kj_a, kj_l, kj_n, cat_n, cat_i, cat_a, cat_u, cat_l, vc_i, vc_a, rv_s, tl_n, tl_s, Cal'_s, List.length_cons, List.length_nil, i0, i1, iNd, iN_lt, iN_le, iN_eq, iN_add, iN_mul, iN_mod, iN_sub, iN_div, iN_clamp, iN_inb, zle_N, zlt_N, zN_le, zN_lt, zN_eq, Nz_eq, mI_t, mI_f, bI_0, bI_1, bI_t, bI_f, dltT, dltF, dleT, dleF, deqT, deqF, Nat.not_lt_zero, not_true_eq_false, not_false_eq_true, true_and, and_true, false_and, and_false, or_true, true_or, false_or, or_false, and_self, if_true, if_false, Classical.not_not, Nat.add_assoc, Nat.zero_add, Nat.add_zero, bI_or, bI_True, bI_False, Bool.false_eq_true, reduceCtorEq, eq_self, gi_si, gl_si, gr_si, hn_si, hL_si, hX_si, gi_sl, gl_sl, gr_sl, hn_sl, ob_si, ar_si, ob_sl, ar_sl, ks_216_0, ks_216_1, ks_216_2, oO, o_quar_q hB hA hW, o_soft_q hB hA hW, o_sore_q hB hA hW, o_bit_q, h1, h2, NN_sub, o_heldZ_q])
        exact hQ
    · rw [hrN, if_pos h1, if_neg h2] at hQ
      change Q (some (.int (iN (min 99 (xQ x i j + srN (xK x i) (xF x i)))))) h at hQ
      (refine wp_go 600 ks_216_0.1 ?_; simp (disch := first | assumption | (simp only [ob_si, ar_si, ob_sl, ar_sl]; assumption) | omega) only [ci_99, ldA_a, ldI_i, oc_209, oc_210, oc_212, p_0, p_10, p_11, p_2, p_3, p_30, p_31, p_6, p_80_2, p_80_3, p_81_2, p_90, wpn_succ, wpn_zero, stp_h, lk_0, lk_s, st1_0, st1_1, st1_2, st2_0, st2_1, st2_2, kj_i, kj_a, kj_l, kj_n, cat_n, cat_i, cat_a, cat_u, cat_l, vc_i, vc_a, rv_s, tl_n, tl_s, Cal'_s, List.length_cons, List.length_nil, i0, i1, iNd, iN_lt, iN_le, iN_eq, iN_add, iN_mul, iN_mod, iN_sub, iN_div, iN_clamp, iN_inb, zle_N, zlt_N, zN_le, zN_lt, zN_eq, Nz_eq, mI_t, mI_f, bI_0, bI_1, bI_t, bI_f, dltT, dltF, dleT, dleF, deqT, deqF, Nat.not_lt_zero, not_true_eq_false, not_false_eq_true, true_and, and_true, false_and, and_false, or_true, true_or, false_or, or_false, and_self, if_true, if_false, Classical.not_not, Nat.add_assoc, Nat.zero_add, Nat.add_zero, bI_or, bI_True, bI_False, Bool.false_eq_true, reduceCtorEq, eq_self, gi_si, gl_si, gr_si, hn_si, hL_si, hX_si, gi_sl, gl_sl, gr_sl, hn_sl, ob_si, ar_si, ob_sl, ar_sl, ks_216_0, ks_216_1, ks_216_2, oO, o_quar_q hB hA hW, o_soft_q hB hA hW, o_sore_q hB hA hW, o_bit_q, h1, h2, o_heldN_q])
      exact hQ
  · by_cases h2 : b.testBit t = true
    · rw [hrN, if_neg h1, if_pos h2] at hQ
      change Q (some (.int (iN (min 99 (xQ x i j + srN (xK x j) (xF x j)))))) h at hQ
      (refine wp_go 600 ks_216_0.1 ?_; simp (disch := first | assumption | (simp only [ob_si, ar_si, ob_sl, ar_sl]; assumption) | omega) only [ci_99, ldA_a, ldI_i, oc_209, oc_210, oc_212, p_0, p_10, p_11, p_2, p_3, p_30, p_31, p_6, p_80_2, p_80_3, p_81_2, p_90, wpn_succ, wpn_zero, stp_h, lk_0, lk_s, st1_0, st1_1, st1_2, st2_0, st2_1, st2_2, kj_i, kj_a, kj_l, kj_n, cat_n, cat_i, cat_a, cat_u, cat_l, vc_i, vc_a, rv_s, tl_n, tl_s, Cal'_s, List.length_cons, List.length_nil, i0, i1, iNd, iN_lt, iN_le, iN_eq, iN_add, iN_mul, iN_mod, iN_sub, iN_div, iN_clamp, iN_inb, zle_N, zlt_N, zN_le, zN_lt, zN_eq, Nz_eq, mI_t, mI_f, bI_0, bI_1, bI_t, bI_f, dltT, dltF, dleT, dleF, deqT, deqF, Nat.not_lt_zero, not_true_eq_false, not_false_eq_true, true_and, and_true, false_and, and_false, or_true, true_or, false_or, or_false, and_self, if_true, if_false, Classical.not_not, Nat.add_assoc, Nat.zero_add, Nat.add_zero, bI_or, bI_True, bI_False, Bool.false_eq_true, reduceCtorEq, eq_self, gi_si, gl_si, gr_si, hn_si, hL_si, hX_si, gi_sl, gl_sl, gr_sl, hn_sl, ob_si, ar_si, ob_sl, ar_sl, ks_216_0, ks_216_1, ks_216_2, oO, o_quar_q hB hA hW, o_soft_q hB hA hW, o_sore_q hB hA hW, o_bit_q, h1, h2, o_heldN_q])
      exact hQ
    · rw [hrN, if_neg h1, if_neg h2, ← show min 99 (xQ x i j) = xQ x i j by omega] at hQ
      (refine wp_go 600 ks_216_0.1 ?_; simp (disch := first | assumption | (simp only [ob_si, ar_si, ob_sl, ar_sl]; assumption) | omega) only [ci_99, ldA_a, ldI_i, oc_209, oc_210, oc_212, p_0, p_10, p_11, p_2, p_3, p_30, p_31, p_6, p_80_2, p_80_3, p_81_2, p_90, wpn_succ, wpn_zero, stp_h, lk_0, lk_s, st1_0, st1_1, st1_2, st2_0, st2_1, st2_2, kj_i, kj_a, kj_l, kj_n, cat_n, cat_i, cat_a, cat_u, cat_l, vc_i, vc_a, rv_s, tl_n, tl_s, Cal'_s, List.length_cons, List.length_nil, i0, i1, iNd, iN_lt, iN_le, iN_eq, iN_add, iN_mul, iN_mod, iN_sub, iN_div, iN_clamp, iN_inb, zle_N, zlt_N, zN_le, zN_lt, zN_eq, Nz_eq, mI_t, mI_f, bI_0, bI_1, bI_t, bI_f, dltT, dltF, dleT, dleF, deqT, deqF, Nat.not_lt_zero, not_true_eq_false, not_false_eq_true, true_and, and_true, false_and, and_false, or_true, true_or, false_or, or_false, and_self, if_true, if_false, Classical.not_not, Nat.add_assoc, Nat.zero_add, Nat.add_zero, bI_or, bI_True, bI_False, Bool.false_eq_true, reduceCtorEq, eq_self, gi_si, gl_si, gr_si, hn_si, hL_si, hX_si, gi_sl, gl_sl, gr_sl, hn_sl, ob_si, ar_si, ob_sl, ar_sl, ks_216_0, ks_216_1, ks_216_2, oO, o_quar_q hB hA hW, o_soft_q hB hA hW, o_sore_q hB hA hW, o_bit_q, h1, h2, o_heldN_q])
      exact hQ
theorem o_hour_q {h : Hp} {i j t a b : Nat} {x : Mt} (hB : Bs h) (hA : Ao h x) (hW : Wf x) (hi : i < 6) (hj : j < 6) (ht : t < 5) (ha : a < 32) (hb : b < 32) {e : Nat} (hd : 1 ≤ e) (K : Option Value → Hp → Prop) : Cal e 216 [.ref 87, .int (iN i), .int (iN j), .int (iN t), .int (iN a), .int (iN b)] h K = K (some (.int (iN (hrN (a, b, (kpx x i j).2.2) t (xQ x i j))))) (h) := Cal_eq (o_hour (hB := hB) (hA := hA) (hW := hW) (hi := hi) (hj := hj) (ht := ht) (ha := ha) (hb := hb)) hd K
theorem itr_last {α : Type} (f : Nat → α → α) : ∀ (k i : Nat) (a : α), itr f i (k + 1) a = f (i + k) (itr f i k a)
  | 0, i, a => rfl
  | k + 1, i, a => by rw [itr_s, itr_last f k, itr_s, show i + 1 + k = i + (k + 1) by omega]
noncomputable def kpa (x : Mt) (a i j : Nat) : Kp := (if i = a then 0 else xH x i, if j = a then 0 else xH x j, (kpx x i j).2.2)
noncomputable def dgB (x : Mt) (a b : Nat) : Nat → Nat → Nat → Nat := fun i j q => if b < 5 then hrN (kpa x a i j) b (dyN (kpa x a i j) q) else dyN (kpa x a i j) q
noncomputable def dyB (x : Mt) (a b : Nat) : Mt := uD (lyM x (dgB x a b) (xN x)) (xD x + iN 1)
theorem dgB_b {x : Mt} {a b i j q : Nat} (hq : q ≤ 99) : dgB x a b i j q ≤ 99 := by
  unfold dgB
  split
  · exact hrN_b (dyN_b hq)
  · exact dyN_b hq
theorem wf_dyB {x : Mt} (hW : Wf x) (a b : Nat) : Wf (dyB x a b) := wf_D (wf_ly hW fun _ _ _ hq => dgB_b hq) _
theorem Nm_eq {p a : Nat} (hp : p < 6) (ha : a ≤ 6) : (iN p = mI a) = (p = a) := by
  by_cases h : a < 6
  · rw [mI_t h, iN_eq (by omega) (by omega)]
  · rw [mI_f h, zN_eq (by omega) (by omega) (by omega)]
    exact propext ⟨False.elim, fun e => by omega⟩
theorem mI_ge {b : Nat} (hb : b ≤ 6) : (iN 0 ≤ mI b) = (b < 6) := by
  by_cases h : b < 6
  · rw [mI_t h, iN_le (by omega) (by omega)]; exact propext ⟨fun _ => h, fun _ => by omega⟩
  · rw [mI_f h, zN_le (by omega) (by omega) (by omega)]
    exact propext ⟨False.elim, fun e => h e⟩
theorem mI_lt0 {b : Nat} (hb : b ≤ 6) : (mI b < iN 0) = ¬ b < 6 := by
  rw [← mI_ge hb]; exact propext Int32.not_le.symm
theorem uQ_Q (x : Mt) (i j v : Nat) : xQ (uQ x i j v) i j = v := by
  show up2 (xQ x) i j v i j = v
  unfold up2; rw [if_pos (Or.inl ⟨rfl, rfl⟩)]
theorem uQ_uQ (x : Mt) (i j v w : Nat) : uQ (uQ x i j v) i j w = uQ x i j w := by
  have : up2 (up2 (xQ x) i j v) i j w = up2 (xQ x) i j w := by
    funext a b
    unfold up2
    by_cases e : (a = i ∧ b = j) ∨ (a = j ∧ b = i)
    · rw [if_pos e, if_pos e]
    · rw [if_neg e, if_neg e, if_neg e]
  show (_, _, _, _, _, _, _) = _
  unfold uQ
  rw [show xQ (xN x, xD x, xK x, xF x, xH x, xM x, up2 (xQ x) i j v) = up2 (xQ x) i j v from rfl, this]
  rfl
theorem uQ_id {x : Mt} {i j : Nat} (hS : xQ x i j = xQ x j i) : uQ x i j (xQ x i j) = x := by
  have : up2 (xQ x) i j (xQ x i j) = xQ x := by
    funext a b
    unfold up2
    split
    · rename_i e
      rcases e with ⟨rfl, rfl⟩ | ⟨rfl, rfl⟩
      · rfl
      · exact hS
    · rfl
  unfold uQ
  rw [this]
  rfl
theorem wf_uQ {x : Mt} {i j v : Nat} (hW : Wf x) (hi : i < xN x) (hj : j < xN x) (hv : v ≤ 99) : Wf (uQ x i j v) := by
  obtain ⟨wN, wK, wF, wH, wM, wQ, wS, wZ, wT⟩ := hW
  refine ⟨wN, wK, wF, wH, wM, ?_, ?_, ?_, wT⟩
  · intro a b; show up2 (xQ x) i j v a b ≤ 99; unfold up2; split; exact hv; exact wQ a b
  · intro a b
    show up2 (xQ x) i j v a b = up2 (xQ x) i j v b a
    unfold up2
    by_cases e : (a = i ∧ b = j) ∨ (a = j ∧ b = i)
    · rw [if_pos e, if_pos (by omega)]
    · rw [if_neg e, if_neg (by omega), wS a b]
  · intro a b hb
    change xN x ≤ b at hb
    show up2 (xQ x) i j v a b = 0
    unfold up2
    rw [if_neg (by omega)]
    exact wZ a b hb
theorem kpa_b {x : Mt} (hW : Wf x) (a i j : Nat) : (kpa x a i j).1 < 32 ∧ (kpa x a i j).2.1 < 32 := by
  have h1 := hW.2.2.2.1 i
  have h2 := hW.2.2.2.1 j
  unfold kpa
  constructor
  · show (if i = a then 0 else xH x i) < 32; split <;> omega
  · show (if j = a then 0 else xH x j) < 32; split <;> omega
theorem wo_day {h : Hp} {a b : Nat} {va vb : Int32} {x : Mt} (hB : Bs h) (hA : Ao h x) (hW : Wf x) (ha : a ≤ 6) (hb : b < 5 ∨ b = 6) (ea : va = mI a) (eb : vb = mI b) : ∃ h', Ret 2 217 [.ref 87, .int va, .int vb] h none h' ∧ Ao h' (dyB x a b) ∧ Fo Sq Fq h h' := by
  have hg : ∀ i j q, q ≤ 99 → dgB x a b i j q ≤ 99 := fun _ _ _ hq => dgB_b hq
  have ha1 : ∀ p, p < 6 → (iN p = va) = (p = a) := fun p hp => by rw [ea]; exact Nm_eq hp ha
  have hb1 : (iN 0 ≤ vb) = (b < 6) := by rw [eb]; exact mI_ge (by omega)
  have hb2 : (vb < iN 0) = ¬ b < 6 := by rw [eb]; exact mI_lt0 (by omega)
  have key : ∀ Q : Option Value → Hp → Prop, (∀ h', Ao h' (dyB x a b) → Fo Sq Fq h h' → Q none h') → wp 2 217 0 [some (.ref 87), some (.int va), some (.int vb), none, none, none, none, none] [] h Q := by
    intro Q hQ
    obtain ⟨oO, rO1, rO2, rO3, rO4, rO5, rO8, aO1, aO2, aO3, aO4, aO5, aO8, sO1, sO2, sO3, sO4, sO5, sO8⟩ := O_facts hB
    obtain ⟨fN, fD, fK, fF, fH, fM, fQ⟩ := id hA; obtain ⟨wN, wK, wF, wH, wM, wQ, wS, wZ, wT⟩ := id hW
    (refine wp_go 600 ks_217_0.1 ?_; simp (disch := first | assumption | (simp only [ob_si, ar_si, ob_sl, ar_sl]; assumption) | omega) only [ci_0, ci_1, ci_5, inc_i, ldA_a, ldI_i, oc_213, oc_216, p_0, p_10, p_2, p_3, p_30, p_33, p_42, p_44, p_46, p_50, p_6, p_60, p_62, p_63, p_70, p_80_4, p_80_6, p_9, p_94, wpn_succ, wpn_zero, stp_h, lk_0, lk_s, st1_0, st1_1, st1_2, st2_0, st2_1, st2_2, kj_i, kj_a, kj_l, kj_n, cat_n, cat_i, cat_a, cat_u, cat_l, vc_i, vc_a, rv_s, tl_n, tl_s, Cal'_s, List.length_cons, List.length_nil, i0, i1, iNd, iN_lt, iN_le, iN_eq, iN_add, iN_mul, iN_mod, iN_sub, iN_div, iN_clamp, iN_inb, zle_N, zlt_N, zN_le, zN_lt, zN_eq, Nz_eq, mI_t, mI_f, bI_0, bI_1, bI_t, bI_f, dltT, dltF, dleT, dleF, deqT, deqF, Nat.not_lt_zero, not_true_eq_false, not_false_eq_true, true_and, and_true, false_and, and_false, or_true, true_or, false_or, or_false, and_self, if_true, if_false, Classical.not_not, Nat.add_assoc, Nat.zero_add, Nat.add_zero, bI_or, bI_True, bI_False, Bool.false_eq_true, reduceCtorEq, eq_self, gi_si, gl_si, gr_si, hn_si, hL_si, hX_si, gi_sl, gl_sl, gr_sl, hn_sl, ob_si, ar_si, ob_sl, ar_sl, ks_217_0, ks_217_1, ks_217_2, ks_217_3, oO, rO1, rO2, rO3, rO4, rO5, rO8, aO1, aO2, aO3, aO4, aO5, aO8, fD, ob_si])
    refine wp_loop (fun p L h' => (∃ w1 w2 w3 w4, L = [some (.ref 87), some (.int va), some (.int vb), some (.int (iN p)), w1, w2, w3, w4]) ∧ Ao h' (uD (lyM x (dgB x a b) p) (xD x + iN 1)) ∧ Fo Sq Fq h h') (xN x) ?_ ?_ (xN x) 0 _ _ (by omega) ⟨⟨_, _, _, _, rfl⟩, by rw [ly_0]; exact Ao_D hA _, (Fo.rf _ _ h).sf (by unfold Fq; omega) _⟩
    · rintro p L h1 hp ⟨⟨w1, w2, w3, w4, rfl⟩, A1, f1⟩ hn
      have B1 := f1.bs hB
      have W1 : Wf (uD (lyM x (dgB x a b) p) (xD x + iN 1)) := wf_D (wf_ly (p := p) hW hg) _
      obtain ⟨oO, rO1, rO2, rO3, rO4, rO5, rO8, aO1, aO2, aO3, aO4, aO5, aO8, sO1, sO2, sO3, sO4, sO5, sO8⟩ := O_facts B1
      have fN : gi h1 87 0 = iN (xN x) := A1.1
      have fM : gi h1 91 p = mI (xM x p) := A1.2.2.2.2.2.1 p (by omega)
      have fH : ∀ i, i < 6 → gi h1 90 i = iN (xH x i) := A1.2.2.2.2.1
      by_cases h6 : xM x p < 6
      · by_cases hc : p < xM x p
        · have t1 := (wT p hp h6).1
          obtain ⟨e1, e2⟩ := ly_new (g := dgB x a b) hW hp h6 hc
          have hq : xQ x p (xM x p) ≤ 99 := wQ _ _
          obtain ⟨kb1, kb2⟩ := kpa_b hW a p (xM x p)
          have key2 : ∀ c1 c2, (kpa x a p (xM x p)).1 = c1 → (kpa x a p (xM x p)).2.1 = c2 → wp 2 217 73 [some (.ref 87), some (.int va), some (.int vb), some (.int (iN p)), some (.int (iN (xM x p))), some (.int (iN c1)), some (.int (iN c2)), some (.int (iN 0))] [] h1 Q := by
            rintro c1 c2 rfl rfl
            have hkp : kpa x a p (xM x p) = ((kpa x a p (xM x p)).1, (kpa x a p (xM x p)).2.1, (kpx x p (xM x p)).2.2) := rfl
            refine wp_loop (fun t L h' => L = [some (.ref 87), some (.int va), some (.int vb), some (.int (iN p)), some (.int (iN (xM x p))), some (.int (iN (kpa x a p (xM x p)).1)), some (.int (iN (kpa x a p (xM x p)).2.1)), some (.int (iN t))] ∧ Ao h' (uQ (uD (lyM x (dgB x a b) p) (xD x + iN 1)) p (xM x p) (itr (fun t q => hrN (kpa x a p (xM x p)) t q) 0 t (xQ x p (xM x p)))) ∧ Fo Sq Fq h h') 5 ?_ ?_ 5 0 _ h1 (by omega) ⟨rfl, ?_, f1⟩
            · rintro t L h2 ht ⟨rfl, A2, f2⟩ hn2
              have B2 := f2.bs hB
              have hv : itr (fun t q => hrN (kpa x a p (xM x p)) t q) 0 t (xQ x p (xM x p)) ≤ 99 := itr_inv (P := fun q => q ≤ 99) (fun _ _ h => hrN_b h) t 0 _ hq
              have W2 := wf_uQ (i := p) (j := xM x p) W1 hp t1 hv
              have o2 := (O_facts B2).1
              have r2 := o_hour (i := p) (j := xM x p) (t := t) (a := (kpa x a p (xM x p)).1) (b := (kpa x a p (xM x p)).2.1) B2 A2 W2 (by omega) h6 ht kb1 kb2
              rw [uQ_Q] at r2
              change Ret _ _ _ _ (some (.int (iN (hrN (kpa x a p (xM x p)) t _)))) _ at r2
              have e3 : itr (fun t q => hrN (kpa x a p (xM x p)) t q) 0 (t + 1) (xQ x p (xM x p)) = hrN (kpa x a p (xM x p)) t (itr (fun t q => hrN (kpa x a p (xM x p)) t q) 0 t (xQ x p (xM x p))) := by rw [itr_last, Nat.zero_add]
              (refine wp_go 600 ks_217_1.2.2.2.2.2.2.2.2.2.2.2.2.2.2.2.2.2.2.1 ?_; simp (disch := first | assumption | (simp only [ob_si, ar_si, ob_sl, ar_sl]; assumption) | omega) only [ci_0, ci_1, ci_5, inc_i, ldA_a, ldI_i, oc_213, oc_216, p_0, p_10, p_2, p_3, p_30, p_33, p_42, p_44, p_46, p_50, p_6, p_60, p_62, p_63, p_70, p_80_4, p_80_6, p_9, p_94, wpn_succ, wpn_zero, stp_h, lk_0, lk_s, st1_0, st1_1, st1_2, st2_0, st2_1, st2_2, kj_i, kj_a, kj_l, kj_n, cat_n, cat_i, cat_a, cat_u, cat_l, vc_i, vc_a, rv_s, tl_n, tl_s, Cal'_s, List.length_cons, List.length_nil, i0, i1, iNd, iN_lt, iN_le, iN_eq, iN_add, iN_mul, iN_mod, iN_sub, iN_div, iN_clamp, iN_inb, zle_N, zlt_N, zN_le, zN_lt, zN_eq, Nz_eq, mI_t, mI_f, bI_0, bI_1, bI_t, bI_f, dltT, dltF, dleT, dleF, deqT, deqF, Nat.not_lt_zero, not_true_eq_false, not_false_eq_true, true_and, and_true, false_and, and_false, or_true, true_or, false_or, or_false, and_self, if_true, if_false, Classical.not_not, Nat.add_assoc, Nat.zero_add, Nat.add_zero, bI_or, bI_True, bI_False, Bool.false_eq_true, reduceCtorEq, eq_self, gi_si, gl_si, gr_si, hn_si, hL_si, hX_si, gi_sl, gl_sl, gr_sl, hn_sl, ob_si, ar_si, ob_sl, ar_sl, ks_217_0, ks_217_1, ks_217_2, ks_217_3, o2, Cal_eq r2, o_setQ_q B2])
              refine hn2 _ _ ⟨rfl, ?_, ?_⟩
              · have := Ao_Q (i := p) (j := xM x p) (v := hrN (kpa x a p (xM x p)) t (itr (fun t q => hrN (kpa x a p (xM x p)) t q) 0 t (xQ x p (xM x p)))) (by omega) h6 A2
                rw [uQ_uQ, ← e3] at this
                rw [← e3]
                exact this
              · exact (f2.sa (by unfold Sq; omega) (by omega) _ _).sa (by unfold Sq; omega) (by omega) _ _
            · rintro L h2 ⟨rfl, A2, f2⟩
              have B2 := f2.bs hB
              change Ao h2 (uQ (uD (lyM x (dgB x a b) p) (xD x + iN 1)) p (xM x p) (dyN (kpa x a p (xM x p)) (xQ x p (xM x p)))) at A2
              have hv : dyN (kpa x a p (xM x p)) (xQ x p (xM x p)) ≤ 99 := dyN_b hq
              have W2 := wf_uQ (i := p) (j := xM x p) W1 hp t1 hv
              have o2 := (O_facts B2).1
              by_cases h5 : b < 5
              · have r2 := o_hour (i := p) (j := xM x p) (t := b) (a := (kpa x a p (xM x p)).1) (b := (kpa x a p (xM x p)).2.1) B2 A2 W2 (by omega) h6 h5 kb1 kb2
                rw [uQ_Q] at r2
                change Ret _ _ _ _ (some (.int (iN (hrN (kpa x a p (xM x p)) b _)))) _ at r2
                rw [show iN b = vb by rw [eb, mI_t (by omega)]] at r2
                have hd : dgB x a b p (xM x p) (xQ x p (xM x p)) = hrN (kpa x a p (xM x p)) b (dyN (kpa x a p (xM x p)) (xQ x p (xM x p))) := by unfold dgB; rw [if_pos h5]
                (refine wp_go 600 ks_217_1.2.2.2.2.2.2.2.2.2.2.2.2.2.2.2.2.2.2.1 ?_; simp (disch := first | assumption | (simp only [ob_si, ar_si, ob_sl, ar_sl]; assumption) | omega) only [ci_0, ci_1, ci_5, inc_i, ldA_a, ldI_i, oc_213, oc_216, p_0, p_10, p_2, p_3, p_30, p_33, p_42, p_44, p_46, p_50, p_6, p_60, p_62, p_63, p_70, p_80_4, p_80_6, p_9, p_94, wpn_succ, wpn_zero, stp_h, lk_0, lk_s, st1_0, st1_1, st1_2, st2_0, st2_1, st2_2, kj_i, kj_a, kj_l, kj_n, cat_n, cat_i, cat_a, cat_u, cat_l, vc_i, vc_a, rv_s, tl_n, tl_s, Cal'_s, List.length_cons, List.length_nil, i0, i1, iNd, iN_lt, iN_le, iN_eq, iN_add, iN_mul, iN_mod, iN_sub, iN_div, iN_clamp, iN_inb, zle_N, zlt_N, zN_le, zN_lt, zN_eq, Nz_eq, mI_t, mI_f, bI_0, bI_1, bI_t, bI_f, dltT, dltF, dleT, dleF, deqT, deqF, Nat.not_lt_zero, not_true_eq_false, not_false_eq_true, true_and, and_true, false_and, and_false, or_true, true_or, false_or, or_false, and_self, if_true, if_false, Classical.not_not, Nat.add_assoc, Nat.zero_add, Nat.add_zero, bI_or, bI_True, bI_False, Bool.false_eq_true, reduceCtorEq, eq_self, gi_si, gl_si, gr_si, hn_si, hL_si, hX_si, gi_sl, gl_sl, gr_sl, hn_sl, ob_si, ar_si, ob_sl, ar_sl, ks_217_0, ks_217_1, ks_217_2, ks_217_3, o2, Cal_eq r2, o_setQ_q B2, hb1, hb2])
                refine hn _ _ ⟨⟨_, _, _, _, rfl⟩, ?_, (f2.sa (by unfold Sq; omega) (by omega) _ _).sa (by unfold Sq; omega) (by omega) _ _⟩
                have := Ao_Q (i := p) (j := xM x p) (v := hrN (kpa x a p (xM x p)) b (dyN (kpa x a p (xM x p)) (xQ x p (xM x p)))) (by omega) h6 A2
                rw [uQ_uQ] at this
                rw [e1, hd]
                exact this
              · have hd : dgB x a b p (xM x p) (xQ x p (xM x p)) = dyN (kpa x a p (xM x p)) (xQ x p (xM x p)) := by unfold dgB; rw [if_neg h5]
                (refine wp_go 600 ks_217_1.2.2.2.2.2.2.2.2.2.2.2.2.2.2.2.2.2.2.1 ?_; simp (disch := first | assumption | (simp only [ob_si, ar_si, ob_sl, ar_sl]; assumption) | omega) only [ci_0, ci_1, ci_5, inc_i, ldA_a, ldI_i, oc_213, oc_216, p_0, p_10, p_2, p_3, p_30, p_33, p_42, p_44, p_46, p_50, p_6, p_60, p_62, p_63, p_70, p_80_4, p_80_6, p_9, p_94, wpn_succ, wpn_zero, stp_h, lk_0, lk_s, st1_0, st1_1, st1_2, st2_0, st2_1, st2_2, kj_i, kj_a, kj_l, kj_n, cat_n, cat_i, cat_a, cat_u, cat_l, vc_i, vc_a, rv_s, tl_n, tl_s, Cal'_s, List.length_cons, List.length_nil, i0, i1, iNd, iN_lt, iN_le, iN_eq, iN_add, iN_mul, iN_mod, iN_sub, iN_div, iN_clamp, iN_inb, zle_N, zlt_N, zN_le, zN_lt, zN_eq, Nz_eq, mI_t, mI_f, bI_0, bI_1, bI_t, bI_f, dltT, dltF, dleT, dleF, deqT, deqF, Nat.not_lt_zero, not_true_eq_false, not_false_eq_true, true_and, and_true, false_and, and_false, or_true, true_or, false_or, or_false, and_self, if_true, if_false, Classical.not_not, Nat.add_assoc, Nat.zero_add, Nat.add_zero, bI_or, bI_True, bI_False, Bool.false_eq_true, reduceCtorEq, eq_self, gi_si, gl_si, gr_si, hn_si, hL_si, hX_si, gi_sl, gl_sl, gr_sl, hn_sl, ob_si, ar_si, ob_sl, ar_sl, ks_217_0, ks_217_1, ks_217_2, ks_217_3, o2, hb1, hb2])
                refine hn _ _ ⟨⟨_, _, _, _, rfl⟩, ?_, f2⟩
                rw [e1, hd]
                exact A2
            · rw [itr_0, show xQ x p (xM x p) = xQ (uD (lyM x (dgB x a b) p) (xD x + iN 1)) p (xM x p) from e2.symm, uQ_id (W1.2.2.2.2.2.2.1 _ _)]
              exact A1
          by_cases pa : p = a
          · have qa : ¬ xM x p = a := by omega
            (refine wp_go 600 ks_217_0.2.2.2.2.2.2.2.2.1 ?_; simp (disch := first | assumption | (simp only [ob_si, ar_si, ob_sl, ar_sl]; assumption) | omega) only [ci_0, ci_1, ci_5, inc_i, ldA_a, ldI_i, oc_213, oc_216, p_0, p_10, p_2, p_3, p_30, p_33, p_42, p_44, p_46, p_50, p_6, p_60, p_62, p_63, p_70, p_80_4, p_80_6, p_9, p_94, wpn_succ, wpn_zero, stp_h, lk_0, lk_s, st1_0, st1_1, st1_2, st2_0, st2_1, st2_2, kj_i, kj_a, kj_l, kj_n, cat_n, cat_i, cat_a, cat_u, cat_l, vc_i, vc_a, rv_s, tl_n, tl_s, Cal'_s, List.length_cons, List.length_nil, i0, i1, iNd, iN_lt, iN_le, iN_eq, iN_add, iN_mul, iN_mod, iN_sub, iN_div, iN_clamp, iN_inb, zle_N, zlt_N, zN_le, zN_lt, zN_eq, Nz_eq, mI_t, mI_f, bI_0, bI_1, bI_t, bI_f, dltT, dltF, dleT, dleF, deqT, deqF, Nat.not_lt_zero, not_true_eq_false, not_false_eq_true, true_and, and_true, false_and, and_false, or_true, true_or, false_or, or_false, and_self, if_true, if_false, Classical.not_not, Nat.add_assoc, Nat.zero_add, Nat.add_zero, bI_or, bI_True, bI_False, Bool.false_eq_true, reduceCtorEq, eq_self, gi_si, gl_si, gr_si, hn_si, hL_si, hX_si, gi_sl, gl_sl, gr_sl, hn_sl, ob_si, ar_si, ob_sl, ar_sl, ks_217_0, ks_217_1, ks_217_2, ks_217_3, oO, rO3, rO4, aO3, aO4, fN, fM, fH, ha1])
            exact key2 _ _ (if_pos pa) (if_neg qa)
          · by_cases qa : xM x p = a
            · (refine wp_go 600 ks_217_0.2.2.2.2.2.2.2.2.1 ?_; simp (disch := first | assumption | (simp only [ob_si, ar_si, ob_sl, ar_sl]; assumption) | omega) only [ci_0, ci_1, ci_5, inc_i, ldA_a, ldI_i, oc_213, oc_216, p_0, p_10, p_2, p_3, p_30, p_33, p_42, p_44, p_46, p_50, p_6, p_60, p_62, p_63, p_70, p_80_4, p_80_6, p_9, p_94, wpn_succ, wpn_zero, stp_h, lk_0, lk_s, st1_0, st1_1, st1_2, st2_0, st2_1, st2_2, kj_i, kj_a, kj_l, kj_n, cat_n, cat_i, cat_a, cat_u, cat_l, vc_i, vc_a, rv_s, tl_n, tl_s, Cal'_s, List.length_cons, List.length_nil, i0, i1, iNd, iN_lt, iN_le, iN_eq, iN_add, iN_mul, iN_mod, iN_sub, iN_div, iN_clamp, iN_inb, zle_N, zlt_N, zN_le, zN_lt, zN_eq, Nz_eq, mI_t, mI_f, bI_0, bI_1, bI_t, bI_f, dltT, dltF, dleT, dleF, deqT, deqF, Nat.not_lt_zero, not_true_eq_false, not_false_eq_true, true_and, and_true, false_and, and_false, or_true, true_or, false_or, or_false, and_self, if_true, if_false, Classical.not_not, Nat.add_assoc, Nat.zero_add, Nat.add_zero, bI_or, bI_True, bI_False, Bool.false_eq_true, reduceCtorEq, eq_self, gi_si, gl_si, gr_si, hn_si, hL_si, hX_si, gi_sl, gl_sl, gr_sl, hn_sl, ob_si, ar_si, ob_sl, ar_sl, ks_217_0, ks_217_1, ks_217_2, ks_217_3, oO, rO3, rO4, aO3, aO4, fN, fM, fH, ha1])
              exact key2 _ _ (if_neg pa) (if_pos qa)
            · (refine wp_go 600 ks_217_0.2.2.2.2.2.2.2.2.1 ?_; simp (disch := first | assumption | (simp only [ob_si, ar_si, ob_sl, ar_sl]; assumption) | omega) only [ci_0, ci_1, ci_5, inc_i, ldA_a, ldI_i, oc_213, oc_216, p_0, p_10, p_2, p_3, p_30, p_33, p_42, p_44, p_46, p_50, p_6, p_60, p_62, p_63, p_70, p_80_4, p_80_6, p_9, p_94, wpn_succ, wpn_zero, stp_h, lk_0, lk_s, st1_0, st1_1, st1_2, st2_0, st2_1, st2_2, kj_i, kj_a, kj_l, kj_n, cat_n, cat_i, cat_a, cat_u, cat_l, vc_i, vc_a, rv_s, tl_n, tl_s, Cal'_s, List.length_cons, List.length_nil, i0, i1, iNd, iN_lt, iN_le, iN_eq, iN_add, iN_mul, iN_mod, iN_sub, iN_div, iN_clamp, iN_inb, zle_N, zlt_N, zN_le, zN_lt, zN_eq, Nz_eq, mI_t, mI_f, bI_0, bI_1, bI_t, bI_f, dltT, dltF, dleT, dleF, deqT, deqF, Nat.not_lt_zero, not_true_eq_false, not_false_eq_true, true_and, and_true, false_and, and_false, or_true, true_or, false_or, or_false, and_self, if_true, if_false, Classical.not_not, Nat.add_assoc, Nat.zero_add, Nat.add_zero, bI_or, bI_True, bI_False, Bool.false_eq_true, reduceCtorEq, eq_self, gi_si, gl_si, gr_si, hn_si, hL_si, hX_si, gi_sl, gl_sl, gr_sl, hn_sl, ob_si, ar_si, ob_sl, ar_sl, ks_217_0, ks_217_1, ks_217_2, ks_217_3, oO, rO3, rO4, aO3, aO4, fN, fM, fH, ha1])
              exact key2 _ _ (if_neg pa) (if_neg qa)
        · (refine wp_go 600 ks_217_0.2.2.2.2.2.2.2.2.1 ?_; simp (disch := first | assumption | (simp only [ob_si, ar_si, ob_sl, ar_sl]; assumption) | omega) only [ci_0, ci_1, ci_5, inc_i, ldA_a, ldI_i, oc_213, oc_216, p_0, p_10, p_2, p_3, p_30, p_33, p_42, p_44, p_46, p_50, p_6, p_60, p_62, p_63, p_70, p_80_4, p_80_6, p_9, p_94, wpn_succ, wpn_zero, stp_h, lk_0, lk_s, st1_0, st1_1, st1_2, st2_0, st2_1, st2_2, kj_i, kj_a, kj_l, kj_n, cat_n, cat_i, cat_a, cat_u, cat_l, vc_i, vc_a, rv_s, tl_n, tl_s, Cal'_s, List.length_cons, List.length_nil, i0, i1, iNd, iN_lt, iN_le, iN_eq, iN_add, iN_mul, iN_mod, iN_sub, iN_div, iN_clamp, iN_inb, zle_N, zlt_N, zN_le, zN_lt, zN_eq, Nz_eq, mI_t, mI_f, bI_0, bI_1, bI_t, bI_f, dltT, dltF, dleT, dleF, deqT, deqF, Nat.not_lt_zero, not_true_eq_false, not_false_eq_true, true_and, and_true, false_and, and_false, or_true, true_or, false_or, or_false, and_self, if_true, if_false, Classical.not_not, Nat.add_assoc, Nat.zero_add, Nat.add_zero, bI_or, bI_True, bI_False, Bool.false_eq_true, reduceCtorEq, eq_self, gi_si, gl_si, gr_si, hn_si, hL_si, hX_si, gi_sl, gl_sl, gr_sl, hn_sl, ob_si, ar_si, ob_sl, ar_sl, ks_217_0, ks_217_1, ks_217_2, ks_217_3, oO, rO3, rO4, aO3, aO4, fN, fM, fH])
          exact hn _ _ ⟨⟨_, _, _, _, rfl⟩, by rw [ly_same hW hp (by omega)]; exact A1, f1⟩
      · (refine wp_go 600 ks_217_0.2.2.2.2.2.2.2.2.1 ?_; simp (disch := first | assumption | (simp only [ob_si, ar_si, ob_sl, ar_sl]; assumption) | omega) only [ci_0, ci_1, ci_5, inc_i, ldA_a, ldI_i, oc_213, oc_216, p_0, p_10, p_2, p_3, p_30, p_33, p_42, p_44, p_46, p_50, p_6, p_60, p_62, p_63, p_70, p_80_4, p_80_6, p_9, p_94, wpn_succ, wpn_zero, stp_h, lk_0, lk_s, st1_0, st1_1, st1_2, st2_0, st2_1, st2_2, kj_i, kj_a, kj_l, kj_n, cat_n, cat_i, cat_a, cat_u, cat_l, vc_i, vc_a, rv_s, tl_n, tl_s, Cal'_s, List.length_cons, List.length_nil, i0, i1, iNd, iN_lt, iN_le, iN_eq, iN_add, iN_mul, iN_mod, iN_sub, iN_div, iN_clamp, iN_inb, zle_N, zlt_N, zN_le, zN_lt, zN_eq, Nz_eq, mI_t, mI_f, bI_0, bI_1, bI_t, bI_f, dltT, dltF, dleT, dleF, deqT, deqF, Nat.not_lt_zero, not_true_eq_false, not_false_eq_true, true_and, and_true, false_and, and_false, or_true, true_or, false_or, or_false, and_self, if_true, if_false, Classical.not_not, Nat.add_assoc, Nat.zero_add, Nat.add_zero, bI_or, bI_True, bI_False, Bool.false_eq_true, reduceCtorEq, eq_self, gi_si, gl_si, gr_si, hn_si, hL_si, hX_si, gi_sl, gl_sl, gr_sl, hn_sl, ob_si, ar_si, ob_sl, ar_sl, ks_217_0, ks_217_1, ks_217_2, ks_217_3, oO, rO3, rO4, aO3, aO4, fN, fM, fH])
        exact hn _ _ ⟨⟨_, _, _, _, rfl⟩, by rw [ly_same hW hp (by omega)]; exact A1, f1⟩
    · rintro L h1 ⟨⟨w1, w2, w3, w4, rfl⟩, A1, f1⟩
      have B1 := f1.bs hB
      have oO := (O_facts B1).1
      have fN : gi h1 87 0 = iN (xN x) := A1.1
      (refine wp_go 600 ks_217_0.2.2.2.2.2.2.2.2.1 ?_; simp (disch := first | assumption | (simp only [ob_si, ar_si, ob_sl, ar_sl]; assumption) | omega) only [ci_0, ci_1, ci_5, inc_i, ldA_a, ldI_i, oc_213, oc_216, p_0, p_10, p_2, p_3, p_30, p_33, p_42, p_44, p_46, p_50, p_6, p_60, p_62, p_63, p_70, p_80_4, p_80_6, p_9, p_94, wpn_succ, wpn_zero, stp_h, lk_0, lk_s, st1_0, st1_1, st1_2, st2_0, st2_1, st2_2, kj_i, kj_a, kj_l, kj_n, cat_n, cat_i, cat_a, cat_u, cat_l, vc_i, vc_a, rv_s, tl_n, tl_s, Cal'_s, List.length_cons, List.length_nil, i0, i1, iNd, iN_lt, iN_le, iN_eq, iN_add, iN_mul, iN_mod, iN_sub, iN_div, iN_clamp, iN_inb, zle_N, zlt_N, zN_le, zN_lt, zN_eq, Nz_eq, mI_t, mI_f, bI_0, bI_1, bI_t, bI_f, dltT, dltF, dleT, dleF, deqT, deqF, Nat.not_lt_zero, not_true_eq_false, not_false_eq_true, true_and, and_true, false_and, and_false, or_true, true_or, false_or, or_false, and_self, if_true, if_false, Classical.not_not, Nat.add_assoc, Nat.zero_add, Nat.add_zero, bI_or, bI_True, bI_False, Bool.false_eq_true, reduceCtorEq, eq_self, gi_si, gl_si, gr_si, hn_si, hL_si, hX_si, gi_sl, gl_sl, gr_sl, hn_sl, ob_si, ar_si, ob_sl, ar_sl, ks_217_0, ks_217_1, ks_217_2, ks_217_3, oO, fN])
      exact hQ _ A1 f1
  obtain ⟨v, h', r, rfl, A, f⟩ := Ret_ex (d := 2) (y := 217) (as := [.ref 87, .int va, .int vb]) [some (.ref 87), some (.int va), some (.int vb), none, none, none, none, none] rfl rfl (key (fun v h' => v = none ∧ Ao h' (dyB x a b) ∧ Fo Sq Fq h h') fun h' a b => ⟨rfl, a, b⟩)
  exact ⟨h', r, A, f⟩
