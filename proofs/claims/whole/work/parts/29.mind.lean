/-! Mind: days that go by in mind alone -/
noncomputable def Sd : Nat → Prop := fun o => (7 ≤ o ∧ o ≤ 12) ∨ o = 19 ∨ o = 20
theorem Sk_d {h h' : Hp} (f : Fr Sk h h') : Fr Sd h h' := f.mono fun o ho => Or.inr ho
theorem Sm7_d {h h' : Hp} (f : Fr (Sm 7) h h') : Fr Sd h h' := f.mono fun o ho => Or.inl ⟨ho.1, by have := ho.2; omega⟩
theorem live7_d {h h' : Hp} (f : Fr (fun o => Sm 7 o ∨ Sk o) h h') : Fr Sd h h' := f.mono fun o ho => ho.elim (fun ho => Or.inl ⟨ho.1, by have := ho.2; omega⟩) Or.inr
theorem At1_d {h h' : Hp} {x : Mt} (hA : At h 1 x) (f : Fr Sd h h') : At h' 1 x := hA.fr f (by intro o h1 h2; unfold Sd; omega)
theorem At1_k {h h' : Hp} {x : Mt} (hA : At h 1 x) (f : Fr Sk h h') : At h' 1 x := At1_d hA (Sk_d f)
theorem At7_k {h h' : Hp} {x : Mt} (hA : At h 7 x) (f : Fr Sk h h') : At h' 7 x := hA.fr f (by intro o h1 h2; unfold Sk; omega)
noncomputable def qbN (x : Mt) (i j n : Nat) : Nat := if xM x i = j then rp (dyN (kpx x i j)) n (xQ x i j) else xQ x i j
theorem qbN_b {x : Mt} (hW : Wf x) (i j n : Nat) : qbN x i j n ≤ 99 := by
  have := hW.2.2.2.2.2.1 i j
  unfold qbN
  split
  · exact rp_dy this n
  · exact this
theorem d_behind {h : Hp} {i j n : Nat} {x : Mt} (hB : Bs h) (hA : At h 1 x) (hW : Wf x) (hi : i < xN x) (hj : j < 6) (hn : n ≤ 99) : ∃ h', Ret 4 58 [.ref 22, .int (iN i), .int (iN j), .int (iN n)] h (some (.int (iN (qbN x i j n)))) h' ∧ Fr Sd h h' := by
  have oD : ob h 22 4 := hB.ob (by decide) (by decide); have rD0 : gr h 22 0 = some 1 := hB.r (by decide); have rD1 : gr h 22 1 = some 7 := hB.r (by decide); have rD2 : gr h 22 2 = some 19 := hB.r (by decide); have oK : ob h 19 1 := hB.ob (by decide) (by decide); have hm : isM 1 := Or.inl rfl; have h7 : isM 7 := Or.inr (Or.inl rfl); obtain ⟨oM, rM0, rM1, rM2, rM3, rM4, aM1, aM2, aM3, aM4, aM5, sM1, sM2, sM3, sM4, sM5⟩ := M_facts hm hB; obtain ⟨wN, wK, wF, wH, wM, wQ, wS, wZ, wT⟩ := id hW; have o7 : ob h 7 3 := hB.ob (by decide) (by decide)
  have hq := wQ i j
  by_cases hc : xM x i = j
  · obtain ⟨h1, r1, K1, f1⟩ := w_take (i := i) (j := j) hm hB hA hW (by omega) hj
    have o1 := (K_facts (f1.bs hB)).1
    have oD1 : ob h1 22 4 := (f1.bs hB).ob (by decide) (by decide)
    have rD1' : gr h1 22 2 = some 19 := (f1.bs hB).r (by decide)
    refine ⟨h1, ?_, Sk_d f1⟩
    refine Ret_L [some (.ref 22), some (.int (iN i)), some (.int (iN j)), some (.int (iN n)), none] rfl rfl fun Q hQ => ?_
    rw [qbN, if_pos hc] at hQ
    (refine wp_go 600 ks_58_0.1 ?_; simp (disch := first | assumption | (simp only [ob_si, ar_si, ob_sl, ar_sl]; assumption) | omega) only [ldA_a, ldI_i, oc_12, oc_36, oc_41, oc_7, p_0, p_2, p_3, p_32, p_62, p_80_3, p_80_4, p_90, wpn_succ, wpn_zero, stp_h, lk_0, lk_s, st1_0, st1_1, st1_2, st2_0, st2_1, st2_2, kj_i, kj_a, kj_l, kj_n, cat_n, cat_i, cat_a, cat_u, cat_l, vc_i, vc_a, rv_s, tl_n, tl_s, Cal'_s, List.length_cons, List.length_nil, i0, i1, iNd, iN_lt, iN_le, iN_eq, iN_add, iN_mul, iN_mod, iN_sub, iN_div, iN_clamp, iN_inb, zle_N, zlt_N, zN_le, zN_lt, zN_eq, Nz_eq, mI_t, mI_f, bI_0, bI_1, bI_t, bI_f, dltT, dltF, dleT, dleF, deqT, deqF, Nat.not_lt_zero, not_true_eq_false, not_false_eq_true, true_and, and_true, false_and, and_false, or_true, true_or, false_or, or_false, and_self, if_true, if_false, Classical.not_not, Nat.add_assoc, Nat.zero_add, Nat.add_zero, bI_or, bI_True, bI_False, Bool.false_eq_true, reduceCtorEq, eq_self, gi_si, gl_si, gr_si, hn_si, hL_si, hX_si, gi_sl, gl_sl, gr_sl, hn_sl, ob_si, ar_si, ob_sl, ar_sl, ks_58_0, ks_58_1, oD, rD0, rD1, rD2, oK, o7, oM, c_quar_q hm hB hA hW, c_onMat_q hm hB hA hW, hc, Cal_eq r1, o1, oD1, rD1', k_days_q (f1.bs hB) K1 (kb_x hW _ _)])
    exact hQ
  · refine ⟨h, ?_, Fr.rf _ h⟩
    refine Ret_L [some (.ref 22), some (.int (iN i)), some (.int (iN j)), some (.int (iN n)), none] rfl rfl fun Q hQ => ?_
    rw [qbN, if_neg hc] at hQ
    (refine wp_go 600 ks_58_0.1 ?_; simp (disch := first | assumption | (simp only [ob_si, ar_si, ob_sl, ar_sl]; assumption) | omega) only [ldA_a, ldI_i, oc_12, oc_36, oc_41, oc_7, p_0, p_2, p_3, p_32, p_62, p_80_3, p_80_4, p_90, wpn_succ, wpn_zero, stp_h, lk_0, lk_s, st1_0, st1_1, st1_2, st2_0, st2_1, st2_2, kj_i, kj_a, kj_l, kj_n, cat_n, cat_i, cat_a, cat_u, cat_l, vc_i, vc_a, rv_s, tl_n, tl_s, Cal'_s, List.length_cons, List.length_nil, i0, i1, iNd, iN_lt, iN_le, iN_eq, iN_add, iN_mul, iN_mod, iN_sub, iN_div, iN_clamp, iN_inb, zle_N, zlt_N, zN_le, zN_lt, zN_eq, Nz_eq, mI_t, mI_f, bI_0, bI_1, bI_t, bI_f, dltT, dltF, dleT, dleF, deqT, deqF, Nat.not_lt_zero, not_true_eq_false, not_false_eq_true, true_and, and_true, false_and, and_false, or_true, true_or, false_or, or_false, and_self, if_true, if_false, Classical.not_not, Nat.add_assoc, Nat.zero_add, Nat.add_zero, bI_or, bI_True, bI_False, Bool.false_eq_true, reduceCtorEq, eq_self, gi_si, gl_si, gr_si, hn_si, hL_si, hX_si, gi_sl, gl_sl, gr_sl, hn_sl, ob_si, ar_si, ob_sl, ar_sl, ks_58_0, ks_58_1, oD, rD0, rD1, rD2, oK, o7, oM, c_quar_q hm hB hA hW, c_onMat_q hm hB hA hW, hc])
    exact hQ
/-- the draft behind n days -/
theorem d_draft {h : Hp} {n : Nat} {x : Mt} (hB : Bs h) (hA : At h 1 x) (hW : Wf x) (hn : n ≤ 99) : ∃ h1 h2, Ret 1 21 [.ref 7, .ref 1] h none h1 ∧ Bs h1 ∧ Ret 4 50 [.ref 7, .int (iN n), .ref 19] h1 none h2 ∧ Bs h2 ∧ At h2 7 (dayM x n) ∧ Fr Sd h h2 := by
  have hm : isM 1 := Or.inl rfl
  have h7 : isM 7 := Or.inr (Or.inl rfl)
  obtain ⟨h1, r1, A1, f1⟩ := w_copy (m := 7) (p := 1) h7 hm (by omega) hB hA
  obtain ⟨h2, r2, A2, f2⟩ := w_live (m := 7) (n := n) h7 (f1.bs hB) A1 hW (by omega)
  exact ⟨h1, h2, r1, f1.bs hB, r2, f2.bs (f1.bs hB), A2, (Sm7_d f1).tr (live7_d f2)⟩
theorem d_allQ {h : Hp} {n : Nat} {x : Mt} (hB : Bs h) (hA : At h 1 x) (hW : Wf x) (hn : n ≤ 99) : ∃ h', Ret 5 59 [.ref 22, .int (iN n)] h (some (.int (iN (allQ (dayM x n))))) h' ∧ Fr Sd h h' := by
  have oD : ob h 22 4 := hB.ob (by decide) (by decide); have rD0 : gr h 22 0 = some 1 := hB.r (by decide); have rD1 : gr h 22 1 = some 7 := hB.r (by decide); have rD2 : gr h 22 2 = some 19 := hB.r (by decide); have oK : ob h 19 1 := hB.ob (by decide) (by decide); have hm : isM 1 := Or.inl rfl; have h7 : isM 7 := Or.inr (Or.inl rfl); obtain ⟨oM, rM0, rM1, rM2, rM3, rM4, aM1, aM2, aM3, aM4, aM5, sM1, sM2, sM3, sM4, sM5⟩ := M_facts hm hB; obtain ⟨wN, wK, wF, wH, wM, wQ, wS, wZ, wT⟩ := id hW; have o7 : ob h 7 3 := hB.ob (by decide) (by decide)
  obtain ⟨h1, h2, r1, B1, r2, B2, A2, f⟩ := d_draft hB hA hW hn
  refine ⟨h2, ?_, f⟩
  have o71 : ob h1 7 3 := B1.ob (by decide) (by decide)
  have oD1 : ob h1 22 4 := B1.ob (by decide) (by decide)
  have q1 : gr h1 22 1 = some 7 := B1.r (by decide)
  have q2 : gr h1 22 2 = some 19 := B1.r (by decide)
  have o72 : ob h2 7 3 := B2.ob (by decide) (by decide)
  have oD2 : ob h2 22 4 := B2.ob (by decide) (by decide)
  have q3 : gr h2 22 1 = some 7 := B2.r (by decide)
  refine Ret_L [some (.ref 22), some (.int (iN n))] rfl rfl fun Q hQ => ?_
  (refine wp_go 600 ks_59_0.1 ?_; simp (disch := first | assumption | (simp only [ob_si, ar_si, ob_sl, ar_sl]; assumption) | omega) only [ldA_a, ldI_i, oc_21, oc_47, oc_50, p_0, p_2, p_62, p_80_1, p_80_2, p_80_3, p_90, wpn_succ, wpn_zero, stp_h, lk_0, lk_s, st1_0, st1_1, st1_2, st2_0, st2_1, st2_2, kj_i, kj_a, kj_l, kj_n, cat_n, cat_i, cat_a, cat_u, cat_l, vc_i, vc_a, rv_s, tl_n, tl_s, Cal'_s, List.length_cons, List.length_nil, i0, i1, iNd, iN_lt, iN_le, iN_eq, iN_add, iN_mul, iN_mod, iN_sub, iN_div, iN_clamp, iN_inb, zle_N, zlt_N, zN_le, zN_lt, zN_eq, Nz_eq, mI_t, mI_f, bI_0, bI_1, bI_t, bI_f, dltT, dltF, dleT, dleF, deqT, deqF, Nat.not_lt_zero, not_true_eq_false, not_false_eq_true, true_and, and_true, false_and, and_false, or_true, true_or, false_or, or_false, and_self, if_true, if_false, Classical.not_not, Nat.add_assoc, Nat.zero_add, Nat.add_zero, bI_or, bI_True, bI_False, Bool.false_eq_true, reduceCtorEq, eq_self, gi_si, gl_si, gr_si, hn_si, hL_si, hX_si, gi_sl, gl_sl, gr_sl, hn_sl, ob_si, ar_si, ob_sl, ar_sl, ks_59_0, oD, rD0, rD1, rD2, oK, o7, Cal_eq r1, Cal_eq r2, o71, oD1, q1, q2, o72, oD2, q3, c_allQ_q h7 B2 A2 (wf_day hW n)])
  exact hQ
theorem d_zerQ {h : Hp} {n : Nat} {x : Mt} (hB : Bs h) (hA : At h 1 x) (hW : Wf x) (hn : n ≤ 99) : ∃ h', Ret 5 60 [.ref 22, .int (iN n)] h (some (.int (iN (zerQ (dayM x n))))) h' ∧ Fr Sd h h' := by
  have oD : ob h 22 4 := hB.ob (by decide) (by decide); have rD0 : gr h 22 0 = some 1 := hB.r (by decide); have rD1 : gr h 22 1 = some 7 := hB.r (by decide); have rD2 : gr h 22 2 = some 19 := hB.r (by decide); have oK : ob h 19 1 := hB.ob (by decide) (by decide); have hm : isM 1 := Or.inl rfl; have h7 : isM 7 := Or.inr (Or.inl rfl); obtain ⟨oM, rM0, rM1, rM2, rM3, rM4, aM1, aM2, aM3, aM4, aM5, sM1, sM2, sM3, sM4, sM5⟩ := M_facts hm hB; obtain ⟨wN, wK, wF, wH, wM, wQ, wS, wZ, wT⟩ := id hW; have o7 : ob h 7 3 := hB.ob (by decide) (by decide)
  obtain ⟨h1, h2, r1, B1, r2, B2, A2, f⟩ := d_draft hB hA hW hn
  refine ⟨h2, ?_, f⟩
  have o71 : ob h1 7 3 := B1.ob (by decide) (by decide)
  have oD1 : ob h1 22 4 := B1.ob (by decide) (by decide)
  have q1 : gr h1 22 1 = some 7 := B1.r (by decide)
  have q2 : gr h1 22 2 = some 19 := B1.r (by decide)
  have o72 : ob h2 7 3 := B2.ob (by decide) (by decide)
  have oD2 : ob h2 22 4 := B2.ob (by decide) (by decide)
  have q3 : gr h2 22 1 = some 7 := B2.r (by decide)
  refine Ret_L [some (.ref 22), some (.int (iN n))] rfl rfl fun Q hQ => ?_
  (refine wp_go 600 ks_60_0.1 ?_; simp (disch := first | assumption | (simp only [ob_si, ar_si, ob_sl, ar_sl]; assumption) | omega) only [ldA_a, ldI_i, oc_21, oc_48, oc_50, p_0, p_2, p_62, p_80_1, p_80_2, p_80_3, p_90, wpn_succ, wpn_zero, stp_h, lk_0, lk_s, st1_0, st1_1, st1_2, st2_0, st2_1, st2_2, kj_i, kj_a, kj_l, kj_n, cat_n, cat_i, cat_a, cat_u, cat_l, vc_i, vc_a, rv_s, tl_n, tl_s, Cal'_s, List.length_cons, List.length_nil, i0, i1, iNd, iN_lt, iN_le, iN_eq, iN_add, iN_mul, iN_mod, iN_sub, iN_div, iN_clamp, iN_inb, zle_N, zlt_N, zN_le, zN_lt, zN_eq, Nz_eq, mI_t, mI_f, bI_0, bI_1, bI_t, bI_f, dltT, dltF, dleT, dleF, deqT, deqF, Nat.not_lt_zero, not_true_eq_false, not_false_eq_true, true_and, and_true, false_and, and_false, or_true, true_or, false_or, or_false, and_self, if_true, if_false, Classical.not_not, Nat.add_assoc, Nat.zero_add, Nat.add_zero, bI_or, bI_True, bI_False, Bool.false_eq_true, reduceCtorEq, eq_self, gi_si, gl_si, gr_si, hn_si, hL_si, hX_si, gi_sl, gl_sl, gr_sl, hn_sl, ob_si, ar_si, ob_sl, ar_sl, ks_60_0, oD, rD0, rD1, rD2, oK, o7, Cal_eq r1, Cal_eq r2, o71, oD1, q1, q2, o72, oD2, q3, c_zerQ_q h7 B2 A2 (wf_day hW n)])
  exact hQ
theorem d_law {h : Hp} {n : Nat} {x : Mt} (hB : Bs h) (hA : At h 1 x) (hW : Wf x) (hn : n ≤ 99) : ∃ h', Ret 5 61 [.ref 22, .int (iN n)] h (some (.int (wtA (wtN (dayM x n))))) h' ∧ Fr Sd h h' := by
  have oD : ob h 22 4 := hB.ob (by decide) (by decide); have rD0 : gr h 22 0 = some 1 := hB.r (by decide); have rD1 : gr h 22 1 = some 7 := hB.r (by decide); have rD2 : gr h 22 2 = some 19 := hB.r (by decide); have oK : ob h 19 1 := hB.ob (by decide) (by decide); have hm : isM 1 := Or.inl rfl; have h7 : isM 7 := Or.inr (Or.inl rfl); obtain ⟨oM, rM0, rM1, rM2, rM3, rM4, aM1, aM2, aM3, aM4, aM5, sM1, sM2, sM3, sM4, sM5⟩ := M_facts hm hB; obtain ⟨wN, wK, wF, wH, wM, wQ, wS, wZ, wT⟩ := id hW; have o7 : ob h 7 3 := hB.ob (by decide) (by decide)
  obtain ⟨h1, h2, r1, B1, r2, B2, A2, f⟩ := d_draft hB hA hW hn
  refine ⟨h2, ?_, f⟩
  have o71 : ob h1 7 3 := B1.ob (by decide) (by decide)
  have oD1 : ob h1 22 4 := B1.ob (by decide) (by decide)
  have q1 : gr h1 22 1 = some 7 := B1.r (by decide)
  have q2 : gr h1 22 2 = some 19 := B1.r (by decide)
  have o72 : ob h2 7 3 := B2.ob (by decide) (by decide)
  have oD2 : ob h2 22 4 := B2.ob (by decide) (by decide)
  have q3 : gr h2 22 1 = some 7 := B2.r (by decide)
  have W2 := wf_day hW n
  refine Ret_L [some (.ref 22), some (.int (iN n)), none, none, none, none] rfl rfl fun Q hQ => ?_
  (refine wp_go 600 ks_61_0.1 ?_; simp (disch := first | assumption | (simp only [ob_si, ar_si, ob_sl, ar_sl]; assumption) | omega) only [ci_0, ci_1, cm_1, cm_9, inc_i, ldA_a, ldI_i, oc_21, oc_22, oc_36, oc_50, p_0, p_10, p_2, p_3, p_30, p_44, p_45, p_6, p_62, p_80_1, p_80_2, p_80_3, p_81_2, p_9, p_90, wpn_succ, wpn_zero, stp_h, lk_0, lk_s, st1_0, st1_1, st1_2, st2_0, st2_1, st2_2, kj_i, kj_a, kj_l, kj_n, cat_n, cat_i, cat_a, cat_u, cat_l, vc_i, vc_a, rv_s, tl_n, tl_s, Cal'_s, List.length_cons, List.length_nil, i0, i1, iNd, iN_lt, iN_le, iN_eq, iN_add, iN_mul, iN_mod, iN_sub, iN_div, iN_clamp, iN_inb, zle_N, zlt_N, zN_le, zN_lt, zN_eq, Nz_eq, mI_t, mI_f, bI_0, bI_1, bI_t, bI_f, dltT, dltF, dleT, dleF, deqT, deqF, Nat.not_lt_zero, not_true_eq_false, not_false_eq_true, true_and, and_true, false_and, and_false, or_true, true_or, false_or, or_false, and_self, if_true, if_false, Classical.not_not, Nat.add_assoc, Nat.zero_add, Nat.add_zero, bI_or, bI_True, bI_False, Bool.false_eq_true, reduceCtorEq, eq_self, gi_si, gl_si, gr_si, hn_si, hL_si, hX_si, gi_sl, gl_sl, gr_sl, hn_sl, ob_si, ar_si, ob_sl, ar_sl, ks_61_0, ks_61_1, ks_61_2, oD, rD0, rD1, rD2, oK, o7, Cal_eq r1, Cal_eq r2, o71, oD1, q1, q2])
  generalize dayM x n = y at *
  have wN2 := W2.1
  have wQ2 := W2.2.2.2.2.2.1
  clear r2
  refine wp_loop (fun i L h' => h' = h2 ∧ ∃ a w, wtP a ∧ itr (fun i a => itr (fun j a => wtS y i j a) (i + 1) (xN y - (i + 1)) a) i (xN y - i) a = wtN y ∧ L = [some (.ref 22), some (.int (iN n)), some (.int (wtA a)), some (.int (wtG a)), some (.int (iN i)), w]) (xN y) ?_ ?_ (xN y) 0 _ h2 (by omega) ⟨rfl, none, none, (fun b g e => (by cases e)), rfl, rfl⟩
  · rintro i L h' hi ⟨rfl, a, w, ha, he, rfl⟩ hn
    (refine wp_go 600 ks_61_0.2.2.2.2.2.2.2.2.2.2.2.2.2.2.2.2.2.1 ?_; simp (disch := first | assumption | (simp only [ob_si, ar_si, ob_sl, ar_sl]; assumption) | omega) only [ci_0, ci_1, cm_1, cm_9, inc_i, ldA_a, ldI_i, oc_21, oc_22, oc_36, oc_50, p_0, p_10, p_2, p_3, p_30, p_44, p_45, p_6, p_62, p_80_1, p_80_2, p_80_3, p_81_2, p_9, p_90, wpn_succ, wpn_zero, stp_h, lk_0, lk_s, st1_0, st1_1, st1_2, st2_0, st2_1, st2_2, kj_i, kj_a, kj_l, kj_n, cat_n, cat_i, cat_a, cat_u, cat_l, vc_i, vc_a, rv_s, tl_n, tl_s, Cal'_s, List.length_cons, List.length_nil, i0, i1, iNd, iN_lt, iN_le, iN_eq, iN_add, iN_mul, iN_mod, iN_sub, iN_div, iN_clamp, iN_inb, zle_N, zlt_N, zN_le, zN_lt, zN_eq, Nz_eq, mI_t, mI_f, bI_0, bI_1, bI_t, bI_f, dltT, dltF, dleT, dleF, deqT, deqF, Nat.not_lt_zero, not_true_eq_false, not_false_eq_true, true_and, and_true, false_and, and_false, or_true, true_or, false_or, or_false, and_self, if_true, if_false, Classical.not_not, Nat.add_assoc, Nat.zero_add, Nat.add_zero, bI_or, bI_True, bI_False, Bool.false_eq_true, reduceCtorEq, eq_self, gi_si, gl_si, gr_si, hn_si, hL_si, hX_si, gi_sl, gl_sl, gr_sl, hn_sl, ob_si, ar_si, ob_sl, ar_sl, ks_61_0, ks_61_1, ks_61_2, oD2, q3, o72, c_people_q h7 B2 A2 W2])
    refine wp_loop (fun j L h2 => h2 = h' ∧ ∃ a, wtP a ∧ itr (fun i a => itr (fun j a => wtS y i j a) (i + 1) (xN y - (i + 1)) a) (i + 1) (xN y - (i + 1)) (itr (fun j a => wtS y i j a) j (xN y - j) a) = wtN y ∧ L = [some (.ref 22), some (.int (iN n)), some (.int (wtA a)), some (.int (wtG a)), some (.int (iN i)), some (.int (iN j))]) (xN y) ?_ ?_ (xN y - (i + 1)) (i + 1) _ h' (by omega) ⟨rfl, a, ha, ?_, rfl⟩
    · rintro j L h2 hj ⟨rfl, a, ha, he, rfl⟩ hn2
      have hq := wQ2 i j
      rw [show xN y - j = xN y - (j + 1) + 1 by omega, itr_s] at he
      have hp := wtS_P W2 (i := i) (j := j) ha
      cases a with
      | none =>
        simp only [wtA, wtG]
        (refine wp_go 600 ks_61_1.2.2.1 ?_; simp (disch := first | assumption | (simp only [ob_si, ar_si, ob_sl, ar_sl]; assumption) | omega) only [ci_0, ci_1, cm_1, cm_9, inc_i, ldA_a, ldI_i, oc_21, oc_22, oc_36, oc_50, p_0, p_10, p_2, p_3, p_30, p_44, p_45, p_6, p_62, p_80_1, p_80_2, p_80_3, p_81_2, p_9, p_90, wpn_succ, wpn_zero, stp_h, lk_0, lk_s, st1_0, st1_1, st1_2, st2_0, st2_1, st2_2, kj_i, kj_a, kj_l, kj_n, cat_n, cat_i, cat_a, cat_u, cat_l, vc_i, vc_a, rv_s, tl_n, tl_s, Cal'_s, List.length_cons, List.length_nil, i0, i1, iNd, iN_lt, iN_le, iN_eq, iN_add, iN_mul, iN_mod, iN_sub, iN_div, iN_clamp, iN_inb, zle_N, zlt_N, zN_le, zN_lt, zN_eq, Nz_eq, mI_t, mI_f, bI_0, bI_1, bI_t, bI_f, dltT, dltF, dleT, dleF, deqT, deqF, Nat.not_lt_zero, not_true_eq_false, not_false_eq_true, true_and, and_true, false_and, and_false, or_true, true_or, false_or, or_false, and_self, if_true, if_false, Classical.not_not, Nat.add_assoc, Nat.zero_add, Nat.add_zero, bI_or, bI_True, bI_False, Bool.false_eq_true, reduceCtorEq, eq_self, gi_si, gl_si, gr_si, hn_si, hL_si, hX_si, gi_sl, gl_sl, gr_sl, hn_sl, ob_si, ar_si, ob_sl, ar_sl, ks_61_0, ks_61_1, ks_61_2, oD2, q3, o72, c_people_q h7 B2 A2 W2, c_quar_q h7 B2 A2 W2, c_two_q trivial])
        exact hn2 _ _ ⟨rfl, _, hp, he, rfl⟩
      | some z =>
        obtain ⟨b, g⟩ := z
        have hg := ha b g rfl
        simp only [wtA, wtG]
        by_cases hc : g < xQ y i j
        · (refine wp_go 600 ks_61_1.2.2.1 ?_; simp (disch := first | assumption | (simp only [ob_si, ar_si, ob_sl, ar_sl]; assumption) | omega) only [ci_0, ci_1, cm_1, cm_9, inc_i, ldA_a, ldI_i, oc_21, oc_22, oc_36, oc_50, p_0, p_10, p_2, p_3, p_30, p_44, p_45, p_6, p_62, p_80_1, p_80_2, p_80_3, p_81_2, p_9, p_90, wpn_succ, wpn_zero, stp_h, lk_0, lk_s, st1_0, st1_1, st1_2, st2_0, st2_1, st2_2, kj_i, kj_a, kj_l, kj_n, cat_n, cat_i, cat_a, cat_u, cat_l, vc_i, vc_a, rv_s, tl_n, tl_s, Cal'_s, List.length_cons, List.length_nil, i0, i1, iNd, iN_lt, iN_le, iN_eq, iN_add, iN_mul, iN_mod, iN_sub, iN_div, iN_clamp, iN_inb, zle_N, zlt_N, zN_le, zN_lt, zN_eq, Nz_eq, mI_t, mI_f, bI_0, bI_1, bI_t, bI_f, dltT, dltF, dleT, dleF, deqT, deqF, Nat.not_lt_zero, not_true_eq_false, not_false_eq_true, true_and, and_true, false_and, and_false, or_true, true_or, false_or, or_false, and_self, if_true, if_false, Classical.not_not, Nat.add_assoc, Nat.zero_add, Nat.add_zero, bI_or, bI_True, bI_False, Bool.false_eq_true, reduceCtorEq, eq_self, gi_si, gl_si, gr_si, hn_si, hL_si, hX_si, gi_sl, gl_sl, gr_sl, hn_sl, ob_si, ar_si, ob_sl, ar_sl, ks_61_0, ks_61_1, ks_61_2, oD2, q3, o72, c_people_q h7 B2 A2 W2, c_quar_q h7 B2 A2 W2, c_two_q trivial])
          exact hn2 _ _ ⟨rfl, some (10 * i + j, xQ y i j), by simp only [wtS, if_pos hc] at hp; exact hp, by simp only [wtS, if_pos hc] at he; exact he, rfl⟩
        · (refine wp_go 600 ks_61_1.2.2.1 ?_; simp (disch := first | assumption | (simp only [ob_si, ar_si, ob_sl, ar_sl]; assumption) | omega) only [ci_0, ci_1, cm_1, cm_9, inc_i, ldA_a, ldI_i, oc_21, oc_22, oc_36, oc_50, p_0, p_10, p_2, p_3, p_30, p_44, p_45, p_6, p_62, p_80_1, p_80_2, p_80_3, p_81_2, p_9, p_90, wpn_succ, wpn_zero, stp_h, lk_0, lk_s, st1_0, st1_1, st1_2, st2_0, st2_1, st2_2, kj_i, kj_a, kj_l, kj_n, cat_n, cat_i, cat_a, cat_u, cat_l, vc_i, vc_a, rv_s, tl_n, tl_s, Cal'_s, List.length_cons, List.length_nil, i0, i1, iNd, iN_lt, iN_le, iN_eq, iN_add, iN_mul, iN_mod, iN_sub, iN_div, iN_clamp, iN_inb, zle_N, zlt_N, zN_le, zN_lt, zN_eq, Nz_eq, mI_t, mI_f, bI_0, bI_1, bI_t, bI_f, dltT, dltF, dleT, dleF, deqT, deqF, Nat.not_lt_zero, not_true_eq_false, not_false_eq_true, true_and, and_true, false_and, and_false, or_true, true_or, false_or, or_false, and_self, if_true, if_false, Classical.not_not, Nat.add_assoc, Nat.zero_add, Nat.add_zero, bI_or, bI_True, bI_False, Bool.false_eq_true, reduceCtorEq, eq_self, gi_si, gl_si, gr_si, hn_si, hL_si, hX_si, gi_sl, gl_sl, gr_sl, hn_sl, ob_si, ar_si, ob_sl, ar_sl, ks_61_0, ks_61_1, ks_61_2, oD2, q3, o72, c_people_q h7 B2 A2 W2, c_quar_q h7 B2 A2 W2])
          exact hn2 _ _ ⟨rfl, some (b, g), ha, by simp only [wtS, if_neg hc] at he; exact he, rfl⟩
    · rintro L h2 ⟨rfl, a, ha, he, rfl⟩
      rw [Nat.sub_self, itr_0] at he
      (refine wp_go 600 ks_61_1.2.2.1 ?_; simp (disch := first | assumption | (simp only [ob_si, ar_si, ob_sl, ar_sl]; assumption) | omega) only [ci_0, ci_1, cm_1, cm_9, inc_i, ldA_a, ldI_i, oc_21, oc_22, oc_36, oc_50, p_0, p_10, p_2, p_3, p_30, p_44, p_45, p_6, p_62, p_80_1, p_80_2, p_80_3, p_81_2, p_9, p_90, wpn_succ, wpn_zero, stp_h, lk_0, lk_s, st1_0, st1_1, st1_2, st2_0, st2_1, st2_2, kj_i, kj_a, kj_l, kj_n, cat_n, cat_i, cat_a, cat_u, cat_l, vc_i, vc_a, rv_s, tl_n, tl_s, Cal'_s, List.length_cons, List.length_nil, i0, i1, iNd, iN_lt, iN_le, iN_eq, iN_add, iN_mul, iN_mod, iN_sub, iN_div, iN_clamp, iN_inb, zle_N, zlt_N, zN_le, zN_lt, zN_eq, Nz_eq, mI_t, mI_f, bI_0, bI_1, bI_t, bI_f, dltT, dltF, dleT, dleF, deqT, deqF, Nat.not_lt_zero, not_true_eq_false, not_false_eq_true, true_and, and_true, false_and, and_false, or_true, true_or, false_or, or_false, and_self, if_true, if_false, Classical.not_not, Nat.add_assoc, Nat.zero_add, Nat.add_zero, bI_or, bI_True, bI_False, Bool.false_eq_true, reduceCtorEq, eq_self, gi_si, gl_si, gr_si, hn_si, hL_si, hX_si, gi_sl, gl_sl, gr_sl, hn_sl, ob_si, ar_si, ob_sl, ar_sl, ks_61_0, ks_61_1, ks_61_2, oD2, q3, o72, c_people_q h7 B2 A2 W2])
      exact hn _ _ ⟨rfl, a, _, ha, he, rfl⟩
    · rw [show xN y - i = xN y - (i + 1) + 1 by omega, itr_s] at he; exact he
  · rintro L h' ⟨rfl, a, w, ha, he, rfl⟩
    rw [Nat.sub_self, itr_0] at he
    rw [he]
    (refine wp_go 600 ks_61_0.2.2.2.2.2.2.2.2.2.2.2.2.2.2.2.2.2.1 ?_; simp (disch := first | assumption | (simp only [ob_si, ar_si, ob_sl, ar_sl]; assumption) | omega) only [ci_0, ci_1, cm_1, cm_9, inc_i, ldA_a, ldI_i, oc_21, oc_22, oc_36, oc_50, p_0, p_10, p_2, p_3, p_30, p_44, p_45, p_6, p_62, p_80_1, p_80_2, p_80_3, p_81_2, p_9, p_90, wpn_succ, wpn_zero, stp_h, lk_0, lk_s, st1_0, st1_1, st1_2, st2_0, st2_1, st2_2, kj_i, kj_a, kj_l, kj_n, cat_n, cat_i, cat_a, cat_u, cat_l, vc_i, vc_a, rv_s, tl_n, tl_s, Cal'_s, List.length_cons, List.length_nil, i0, i1, iNd, iN_lt, iN_le, iN_eq, iN_add, iN_mul, iN_mod, iN_sub, iN_div, iN_clamp, iN_inb, zle_N, zlt_N, zN_le, zN_lt, zN_eq, Nz_eq, mI_t, mI_f, bI_0, bI_1, bI_t, bI_f, dltT, dltF, dleT, dleF, deqT, deqF, Nat.not_lt_zero, not_true_eq_false, not_false_eq_true, true_and, and_true, false_and, and_false, or_true, true_or, false_or, or_false, and_self, if_true, if_false, Classical.not_not, Nat.add_assoc, Nat.zero_add, Nat.add_zero, bI_or, bI_True, bI_False, Bool.false_eq_true, reduceCtorEq, eq_self, gi_si, gl_si, gr_si, hn_si, hL_si, hX_si, gi_sl, gl_sl, gr_sl, hn_sl, ob_si, ar_si, ob_sl, ar_sl, ks_61_0, ks_61_1, ks_61_2, oD2, q3, o72, c_people_q h7 B2 A2 W2])
    exact hQ
noncomputable def fm1O (x : Mt) (i j : Nat) : Option Nat := fmO (dyN (kpx x i j)) (xQ x i j)
noncomputable def fmdO (x : Mt) (i j : Nat) : Option Nat := if xM x i = j then fm1O x i j else if xQ x i j = 0 then some 0 else none
theorem d_mend1 {h : Hp} {i j : Nat} {x : Mt} (hB : Bs h) (hA : At h 1 x) (hW : Wf x) (hi : i < 6) (hj : j < 6) : ∃ h', Ret 4 63 [.ref 22, .int (iN i), .int (iN j)] h (some (.int (oI (fm1O x i j)))) h' ∧ Fr Sk h h' := by
  have oD : ob h 22 4 := hB.ob (by decide) (by decide); have rD0 : gr h 22 0 = some 1 := hB.r (by decide); have rD1 : gr h 22 1 = some 7 := hB.r (by decide); have rD2 : gr h 22 2 = some 19 := hB.r (by decide); have oK : ob h 19 1 := hB.ob (by decide) (by decide); have hm : isM 1 := Or.inl rfl; have h7 : isM 7 := Or.inr (Or.inl rfl); obtain ⟨oM, rM0, rM1, rM2, rM3, rM4, aM1, aM2, aM3, aM4, aM5, sM1, sM2, sM3, sM4, sM5⟩ := M_facts hm hB; obtain ⟨wN, wK, wF, wH, wM, wQ, wS, wZ, wT⟩ := id hW; have o7 : ob h 7 3 := hB.ob (by decide) (by decide)
  have hq := wQ i j
  obtain ⟨h1, r1, K1, f1⟩ := w_take (i := i) (j := j) hm hB hA hW hi hj
  have B1 := f1.bs hB
  have o1 := (K_facts B1).1
  have A1 := At1_k hA f1
  have oD1 : ob h1 22 4 := B1.ob (by decide) (by decide)
  have q0 : gr h1 22 0 = some 1 := B1.r (by decide)
  have q2 : gr h1 22 2 = some 19 := B1.r (by decide)
  have o11 : ob h1 1 3 := B1.ob (by decide) (by decide)
  refine ⟨h1, ?_, f1⟩
  refine Ret_L [some (.ref 22), some (.int (iN i)), some (.int (iN j))] rfl rfl fun Q hQ => ?_
  (refine wp_go 600 ks_63_0.1 ?_; simp (disch := first | assumption | (simp only [ob_si, ar_si, ob_sl, ar_sl]; assumption) | omega) only [ldA_a, ldI_i, oc_13, oc_36, oc_7, p_0, p_2, p_62, p_80_2, p_80_3, p_80_4, p_90, wpn_succ, wpn_zero, stp_h, lk_0, lk_s, st1_0, st1_1, st1_2, st2_0, st2_1, st2_2, kj_i, kj_a, kj_l, kj_n, cat_n, cat_i, cat_a, cat_u, cat_l, vc_i, vc_a, rv_s, tl_n, tl_s, Cal'_s, List.length_cons, List.length_nil, i0, i1, iNd, iN_lt, iN_le, iN_eq, iN_add, iN_mul, iN_mod, iN_sub, iN_div, iN_clamp, iN_inb, zle_N, zlt_N, zN_le, zN_lt, zN_eq, Nz_eq, mI_t, mI_f, bI_0, bI_1, bI_t, bI_f, dltT, dltF, dleT, dleF, deqT, deqF, Nat.not_lt_zero, not_true_eq_false, not_false_eq_true, true_and, and_true, false_and, and_false, or_true, true_or, false_or, or_false, and_self, if_true, if_false, Classical.not_not, Nat.add_assoc, Nat.zero_add, Nat.add_zero, bI_or, bI_True, bI_False, Bool.false_eq_true, reduceCtorEq, eq_self, gi_si, gl_si, gr_si, hn_si, hL_si, hX_si, gi_sl, gl_sl, gr_sl, hn_sl, ob_si, ar_si, ob_sl, ar_sl, ks_63_0, oD, rD0, rD1, rD2, oK, o7, oM, Cal_eq r1, o1, oD1, q0, q2, o11, c_quar_q hm B1 A1 hW, k_mend_q B1 K1 (kb_x hW _ _)])
  exact hQ
theorem d_mend {h : Hp} {i j : Nat} {x : Mt} (hB : Bs h) (hA : At h 1 x) (hW : Wf x) (hi : i < xN x) (hj : j < 6) : ∃ h', Ret 5 62 [.ref 22, .int (iN i), .int (iN j)] h (some (.int (oI (fmdO x i j)))) h' ∧ Fr Sd h h' := by
  have oD : ob h 22 4 := hB.ob (by decide) (by decide); have rD0 : gr h 22 0 = some 1 := hB.r (by decide); have rD1 : gr h 22 1 = some 7 := hB.r (by decide); have rD2 : gr h 22 2 = some 19 := hB.r (by decide); have oK : ob h 19 1 := hB.ob (by decide) (by decide); have hm : isM 1 := Or.inl rfl; have h7 : isM 7 := Or.inr (Or.inl rfl); obtain ⟨oM, rM0, rM1, rM2, rM3, rM4, aM1, aM2, aM3, aM4, aM5, sM1, sM2, sM3, sM4, sM5⟩ := M_facts hm hB; obtain ⟨wN, wK, wF, wH, wM, wQ, wS, wZ, wT⟩ := id hW; have o7 : ob h 7 3 := hB.ob (by decide) (by decide)
  have hq := wQ i j
  by_cases hc : xM x i = j
  · obtain ⟨h1, r1, f1⟩ := d_mend1 (i := i) (j := j) hB hA hW (by omega) hj
    refine ⟨h1, ?_, Sk_d f1⟩
    refine Ret_L [some (.ref 22), some (.int (iN i)), some (.int (iN j))] rfl rfl fun Q hQ => ?_
    rw [fmdO, if_pos hc] at hQ
    (refine wp_go 600 ks_62_0.1 ?_; simp (disch := first | assumption | (simp only [ob_si, ar_si, ob_sl, ar_sl]; assumption) | omega) only [ci_0, cm_9, ldA_a, ldI_i, oc_36, oc_41, oc_63, p_0, p_2, p_30, p_31, p_32, p_6, p_62, p_80_3, p_90, wpn_succ, wpn_zero, stp_h, lk_0, lk_s, st1_0, st1_1, st1_2, st2_0, st2_1, st2_2, kj_i, kj_a, kj_l, kj_n, cat_n, cat_i, cat_a, cat_u, cat_l, vc_i, vc_a, rv_s, tl_n, tl_s, Cal'_s, List.length_cons, List.length_nil, i0, i1, iNd, iN_lt, iN_le, iN_eq, iN_add, iN_mul, iN_mod, iN_sub, iN_div, iN_clamp, iN_inb, zle_N, zlt_N, zN_le, zN_lt, zN_eq, Nz_eq, mI_t, mI_f, bI_0, bI_1, bI_t, bI_f, dltT, dltF, dleT, dleF, deqT, deqF, Nat.not_lt_zero, not_true_eq_false, not_false_eq_true, true_and, and_true, false_and, and_false, or_true, true_or, false_or, or_false, and_self, if_true, if_false, Classical.not_not, Nat.add_assoc, Nat.zero_add, Nat.add_zero, bI_or, bI_True, bI_False, Bool.false_eq_true, reduceCtorEq, eq_self, gi_si, gl_si, gr_si, hn_si, hL_si, hX_si, gi_sl, gl_sl, gr_sl, hn_sl, ob_si, ar_si, ob_sl, ar_sl, ks_62_0, oD, rD0, rD1, rD2, oK, o7, oM, c_onMat_q hm hB hA hW, hc, Cal_eq r1])
    exact hQ
  · refine ⟨h, ?_, Fr.rf _ h⟩
    refine Ret_L [some (.ref 22), some (.int (iN i)), some (.int (iN j))] rfl rfl fun Q hQ => ?_
    rw [fmdO, if_neg hc] at hQ
    by_cases h0 : xQ x i j = 0
    · rw [if_pos h0] at hQ
      (refine wp_go 600 ks_62_0.1 ?_; simp (disch := first | assumption | (simp only [ob_si, ar_si, ob_sl, ar_sl]; assumption) | omega) only [ci_0, cm_9, ldA_a, ldI_i, oc_36, oc_41, oc_63, p_0, p_2, p_30, p_31, p_32, p_6, p_62, p_80_3, p_90, wpn_succ, wpn_zero, stp_h, lk_0, lk_s, st1_0, st1_1, st1_2, st2_0, st2_1, st2_2, kj_i, kj_a, kj_l, kj_n, cat_n, cat_i, cat_a, cat_u, cat_l, vc_i, vc_a, rv_s, tl_n, tl_s, Cal'_s, List.length_cons, List.length_nil, i0, i1, iNd, iN_lt, iN_le, iN_eq, iN_add, iN_mul, iN_mod, iN_sub, iN_div, iN_clamp, iN_inb, zle_N, zlt_N, zN_le, zN_lt, zN_eq, Nz_eq, mI_t, mI_f, bI_0, bI_1, bI_t, bI_f, dltT, dltF, dleT, dleF, deqT, deqF, Nat.not_lt_zero, not_true_eq_false, not_false_eq_true, true_and, and_true, false_and, and_false, or_true, true_or, false_or, or_false, and_self, if_true, if_false, Classical.not_not, Nat.add_assoc, Nat.zero_add, Nat.add_zero, bI_or, bI_True, bI_False, Bool.false_eq_true, reduceCtorEq, eq_self, gi_si, gl_si, gr_si, hn_si, hL_si, hX_si, gi_sl, gl_sl, gr_sl, hn_sl, ob_si, ar_si, ob_sl, ar_sl, ks_62_0, oD, rD0, rD1, rD2, oK, o7, oM, c_onMat_q hm hB hA hW, c_quar_q hm hB hA hW, hc, h0])
      exact hQ
    · rw [if_neg h0] at hQ
      (refine wp_go 600 ks_62_0.1 ?_; simp (disch := first | assumption | (simp only [ob_si, ar_si, ob_sl, ar_sl]; assumption) | omega) only [ci_0, cm_9, ldA_a, ldI_i, oc_36, oc_41, oc_63, p_0, p_2, p_30, p_31, p_32, p_6, p_62, p_80_3, p_90, wpn_succ, wpn_zero, stp_h, lk_0, lk_s, st1_0, st1_1, st1_2, st2_0, st2_1, st2_2, kj_i, kj_a, kj_l, kj_n, cat_n, cat_i, cat_a, cat_u, cat_l, vc_i, vc_a, rv_s, tl_n, tl_s, Cal'_s, List.length_cons, List.length_nil, i0, i1, iNd, iN_lt, iN_le, iN_eq, iN_add, iN_mul, iN_mod, iN_sub, iN_div, iN_clamp, iN_inb, zle_N, zlt_N, zN_le, zN_lt, zN_eq, Nz_eq, mI_t, mI_f, bI_0, bI_1, bI_t, bI_f, dltT, dltF, dleT, dleF, deqT, deqF, Nat.not_lt_zero, not_true_eq_false, not_false_eq_true, true_and, and_true, false_and, and_false, or_true, true_or, false_or, or_false, and_self, if_true, if_false, Classical.not_not, Nat.add_assoc, Nat.zero_add, Nat.add_zero, bI_or, bI_True, bI_False, Bool.false_eq_true, reduceCtorEq, eq_self, gi_si, gl_si, gr_si, hn_si, hL_si, hX_si, gi_sl, gl_sl, gr_sl, hn_sl, ob_si, ar_si, ob_sl, ar_sl, ks_62_0, oD, rD0, rD1, rD2, oK, o7, oM, c_onMat_q hm hB hA hW, c_quar_q hm hB hA hW, hc, h0])
      exact hQ
noncomputable def nvS (x : Mt) (i a : Nat) : Nat := if (xM x i < 6 ∧ i < xM x i) ∧ 0 < qbN x i (xM x i) 99 then a + 1 else a
noncomputable def nvN (x : Mt) : Nat := itr (nvS x) 0 (xN x) 0
theorem d_never {h : Hp} {x : Mt} (hB : Bs h) (hA : At h 1 x) (hW : Wf x) : ∃ h', Ret 5 64 [.ref 22] h (some (.int (iN (nvN x)))) h' ∧ Fr Sd h h' := by
  have key : ∀ Q : Option Value → Hp → Prop, (∀ h', Fr Sd h h' → Q (some (.int (iN (nvN x)))) h') → wp 5 64 0 [some (.ref 22), none, none, none] [] h Q := by
    intro Q hQ
    (refine wp_go 600 ks_64_0.1 ?_; simp (disch := first | assumption | (simp only [ob_si, ar_si, ob_sl, ar_sl]; assumption) | omega) only [ci_0, ci_1, ci_99, inc_i, ldA_a, ldI_i, oc_22, oc_34, oc_58, p_0, p_2, p_3, p_30, p_36, p_44, p_46, p_6, p_62, p_80_1, p_80_2, p_80_4, p_9, p_90, wpn_succ, wpn_zero, stp_h, lk_0, lk_s, st1_0, st1_1, st1_2, st2_0, st2_1, st2_2, kj_i, kj_a, kj_l, kj_n, cat_n, cat_i, cat_a, cat_u, cat_l, vc_i, vc_a, rv_s, tl_n, tl_s, Cal'_s, List.length_cons, List.length_nil, i0, i1, iNd, iN_lt, iN_le, iN_eq, iN_add, iN_mul, iN_mod, iN_sub, iN_div, iN_clamp, iN_inb, zle_N, zlt_N, zN_le, zN_lt, zN_eq, Nz_eq, mI_t, mI_f, bI_0, bI_1, bI_t, bI_f, dltT, dltF, dleT, dleF, deqT, deqF, Nat.not_lt_zero, not_true_eq_false, not_false_eq_true, true_and, and_true, false_and, and_false, or_true, true_or, false_or, or_false, and_self, if_true, if_false, Classical.not_not, Nat.add_assoc, Nat.zero_add, Nat.add_zero, bI_or, bI_True, bI_False, Bool.false_eq_true, reduceCtorEq, eq_self, gi_si, gl_si, gr_si, hn_si, hL_si, hX_si, gi_sl, gl_sl, gr_sl, hn_sl, ob_si, ar_si, ob_sl, ar_sl, ks_64_0, ks_64_1])
    refine wp_loop (fun i L h' => Fr Sd h h' ∧ ∃ a w, itr (nvS x) i (xN x - i) a = nvN x ∧ L = [some (.ref 22), some (.int (iN a)), some (.int (iN i)), w]) (xN x) ?_ ?_ (xN x) 0 _ h (by omega) ⟨Fr.rf _ h, 0, none, rfl, rfl⟩
    · rintro i L h' hi ⟨f, a, w, he, rfl⟩ hn
      replace hA := At1_d hA f
      replace hB := f.bs hB
      have oD : ob h' 22 4 := hB.ob (by decide) (by decide)
      have rD0 : gr h' 22 0 = some 1 := hB.r (by decide)
      have hm : isM 1 := Or.inl rfl
      have oM : ob h' 1 3 := hB.ob (by decide) (by decide)
      have wN := hW.1
      rw [show xN x - i = xN x - (i + 1) + 1 by omega, itr_s] at he
      by_cases h6 : xM x i < 6
      · by_cases hl : i < xM x i
        · obtain ⟨h1, r1, f1⟩ := d_behind (i := i) (j := xM x i) (n := 99) hB hA hW hi h6 (by omega)
          have hq := qbN_b hW i (xM x i) 99
          by_cases hc : 0 < qbN x i (xM x i) 99
          · rw [nvS, if_pos ⟨⟨h6, hl⟩, hc⟩] at he
            (refine wp_go 600 ks_64_0.2.2.2.2.1 ?_; simp (disch := first | assumption | (simp only [ob_si, ar_si, ob_sl, ar_sl]; assumption) | omega) only [ci_0, ci_1, ci_99, inc_i, ldA_a, ldI_i, oc_22, oc_34, oc_58, p_0, p_2, p_3, p_30, p_36, p_44, p_46, p_6, p_62, p_80_1, p_80_2, p_80_4, p_9, p_90, wpn_succ, wpn_zero, stp_h, lk_0, lk_s, st1_0, st1_1, st1_2, st2_0, st2_1, st2_2, kj_i, kj_a, kj_l, kj_n, cat_n, cat_i, cat_a, cat_u, cat_l, vc_i, vc_a, rv_s, tl_n, tl_s, Cal'_s, List.length_cons, List.length_nil, i0, i1, iNd, iN_lt, iN_le, iN_eq, iN_add, iN_mul, iN_mod, iN_sub, iN_div, iN_clamp, iN_inb, zle_N, zlt_N, zN_le, zN_lt, zN_eq, Nz_eq, mI_t, mI_f, bI_0, bI_1, bI_t, bI_f, dltT, dltF, dleT, dleF, deqT, deqF, Nat.not_lt_zero, not_true_eq_false, not_false_eq_true, true_and, and_true, false_and, and_false, or_true, true_or, false_or, or_false, and_self, if_true, if_false, Classical.not_not, Nat.add_assoc, Nat.zero_add, Nat.add_zero, bI_or, bI_True, bI_False, Bool.false_eq_true, reduceCtorEq, eq_self, gi_si, gl_si, gr_si, hn_si, hL_si, hX_si, gi_sl, gl_sl, gr_sl, hn_sl, ob_si, ar_si, ob_sl, ar_sl, ks_64_0, ks_64_1, oD, rD0, oM, c_people_q hm hB hA hW, c_mate_q hm hB hA hW, Cal_eq r1])
            exact hn _ _ ⟨f.tr f1, _, _, he, rfl⟩
          · rw [nvS, if_neg (fun q => hc q.2)] at he
            (refine wp_go 600 ks_64_0.2.2.2.2.1 ?_; simp (disch := first | assumption | (simp only [ob_si, ar_si, ob_sl, ar_sl]; assumption) | omega) only [ci_0, ci_1, ci_99, inc_i, ldA_a, ldI_i, oc_22, oc_34, oc_58, p_0, p_2, p_3, p_30, p_36, p_44, p_46, p_6, p_62, p_80_1, p_80_2, p_80_4, p_9, p_90, wpn_succ, wpn_zero, stp_h, lk_0, lk_s, st1_0, st1_1, st1_2, st2_0, st2_1, st2_2, kj_i, kj_a, kj_l, kj_n, cat_n, cat_i, cat_a, cat_u, cat_l, vc_i, vc_a, rv_s, tl_n, tl_s, Cal'_s, List.length_cons, List.length_nil, i0, i1, iNd, iN_lt, iN_le, iN_eq, iN_add, iN_mul, iN_mod, iN_sub, iN_div, iN_clamp, iN_inb, zle_N, zlt_N, zN_le, zN_lt, zN_eq, Nz_eq, mI_t, mI_f, bI_0, bI_1, bI_t, bI_f, dltT, dltF, dleT, dleF, deqT, deqF, Nat.not_lt_zero, not_true_eq_false, not_false_eq_true, true_and, and_true, false_and, and_false, or_true, true_or, false_or, or_false, and_self, if_true, if_false, Classical.not_not, Nat.add_assoc, Nat.zero_add, Nat.add_zero, bI_or, bI_True, bI_False, Bool.false_eq_true, reduceCtorEq, eq_self, gi_si, gl_si, gr_si, hn_si, hL_si, hX_si, gi_sl, gl_sl, gr_sl, hn_sl, ob_si, ar_si, ob_sl, ar_sl, ks_64_0, ks_64_1, oD, rD0, oM, c_people_q hm hB hA hW, c_mate_q hm hB hA hW, Cal_eq r1])
            exact hn _ _ ⟨f.tr f1, _, _, he, rfl⟩
        · rw [nvS, if_neg (fun q => hl q.1.2)] at he
          (refine wp_go 600 ks_64_0.2.2.2.2.1 ?_; simp (disch := first | assumption | (simp only [ob_si, ar_si, ob_sl, ar_sl]; assumption) | omega) only [ci_0, ci_1, ci_99, inc_i, ldA_a, ldI_i, oc_22, oc_34, oc_58, p_0, p_2, p_3, p_30, p_36, p_44, p_46, p_6, p_62, p_80_1, p_80_2, p_80_4, p_9, p_90, wpn_succ, wpn_zero, stp_h, lk_0, lk_s, st1_0, st1_1, st1_2, st2_0, st2_1, st2_2, kj_i, kj_a, kj_l, kj_n, cat_n, cat_i, cat_a, cat_u, cat_l, vc_i, vc_a, rv_s, tl_n, tl_s, Cal'_s, List.length_cons, List.length_nil, i0, i1, iNd, iN_lt, iN_le, iN_eq, iN_add, iN_mul, iN_mod, iN_sub, iN_div, iN_clamp, iN_inb, zle_N, zlt_N, zN_le, zN_lt, zN_eq, Nz_eq, mI_t, mI_f, bI_0, bI_1, bI_t, bI_f, dltT, dltF, dleT, dleF, deqT, deqF, Nat.not_lt_zero, not_true_eq_false, not_false_eq_true, true_and, and_true, false_and, and_false, or_true, true_or, false_or, or_false, and_self, if_true, if_false, Classical.not_not, Nat.add_assoc, Nat.zero_add, Nat.add_zero, bI_or, bI_True, bI_False, Bool.false_eq_true, reduceCtorEq, eq_self, gi_si, gl_si, gr_si, hn_si, hL_si, hX_si, gi_sl, gl_sl, gr_sl, hn_sl, ob_si, ar_si, ob_sl, ar_sl, ks_64_0, ks_64_1, oD, rD0, oM, c_people_q hm hB hA hW, c_mate_q hm hB hA hW])
          exact hn _ _ ⟨f, _, _, he, rfl⟩
      · rw [nvS, if_neg (fun q => h6 q.1.1)] at he
        (refine wp_go 600 ks_64_0.2.2.2.2.1 ?_; simp (disch := first | assumption | (simp only [ob_si, ar_si, ob_sl, ar_sl]; assumption) | omega) only [ci_0, ci_1, ci_99, inc_i, ldA_a, ldI_i, oc_22, oc_34, oc_58, p_0, p_2, p_3, p_30, p_36, p_44, p_46, p_6, p_62, p_80_1, p_80_2, p_80_4, p_9, p_90, wpn_succ, wpn_zero, stp_h, lk_0, lk_s, st1_0, st1_1, st1_2, st2_0, st2_1, st2_2, kj_i, kj_a, kj_l, kj_n, cat_n, cat_i, cat_a, cat_u, cat_l, vc_i, vc_a, rv_s, tl_n, tl_s, Cal'_s, List.length_cons, List.length_nil, i0, i1, iNd, iN_lt, iN_le, iN_eq, iN_add, iN_mul, iN_mod, iN_sub, iN_div, iN_clamp, iN_inb, zle_N, zlt_N, zN_le, zN_lt, zN_eq, Nz_eq, mI_t, mI_f, bI_0, bI_1, bI_t, bI_f, dltT, dltF, dleT, dleF, deqT, deqF, Nat.not_lt_zero, not_true_eq_false, not_false_eq_true, true_and, and_true, false_and, and_false, or_true, true_or, false_or, or_false, and_self, if_true, if_false, Classical.not_not, Nat.add_assoc, Nat.zero_add, Nat.add_zero, bI_or, bI_True, bI_False, Bool.false_eq_true, reduceCtorEq, eq_self, gi_si, gl_si, gr_si, hn_si, hL_si, hX_si, gi_sl, gl_sl, gr_sl, hn_sl, ob_si, ar_si, ob_sl, ar_sl, ks_64_0, ks_64_1, oD, rD0, oM, c_people_q hm hB hA hW, c_mate_q hm hB hA hW])
        exact hn _ _ ⟨f, _, _, he, rfl⟩
    · rintro L h' ⟨f, a, w, he, rfl⟩
      replace hA := At1_d hA f
      replace hB := f.bs hB
      have oD : ob h' 22 4 := hB.ob (by decide) (by decide)
      have rD0 : gr h' 22 0 = some 1 := hB.r (by decide)
      have hm : isM 1 := Or.inl rfl
      have oM : ob h' 1 3 := hB.ob (by decide) (by decide)
      have wN := hW.1
      rw [Nat.sub_self, itr_0] at he
      rw [he]
      (refine wp_go 600 ks_64_0.2.2.2.2.1 ?_; simp (disch := first | assumption | (simp only [ob_si, ar_si, ob_sl, ar_sl]; assumption) | omega) only [ci_0, ci_1, ci_99, inc_i, ldA_a, ldI_i, oc_22, oc_34, oc_58, p_0, p_2, p_3, p_30, p_36, p_44, p_46, p_6, p_62, p_80_1, p_80_2, p_80_4, p_9, p_90, wpn_succ, wpn_zero, stp_h, lk_0, lk_s, st1_0, st1_1, st1_2, st2_0, st2_1, st2_2, kj_i, kj_a, kj_l, kj_n, cat_n, cat_i, cat_a, cat_u, cat_l, vc_i, vc_a, rv_s, tl_n, tl_s, Cal'_s, List.length_cons, List.length_nil, i0, i1, iNd, iN_lt, iN_le, iN_eq, iN_add, iN_mul, iN_mod, iN_sub, iN_div, iN_clamp, iN_inb, zle_N, zlt_N, zN_le, zN_lt, zN_eq, Nz_eq, mI_t, mI_f, bI_0, bI_1, bI_t, bI_f, dltT, dltF, dleT, dleF, deqT, deqF, Nat.not_lt_zero, not_true_eq_false, not_false_eq_true, true_and, and_true, false_and, and_false, or_true, true_or, false_or, or_false, and_self, if_true, if_false, Classical.not_not, Nat.add_assoc, Nat.zero_add, Nat.add_zero, bI_or, bI_True, bI_False, Bool.false_eq_true, reduceCtorEq, eq_self, gi_si, gl_si, gr_si, hn_si, hL_si, hX_si, gi_sl, gl_sl, gr_sl, hn_sl, ob_si, ar_si, ob_sl, ar_sl, ks_64_0, ks_64_1, oD, rD0, oM, c_people_q hm hB hA hW])
      exact hQ _ f
  obtain ⟨v, h', r, rfl, f⟩ := Ret_ex (d := 5) (y := 64) (as := [.ref 22]) [some (.ref 22), none, none, none] rfl rfl (key (fun v h' => v = some (.int (iN (nvN x))) ∧ Fr Sd h h') fun h' a => ⟨rfl, a⟩)
  exact ⟨h', r, f⟩
theorem d_turn {h : Hp} {i j : Nat} {x : Mt} (hB : Bs h) (hA : At h 1 x) (hW : Wf x) (hi : i < 6) (hj : j < 6) : ∃ h', Ret 3 65 [.ref 22, .int (iN i), .int (iN j)] h (some (.int (zI ((dyN (kpx x i j) 50 : Nat) - 50 : Int)))) h' ∧ Fr Sd h h' := by
  have oD : ob h 22 4 := hB.ob (by decide) (by decide); have rD0 : gr h 22 0 = some 1 := hB.r (by decide); have rD1 : gr h 22 1 = some 7 := hB.r (by decide); have rD2 : gr h 22 2 = some 19 := hB.r (by decide); have oK : ob h 19 1 := hB.ob (by decide) (by decide); have hm : isM 1 := Or.inl rfl; have h7 : isM 7 := Or.inr (Or.inl rfl); obtain ⟨oM, rM0, rM1, rM2, rM3, rM4, aM1, aM2, aM3, aM4, aM5, sM1, sM2, sM3, sM4, sM5⟩ := M_facts hm hB; obtain ⟨wN, wK, wF, wH, wM, wQ, wS, wZ, wT⟩ := id hW; have o7 : ob h 7 3 := hB.ob (by decide) (by decide)
  obtain ⟨h1, r1, K1, f1⟩ := w_take (i := i) (j := j) hm hB hA hW hi hj
  have B1 := f1.bs hB
  have o1 := (K_facts B1).1
  have oD1 : ob h1 22 4 := B1.ob (by decide) (by decide)
  have q2 : gr h1 22 2 = some 19 := B1.r (by decide)
  refine ⟨h1, ?_, Sk_d f1⟩
  refine Ret_L [some (.ref 22), some (.int (iN i)), some (.int (iN j))] rfl rfl fun Q hQ => ?_
  (refine wp_go 600 ks_65_0.1 ?_; simp (disch := first | assumption | (simp only [ob_si, ar_si, ob_sl, ar_sl]; assumption) | omega) only [ci_50, ldA_a, ldI_i, oc_11, oc_7, p_0, p_11, p_2, p_6, p_62, p_80_2, p_80_4, p_90, wpn_succ, wpn_zero, stp_h, lk_0, lk_s, st1_0, st1_1, st1_2, st2_0, st2_1, st2_2, kj_i, kj_a, kj_l, kj_n, cat_n, cat_i, cat_a, cat_u, cat_l, vc_i, vc_a, rv_s, tl_n, tl_s, Cal'_s, List.length_cons, List.length_nil, i0, i1, iNd, iN_lt, iN_le, iN_eq, iN_add, iN_mul, iN_mod, iN_div, iN_clamp, iN_inb, zle_N, zlt_N, zN_le, zN_lt, zN_eq, Nz_eq, mI_t, mI_f, bI_0, bI_1, bI_t, bI_f, dltT, dltF, dleT, dleF, deqT, deqF, Nat.not_lt_zero, not_true_eq_false, not_false_eq_true, true_and, and_true, false_and, and_false, or_true, true_or, false_or, or_false, and_self, if_true, if_false, Classical.not_not, Nat.add_assoc, Nat.zero_add, Nat.add_zero, bI_or, bI_True, bI_False, Bool.false_eq_true, reduceCtorEq, eq_self, gi_si, gl_si, gr_si, hn_si, hL_si, hX_si, gi_sl, gl_sl, gr_sl, hn_sl, ob_si, ar_si, ob_sl, ar_sl, ks_65_0, oD, rD0, rD1, rD2, oK, o7, Cal_eq r1, o1, oD1, q2, k_day_q B1 K1 (kb_x hW _ _), NN_sub])
  exact hQ
theorem fmO_lt {f : Nat → Nat} {q r : Nat} (h : fmO f q = some r) : r < 100 := by
  have aux : ∀ (k i : Nat), itx (zeF f q) i k = some r → r < i + k := by
    intro k
    induction k with
    | zero => intro i e; cases e
    | succ k ih =>
      intro i e
      cases hz : zeF f q i with
      | none => rw [itx_n hz] at e; have := ih _ e; omega
      | some z =>
        rw [itx_r hz] at e
        unfold zeF at hz
        split at hz
        · simp only [Option.some.injEq] at hz e; omega
        · cases hz
  have := aux 100 0 h
  omega
noncomputable def mbO (x : Mt) (p c : Nat) : Option Nat := if xM x p < 6 then fmO (dyN (c, (kpx x p (xM x p)).2)) (xQ x p (xM x p)) else none
theorem d_mby {h : Hp} {p c : Nat} {x : Mt} (hB : Bs h) (hA : At h 1 x) (hW : Wf x) (hp : p < xN x) (hc : c < 32) : ∃ h', Ret 4 67 [.ref 22, .int (iN p), .int (iN c)] h (some (.int (oI (mbO x p c)))) h' ∧ Fr Sd h h' := by
  have oD : ob h 22 4 := hB.ob (by decide) (by decide); have rD0 : gr h 22 0 = some 1 := hB.r (by decide); have rD1 : gr h 22 1 = some 7 := hB.r (by decide); have rD2 : gr h 22 2 = some 19 := hB.r (by decide); have oK : ob h 19 1 := hB.ob (by decide) (by decide); have hm : isM 1 := Or.inl rfl; have h7 : isM 7 := Or.inr (Or.inl rfl); obtain ⟨oM, rM0, rM1, rM2, rM3, rM4, aM1, aM2, aM3, aM4, aM5, sM1, sM2, sM3, sM4, sM5⟩ := M_facts hm hB; obtain ⟨wN, wK, wF, wH, wM, wQ, wS, wZ, wT⟩ := id hW; have o7 : ob h 7 3 := hB.ob (by decide) (by decide)
  by_cases h6 : xM x p < 6
  · have hq := wQ p (xM x p)
    obtain ⟨h1, r1, K1, f1⟩ := w_take (i := p) (j := xM x p) hm hB hA hW (by omega) h6
    have B1 := f1.bs hB
    obtain ⟨h2, r2, K2, f2⟩ := w_one (c := (c, (kpx x p (xM x p)).2)) B1 K1.1 (kb_1 (kb_x hW _ _) hc)
    have B2 := f2.bs B1
    have A2 := At1_k (At1_k hA f1) f2
    have o1 := (K_facts B1).1
    have o2 := (K_facts B2).1
    have oD1 : ob h1 22 4 := B1.ob (by decide) (by decide)
    have q2 : gr h1 22 2 = some 19 := B1.r (by decide)
    have oD2 : ob h2 22 4 := B2.ob (by decide) (by decide)
    have q20 : gr h2 22 0 = some 1 := B2.r (by decide)
    have q22 : gr h2 22 2 = some 19 := B2.r (by decide)
    have o12 : ob h2 1 3 := B2.ob (by decide) (by decide)
    refine ⟨h2, ?_, Sk_d (f1.tr f2)⟩
    refine Ret_L [some (.ref 22), some (.int (iN p)), some (.int (iN c)), none] rfl rfl fun Q hQ => ?_
    rw [mbO, if_pos h6] at hQ
    (refine wp_go 600 ks_67_0.1 ?_; simp (disch := first | assumption | (simp only [ob_si, ar_si, ob_sl, ar_sl]; assumption) | omega) only [cm_9, ldA_a, ldI_i, oc_13, oc_34, oc_36, oc_7, oc_8, p_0, p_2, p_3, p_41, p_42, p_6, p_62, p_80_2, p_80_3, p_80_4, p_90, wpn_succ, wpn_zero, stp_h, lk_0, lk_s, st1_0, st1_1, st1_2, st2_0, st2_1, st2_2, kj_i, kj_a, kj_l, kj_n, cat_n, cat_i, cat_a, cat_u, cat_l, vc_i, vc_a, rv_s, tl_n, tl_s, Cal'_s, List.length_cons, List.length_nil, i0, i1, iNd, iN_lt, iN_le, iN_eq, iN_add, iN_mul, iN_mod, iN_sub, iN_div, iN_clamp, iN_inb, zle_N, zlt_N, zN_le, zN_lt, zN_eq, Nz_eq, mI_t, mI_f, bI_0, bI_1, bI_t, bI_f, dltT, dltF, dleT, dleF, deqT, deqF, Nat.not_lt_zero, not_true_eq_false, not_false_eq_true, true_and, and_true, false_and, and_false, or_true, true_or, false_or, or_false, and_self, if_true, if_false, Classical.not_not, Nat.add_assoc, Nat.zero_add, Nat.add_zero, bI_or, bI_True, bI_False, Bool.false_eq_true, reduceCtorEq, eq_self, gi_si, gl_si, gr_si, hn_si, hL_si, hX_si, gi_sl, gl_sl, gr_sl, hn_sl, ob_si, ar_si, ob_sl, ar_sl, ks_67_0, ks_67_1, oD, rD0, rD1, rD2, oK, o7, oM, c_mate_q hm hB hA hW, Cal_eq r1, Cal_eq r2, o1, o2, oD1, q2, oD2, q20, q22, o12, c_quar_q hm B2 A2 hW, k_mend_q B2 K2 (kb_1 (kb_x hW _ _) hc)])
    exact hQ
  · refine ⟨h, ?_, Fr.rf _ h⟩
    refine Ret_L [some (.ref 22), some (.int (iN p)), some (.int (iN c)), none] rfl rfl fun Q hQ => ?_
    rw [mbO, if_neg h6] at hQ
    (refine wp_go 600 ks_67_0.1 ?_; simp (disch := first | assumption | (simp only [ob_si, ar_si, ob_sl, ar_sl]; assumption) | omega) only [cm_9, ldA_a, ldI_i, oc_13, oc_34, oc_36, oc_7, oc_8, p_0, p_2, p_3, p_41, p_42, p_6, p_62, p_80_2, p_80_3, p_80_4, p_90, wpn_succ, wpn_zero, stp_h, lk_0, lk_s, st1_0, st1_1, st1_2, st2_0, st2_1, st2_2, kj_i, kj_a, kj_l, kj_n, cat_n, cat_i, cat_a, cat_u, cat_l, vc_i, vc_a, rv_s, tl_n, tl_s, Cal'_s, List.length_cons, List.length_nil, i0, i1, iNd, iN_lt, iN_le, iN_eq, iN_add, iN_mul, iN_mod, iN_sub, iN_div, iN_clamp, iN_inb, zle_N, zlt_N, zN_le, zN_lt, zN_eq, Nz_eq, mI_t, mI_f, bI_0, bI_1, bI_t, bI_f, dltT, dltF, dleT, dleF, deqT, deqF, Nat.not_lt_zero, not_true_eq_false, not_false_eq_true, true_and, and_true, false_and, and_false, or_true, true_or, false_or, or_false, and_self, if_true, if_false, Classical.not_not, Nat.add_assoc, Nat.zero_add, Nat.add_zero, bI_or, bI_True, bI_False, Bool.false_eq_true, reduceCtorEq, eq_self, gi_si, gl_si, gr_si, hn_si, hL_si, hX_si, gi_sl, gl_sl, gr_sl, hn_sl, ob_si, ar_si, ob_sl, ar_sl, ks_67_0, ks_67_1, oD, rD0, rD1, rD2, oK, o7, oM, c_mate_q hm hB hA hW])
    exact hQ
theorem d_mbn {h : Hp} {p : Nat} {x : Mt} (hB : Bs h) (hA : At h 1 x) (hW : Wf x) (hp : p < xN x) : Ret 4 67 [.ref 22, .int (iN p), .int (zI (-9))] h (some (.int (zI (-9)))) (h) := by
  refine Ret_L [some (.ref 22), some (.int (iN p)), some (.int (zI (-9))), none] rfl rfl fun Q hQ => ?_
  have oD : ob h 22 4 := hB.ob (by decide) (by decide); have rD0 : gr h 22 0 = some 1 := hB.r (by decide); have rD1 : gr h 22 1 = some 7 := hB.r (by decide); have rD2 : gr h 22 2 = some 19 := hB.r (by decide); have oK : ob h 19 1 := hB.ob (by decide) (by decide); have hm : isM 1 := Or.inl rfl; have h7 : isM 7 := Or.inr (Or.inl rfl); obtain ⟨oM, rM0, rM1, rM2, rM3, rM4, aM1, aM2, aM3, aM4, aM5, sM1, sM2, sM3, sM4, sM5⟩ := M_facts hm hB; obtain ⟨wN, wK, wF, wH, wM, wQ, wS, wZ, wT⟩ := id hW; have o7 : ob h 7 3 := hB.ob (by decide) (by decide)
  by_cases h6 : xM x p < 6 <;> (refine wp_go 600 ks_67_0.1 ?_; simp (disch := first | assumption | (simp only [ob_si, ar_si, ob_sl, ar_sl]; assumption) | omega) only [cm_9, ldA_a, ldI_i, oc_13, oc_34, oc_36, oc_7, oc_8, p_0, p_2, p_3, p_41, p_42, p_6, p_62, p_80_2, p_80_3, p_80_4, p_90, wpn_succ, wpn_zero, stp_h, lk_0, lk_s, st1_0, st1_1, st1_2, st2_0, st2_1, st2_2, kj_i, kj_a, kj_l, kj_n, cat_n, cat_i, cat_a, cat_u, cat_l, vc_i, vc_a, rv_s, tl_n, tl_s, Cal'_s, List.length_cons, List.length_nil, i0, i1, iNd, iN_lt, iN_le, iN_eq, iN_add, iN_mul, iN_mod, iN_sub, iN_div, iN_clamp, iN_inb, zle_N, zlt_N, zN_le, zN_lt, zN_eq, Nz_eq, mI_t, mI_f, bI_0, bI_1, bI_t, bI_f, dltT, dltF, dleT, dleF, deqT, deqF, Nat.not_lt_zero, not_true_eq_false, not_false_eq_true, true_and, and_true, false_and, and_false, or_true, true_or, false_or, or_false, and_self, if_true, if_false, Classical.not_not, Nat.add_assoc, Nat.zero_add, Nat.add_zero, bI_or, bI_True, bI_False, Bool.false_eq_true, reduceCtorEq, eq_self, gi_si, gl_si, gr_si, hn_si, hL_si, hX_si, gi_sl, gl_sl, gr_sl, hn_sl, ob_si, ar_si, ob_sl, ar_sl, ks_67_0, ks_67_1, oD, rD0, rD1, rD2, oK, o7, oM, c_mate_q hm hB hA hW]) <;> exact hQ
theorem d_mbn_q {h : Hp} {p : Nat} {x : Mt} (hB : Bs h) (hA : At h 1 x) (hW : Wf x) (hp : p < xN x) {e : Nat} (hd : 4 ≤ e) (K : Option Value → Hp → Prop) : Cal e 67 [.ref 22, .int (iN p), .int (zI (-9))] h K = K (some (.int (zI (-9)))) (h) := Cal_eq (d_mbn (hB := hB) (hA := hA) (hW := hW) (hp := hp)) hd K
