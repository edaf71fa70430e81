/-! years by lot: the calls -/
theorem l_qt {h : Hp} (hB : Bs h) : Ret 0 16 [.ref 28] h (some (.int (gi h 28 4))) (h) := by
  refine Ret_L [some (.ref 28)] rfl rfl fun Q hQ => ?_
  have oL : ob h 28 2 := hB.ob (by decide) (by decide)
  (refine wp_go 600 ks_16_0.1 ?_; simp (disch := first | with_reducible assumption | omega | (simp only [ob_si, ar_si, ob_sl, ar_sl]; with_reducible assumption)) only [ldA_a, r_2, r_60, r_90, wpn_S, wpn_zero, stp_h, lk_0, lk_s, st1_0, st1_1, st1_2, st2_0, st2_1, st2_2, kj_i, kj_a, kj_l, kj_n, cat_n, cat_i, cat_a, cat_u, cat_l, vc_i, vc_a, rv_s, tl_n, tl_s, Cal'_s, List.length_cons, List.length_nil, i0, i1, iNd, iN_lt, iN_le, iN_eq, iN_add, iN_mul, iN_mod, iN_sub, iN_div, iN_clamp, iN_inb, zle_N, zlt_N, zN_le, zN_lt, zN_eq, Nz_eq, mI_t, mI_f, bI_0, bI_1, bI_t, bI_f, dltT, dltF, dleT, dleF, deqT, deqF, Nat.not_lt_zero, not_true_eq_false, not_false_eq_true, true_and, and_true, false_and, and_false, or_true, true_or, false_or, or_false, and_self, if_true, if_false, Classical.not_not, Nat.add_assoc, Nat.zero_add, Nat.add_zero, bI_or, bI_True, bI_False, Bool.false_eq_true, reduceCtorEq, eq_self, gi_si, gl_si, gr_si, hn_si, hL_si, hX_si, gi_sl, gl_sl, gr_sl, hn_sl, ob_si, ar_si, ob_sl, ar_sl, ks_16_0, oL])
  exact hQ
theorem l_qt_q {h : Hp} (hB : Bs h) {e : Nat} (hd : 0 ≤ e) (K : Option Value → Hp → Prop) : Cal e 16 [.ref 28] h K = K (some (.int (gi h 28 4))) (h) := Cal_eq (l_qt (hB := hB)) hd K
theorem l_tw {h : Hp} (hB : Bs h) : Ret 0 17 [.ref 28] h (some (.int (gi h 28 5))) (h) := by
  refine Ret_L [some (.ref 28)] rfl rfl fun Q hQ => ?_
  have oL : ob h 28 2 := hB.ob (by decide) (by decide)
  (refine wp_go 600 ks_17_0.1 ?_; simp (disch := first | with_reducible assumption | omega | (simp only [ob_si, ar_si, ob_sl, ar_sl]; with_reducible assumption)) only [ldA_a, r_2, r_60, r_90, wpn_S, wpn_zero, stp_h, lk_0, lk_s, st1_0, st1_1, st1_2, st2_0, st2_1, st2_2, kj_i, kj_a, kj_l, kj_n, cat_n, cat_i, cat_a, cat_u, cat_l, vc_i, vc_a, rv_s, tl_n, tl_s, Cal'_s, List.length_cons, List.length_nil, i0, i1, iNd, iN_lt, iN_le, iN_eq, iN_add, iN_mul, iN_mod, iN_sub, iN_div, iN_clamp, iN_inb, zle_N, zlt_N, zN_le, zN_lt, zN_eq, Nz_eq, mI_t, mI_f, bI_0, bI_1, bI_t, bI_f, dltT, dltF, dleT, dleF, deqT, deqF, Nat.not_lt_zero, not_true_eq_false, not_false_eq_true, true_and, and_true, false_and, and_false, or_true, true_or, false_or, or_false, and_self, if_true, if_false, Classical.not_not, Nat.add_assoc, Nat.zero_add, Nat.add_zero, bI_or, bI_True, bI_False, Bool.false_eq_true, reduceCtorEq, eq_self, gi_si, gl_si, gr_si, hn_si, hL_si, hX_si, gi_sl, gl_sl, gr_sl, hn_sl, ob_si, ar_si, ob_sl, ar_sl, ks_17_0, oL])
  exact hQ
theorem l_tw_q {h : Hp} (hB : Bs h) {e : Nat} (hd : 0 ≤ e) (K : Option Value → Hp → Prop) : Cal e 17 [.ref 28] h K = K (some (.int (gi h 28 5))) (h) := Cal_eq (l_tw (hB := hB)) hd K
noncomputable def Fy32 : Nat → Prop := fun k => Fq k ∨ k = 32
/-- the model's day by lot -/
theorem wo_lot {h : Hp} {zz : Int32} {x y : Mt} {r1 r2 : Option Value} {K : Option Value → Hp → Prop} {a0 a1 a2 a3 a4 a5 a7 : Option Value} {b6 : Int32} {d : Nat} (hB : Bs h) (hA : Ao h y) (W2 : Wf y) (N2 : xN y = xN x) (wN : xN x ≤ 6) (hn : 0 < xN x) (hz : gi h 87 32 = zz) (hd : d < 30) (hK : ∀ h' w1 w2, Ao h' (lyS (xN x) (zz, y)).2 → gi h' 87 32 = (lyS (xN x) (zz, y)).1 → Fo Sq Fy32 h h' → wp 3 296 62 [some (.ref 87), a1, a2, a3, a4, a5, some (.int b6), some (.int (iN (d + 1))), w1, w2] [] h' K) : wp 3 296 62 [some (.ref 87), a1, a2, a3, a4, a5, some (.int b6), some (.int (iN d)), r1, r2] [] h K := by
  have oO := (O_facts hB).1
  have n1 : gi h 87 0 = iN (xN x) := by rw [← N2]; exact hA.1
  have rd1 := o_draw (n := xN x) hB hz hn wN
  have B3 := hB.si 87 32 (dz zz)
  have A3 : Ao (si h 87 32 (dz zz)) y := Ao_f hA (by omega) (by omega) _
  have n3 : gi (si h 87 32 (dz zz)) 87 0 = iN (xN x) := by rw [← N2]; exact A3.1
  have rd2 := o_draw (n := xN x) (z := dz zz) B3 (by rw [gi_si, up_s, up_s]) hn wN
  have B4 := B3.si 87 32 (dz (dz zz))
  have A4 : Ao (si (si h 87 32 (dz zz)) 87 32 (dz (dz zz))) y := Ao_f A3 (by omega) (by omega) _
  have f4 : Fo Sq Fy32 h (si (si h 87 32 (dz zz)) 87 32 (dz (dz zz))) := ((Fo.rf _ _ h).sf (Or.inr rfl) _).sf (Or.inr rfl) _
  have z4 : gi (si (si h 87 32 (dz zz)) 87 32 (dz (dz zz))) 87 32 = dz (dz zz) := by rw [gi_si, up_s, up_s]
  have hp := drV_lt (z := dz zz) hn
  have hq := drV_lt (z := dz (dz zz)) hn
  have oO3 : ob (si h 87 32 (dz zz)) 87 12 := oO
  unfold lyS at hK
  simp only at hK
  generalize drV (dz zz) (xN x) = p at *
  generalize drV (dz (dz zz)) (xN x) = q at *
  generalize si (si h 87 32 (dz zz)) 87 32 (dz (dz zz)) = h4 at *
  have fq : ∀ {h1 h2 : Hp}, Fo Sq Fq h1 h2 → Fo Sq Fy32 h1 h2 := fun f => f.mono (fun o ho => ho) (fun k hk => Or.inl hk)
  obtain ⟨oO_4, t1_4, t2_4, t3_4, t4_4, t5_4, t8_4, y1_4, y2_4, y3_4, y4_4, y5_4, y8_4, z1_4, z2_4, z3_4, z4_4, z5_4, z8_4⟩ := O_facts B4; obtain ⟨eN_4, eD_4, eK_4, eF_4, eH_4, eM_4, eQ_4⟩ := id A4
  by_cases e1 : p = q
  · rw [show jdM y p q = y from if_neg (fun e => e.1 e1)] at hK
    obtain ⟨h6, r6, A6, f6⟩ := wo_day1 B4 A4 W2
    have hK := hK h6 (some (.int (iN p))) (some (.int (iN q))) A6 (by rw [f6.2 32 (by unfold Fq; omega)]; exact z4) (f4.tr (fq f6))
    (refine wp_go 600 ks_296_1.2.2.2.2.2.2.2.2.2.2.1 ?_; simp (disch := first | with_reducible assumption | omega | (simp only [ob_si, ar_si, ob_sl, ar_sl]; with_reducible assumption)) only [ci_0, ci_1, ci_20, ci_30, cm_9, inc_i, ldA_a, ldI_i, oc_201, oc_217, oc_219, oc_220, oc_222, oc_236, oc_237, oc_295, r_0, r_10, r_2, r_3, r_30, r_32, r_34, r_36, r_41, r_44, r_6, r_60, r_62, r_63, r_70, r_80_1, r_80_2, r_80_3, r_81_3, r_9, r_90, wpn_S, wpn_zero, stp_h, lk_0, lk_s, st1_0, st1_1, st1_2, st2_0, st2_1, st2_2, kj_i, kj_a, kj_l, kj_n, cat_n, cat_i, cat_a, cat_u, cat_l, vc_i, vc_a, rv_s, tl_n, tl_s, Cal'_s, List.length_cons, List.length_nil, i0, i1, iNd, iN_lt, iN_le, iN_eq, iN_add, iN_mul, iN_mod, iN_sub, iN_div, iN_clamp, iN_inb, zle_N, zlt_N, zN_le, zN_lt, zN_eq, Nz_eq, mI_t, mI_f, bI_0, bI_1, bI_t, bI_f, dltT, dltF, dleT, dleF, deqT, deqF, Nat.not_lt_zero, not_true_eq_false, not_false_eq_true, true_and, and_true, false_and, and_false, or_true, true_or, false_or, or_false, and_self, if_true, if_false, Classical.not_not, Nat.add_assoc, Nat.zero_add, Nat.add_zero, bI_or, bI_True, bI_False, Bool.false_eq_true, reduceCtorEq, eq_self, gi_si, gl_si, gr_si, hn_si, hL_si, hX_si, gi_sl, gl_sl, gr_sl, hn_sl, ob_si, ar_si, ob_sl, ar_sl, ks_296_0, ks_296_1, ks_296_2, ks_296_3, oO, n1, Cal_eq rd1, oO3, n3, Cal_eq rd2, oO_4, Cal_eq r6])
    exact hK
  · by_cases e2 : xM y p = q
    · rw [show jdM y p q = y from if_neg (fun e => e.2 e2)] at hK
      obtain ⟨h6, r6, A6, f6⟩ := wo_day1 B4 A4 W2
      have hK := hK h6 (some (.int (iN p))) (some (.int (iN q))) A6 (by rw [f6.2 32 (by unfold Fq; omega)]; exact z4) (f4.tr (fq f6))
      have m4 : gi h4 91 p = iN q := by rw [eM_4 p (by omega), e2]; exact mI_t (by omega)
      (refine wp_go 600 ks_296_1.2.2.2.2.2.2.2.2.2.2.1 ?_; simp (disch := first | with_reducible assumption | omega | (simp only [ob_si, ar_si, ob_sl, ar_sl]; with_reducible assumption)) only [ci_0, ci_1, ci_20, ci_30, cm_9, inc_i, ldA_a, ldI_i, oc_201, oc_217, oc_219, oc_220, oc_222, oc_236, oc_237, oc_295, r_0, r_10, r_2, r_3, r_30, r_32, r_34, r_36, r_41, r_44, r_6, r_60, r_62, r_63, r_70, r_80_1, r_80_2, r_80_3, r_81_3, r_9, r_90, wpn_S, wpn_zero, stp_h, lk_0, lk_s, st1_0, st1_1, st1_2, st2_0, st2_1, st2_2, kj_i, kj_a, kj_l, kj_n, cat_n, cat_i, cat_a, cat_u, cat_l, vc_i, vc_a, rv_s, tl_n, tl_s, Cal'_s, List.length_cons, List.length_nil, i0, i1, iNd, iN_lt, iN_le, iN_eq, iN_add, iN_mul, iN_mod, iN_sub, iN_div, iN_clamp, iN_inb, zle_N, zlt_N, zN_le, zN_lt, zN_eq, Nz_eq, mI_t, mI_f, bI_0, bI_1, bI_t, bI_f, dltT, dltF, dleT, dleF, deqT, deqF, Nat.not_lt_zero, not_true_eq_false, not_false_eq_true, true_and, and_true, false_and, and_false, or_true, true_or, false_or, or_false, and_self, if_true, if_false, Classical.not_not, Nat.add_assoc, Nat.zero_add, Nat.add_zero, bI_or, bI_True, bI_False, Bool.false_eq_true, reduceCtorEq, eq_self, gi_si, gl_si, gr_si, hn_si, hL_si, hX_si, gi_sl, gl_sl, gr_sl, hn_sl, ob_si, ar_si, ob_sl, ar_sl, ks_296_0, ks_296_1, ks_296_2, ks_296_3, oO, n1, Cal_eq rd1, oO3, n3, Cal_eq rd2, oO_4, t4_4, y4_4, z4_4, m4, Cal_eq r6])
      exact hK
    · rw [show jdM y p q = joM y p q from if_pos ⟨e1, e2⟩] at hK
      obtain ⟨h5, r5, A5, f5⟩ := wo_join (i := p) (j := q) B4 A4 W2 (by omega) (by omega) e1
      have B5 := f5.bs B4
      have oO5 := (O_facts B5).1
      obtain ⟨h6, r6, A6, f6⟩ := wo_day1 B5 A5 (wf_jo W2 (by omega) (by omega) e1)
      have hK := hK h6 (some (.int (iN p))) (some (.int (iN q))) A6 (by rw [f6.2 32 (by unfold Fq; omega), f5.2 32 (by unfold Fq; omega)]; exact z4) ((f4.tr (fq f5)).tr (fq f6))
      by_cases h6 : xM y p < 6
      · have m4 : gi h4 91 p = iN (xM y p) := by rw [eM_4 p (by omega)]; exact mI_t h6
        (refine wp_go 600 ks_296_1.2.2.2.2.2.2.2.2.2.2.1 ?_; simp (disch := first | with_reducible assumption | omega | (simp only [ob_si, ar_si, ob_sl, ar_sl]; with_reducible assumption)) only [ci_0, ci_1, ci_20, ci_30, cm_9, inc_i, ldA_a, ldI_i, oc_201, oc_217, oc_219, oc_220, oc_222, oc_236, oc_237, oc_295, r_0, r_10, r_2, r_3, r_30, r_32, r_34, r_36, r_41, r_44, r_6, r_60, r_62, r_63, r_70, r_80_1, r_80_2, r_80_3, r_81_3, r_9, r_90, wpn_S, wpn_zero, stp_h, lk_0, lk_s, st1_0, st1_1, st1_2, st2_0, st2_1, st2_2, kj_i, kj_a, kj_l, kj_n, cat_n, cat_i, cat_a, cat_u, cat_l, vc_i, vc_a, rv_s, tl_n, tl_s, Cal'_s, List.length_cons, List.length_nil, i0, i1, iNd, iN_lt, iN_le, iN_eq, iN_add, iN_mul, iN_mod, iN_sub, iN_div, iN_clamp, iN_inb, zle_N, zlt_N, zN_le, zN_lt, zN_eq, Nz_eq, mI_t, mI_f, bI_0, bI_1, bI_t, bI_f, dltT, dltF, dleT, dleF, deqT, deqF, Nat.not_lt_zero, not_true_eq_false, not_false_eq_true, true_and, and_true, false_and, and_false, or_true, true_or, false_or, or_false, and_self, if_true, if_false, Classical.not_not, Nat.add_assoc, Nat.zero_add, Nat.add_zero, bI_or, bI_True, bI_False, Bool.false_eq_true, reduceCtorEq, eq_self, gi_si, gl_si, gr_si, hn_si, hL_si, hX_si, gi_sl, gl_sl, gr_sl, hn_sl, ob_si, ar_si, ob_sl, ar_sl, ks_296_0, ks_296_1, ks_296_2, ks_296_3, oO, n1, Cal_eq rd1, oO3, n3, Cal_eq rd2, oO_4, t4_4, y4_4, z4_4, m4, Cal_eq r5, oO5, Cal_eq r6])
        exact hK
      · have m4 : gi h4 91 p = zI (-9) := by rw [eM_4 p (by omega)]; exact mI_f h6
        (refine wp_go 600 ks_296_1.2.2.2.2.2.2.2.2.2.2.1 ?_; simp (disch := first | with_reducible assumption | omega | (simp only [ob_si, ar_si, ob_sl, ar_sl]; with_reducible assumption)) only [ci_0, ci_1, ci_20, ci_30, cm_9, inc_i, ldA_a, ldI_i, oc_201, oc_217, oc_219, oc_220, oc_222, oc_236, oc_237, oc_295, r_0, r_10, r_2, r_3, r_30, r_32, r_34, r_36, r_41, r_44, r_6, r_60, r_62, r_63, r_70, r_80_1, r_80_2, r_80_3, r_81_3, r_9, r_90, wpn_S, wpn_zero, stp_h, lk_0, lk_s, st1_0, st1_1, st1_2, st2_0, st2_1, st2_2, kj_i, kj_a, kj_l, kj_n, cat_n, cat_i, cat_a, cat_u, cat_l, vc_i, vc_a, rv_s, tl_n, tl_s, Cal'_s, List.length_cons, List.length_nil, i0, i1, iNd, iN_lt, iN_le, iN_eq, iN_add, iN_mul, iN_mod, iN_sub, iN_div, iN_clamp, iN_inb, zle_N, zlt_N, zN_le, zN_lt, zN_eq, Nz_eq, mI_t, mI_f, bI_0, bI_1, bI_t, bI_f, dltT, dltF, dleT, dleF, deqT, deqF, Nat.not_lt_zero, not_true_eq_false, not_false_eq_true, true_and, and_true, false_and, and_false, or_true, true_or, false_or, or_false, and_self, if_true, if_false, Classical.not_not, Nat.add_assoc, Nat.zero_add, Nat.add_zero, bI_or, bI_True, bI_False, Bool.false_eq_true, reduceCtorEq, eq_self, gi_si, gl_si, gr_si, hn_si, hL_si, hX_si, gi_sl, gl_sl, gr_sl, hn_sl, ob_si, ar_si, ob_sl, ar_sl, ks_296_0, ks_296_1, ks_296_2, ks_296_3, oO, n1, Cal_eq rd1, oO3, n3, Cal_eq rd2, oO_4, t4_4, y4_4, z4_4, m4, Cal_eq r5, oO5, Cal_eq r6])
        exact hK
theorem Fo_y32 {h h' : Hp} (f : Fo Sq Fy32 h h') : Fo Sy Fy h h' := f.mono (fun o ho => by unfold Sq at ho; unfold Sy; omega) (fun k hk => by unfold Fy32 Fq at hk; unfold Fy; omega)
theorem zerQ_b {x : Mt} (hW : Wf x) : zerQ x ≤ 36 := by
  have hn := hW.1
  have h1 : ∀ i a, itr (fun j a => if xQ x i j = 0 then a + 1 else a) (i + 1) (xN x - (i + 1)) a ≤ a + 6 := by
    intro i a
    have := itr_bd (f := fun j a => if xQ x i j = 0 then a + 1 else a) (c := 1) (fun j a => by show (if xQ x i j = 0 then a + 1 else a) ≤ a + 1; split <;> omega) (xN x - (i + 1)) (i + 1) a
    omega
  have h2 := itr_bd (f := fun i a => itr (fun j a => if xQ x i j = 0 then a + 1 else a) (i + 1) (xN x - (i + 1)) a) (c := 6) h1 (xN x) 0 0
  unfold zerQ
  omega
set_option maxHeartbeats 8000000 in
theorem op_lots {s : Gs} (hs : GW s) (a b c : Int32) : OpOk 187 296 [.int a, .int b, .int c] s := by
  by_cases b0 : a < iN 1
  · obtain ⟨b1, b2⟩ := raw_lt b0
    refine op_refuse hs (k := 4) (by decide) (v := .int (zI (-4))) (fun h hB hI => Ret.up (d := 7) ?_ (by decide)) (fun h hB hI => Ret.up (d := 3) ?_ (by decide))
    · obtain ⟨oF, g0, g1, g2, g4, g5, g6, g7, g8, g9, g10, g11, g12, g13, o21, o22, o23, o28, o29, o32, o34, o36, oM⟩ := F_facts hB; obtain ⟨hA, iI, ⟨nx, hP⟩, hR, hL, hF, hT⟩ := id hI; have hW := hs.1; have hm : isM 1 := Or.inl rfl; have wN := hW.1
      refine Ret_L [some (.ref 0), some (.int a), some (.int b), some (.int c)] rfl rfl fun Q hQ => ?_
      (refine wp_go 600 ks_187_0.1 ?_; simp (disch := first | with_reducible assumption | omega | (simp only [ob_si, ar_si, ob_sl, ar_sl]; with_reducible assumption)) only [ci_1, ci_20, cm_2, cm_4, cm_6, ldA_a, ldI_i, oc_15, oc_16, oc_17, oc_191, r_0, r_2, r_30, r_32, r_33, r_44, r_46, r_6, r_62, r_80_1, r_80_2, r_80_3, r_90, wpn_S, wpn_zero, stp_h, lk_0, lk_s, st1_0, st1_1, st1_2, st2_0, st2_1, st2_2, kj_i, kj_a, kj_l, kj_n, cat_n, cat_i, cat_a, cat_u, cat_l, vc_i, vc_a, rv_s, tl_n, tl_s, Cal'_s, List.length_cons, List.length_nil, i0, i1, iNd, iN_lt, iN_le, iN_eq, iN_add, iN_mul, iN_mod, iN_sub, iN_div, iN_clamp, iN_inb, zle_N, zlt_N, zN_le, zN_lt, zN_eq, Nz_eq, mI_t, mI_f, bI_0, bI_1, bI_t, bI_f, dltT, dltF, dleT, dleF, deqT, deqF, Nat.not_lt_zero, not_true_eq_false, not_false_eq_true, true_and, and_true, false_and, and_false, or_true, true_or, false_or, or_false, and_self, if_true, if_false, Classical.not_not, Nat.add_assoc, Nat.zero_add, Nat.add_zero, bI_or, bI_True, bI_False, Bool.false_eq_true, reduceCtorEq, eq_self, gi_si, gl_si, gr_si, hn_si, hL_si, hX_si, gi_sl, gl_sl, gr_sl, hn_sl, ob_si, ar_si, ob_sl, ar_sl, ks_187_0, ks_187_1, oF, g0, g1, g2, g4, g5, g6, g7, g8, g9, g10, g11, g12, g13, o21, o22, o23, o28, o29, o32, o34, o36, oM, b1, b2, c_ref4_q hB])
      exact hQ
    · have oO := (O_facts hB).1; obtain ⟨hA, hIr, f0⟩ := IO_0 hI; replace hB := Bs.si hB 87 7 (iN 0); have hW := hs.1; obtain ⟨oO2, rO1, rO2, rO3, rO4, rO5, rO8, aO1, aO2, aO3, aO4, aO5, aO8, sO1, sO2, sO3, sO4, sO5, sO8⟩ := O_facts hB; obtain ⟨fN, fD, fK, fF, fH, fM, fQ⟩ := id hA; obtain ⟨wN, wK, wF, wH, wM, wQ, wS, wZ, wT⟩ := id hW
      refine Ret_L [some (.ref 87), some (.int a), some (.int b), some (.int c), none, none, none, none, none, none] rfl rfl fun Q hQ => ?_
      (refine wp_go 600 ks_296_0.1 ?_; simp (disch := first | with_reducible assumption | omega | (simp only [ob_si, ar_si, ob_sl, ar_sl]; with_reducible assumption)) only [ci_0, ci_1, ci_20, ci_30, cm_9, inc_i, ldA_a, ldI_i, oc_201, oc_217, oc_219, oc_220, oc_222, oc_236, oc_237, oc_295, r_0, r_10, r_2, r_3, r_30, r_32, r_34, r_36, r_41, r_44, r_6, r_60, r_62, r_63, r_70, r_80_1, r_80_2, r_80_3, r_81_3, r_9, r_90, wpn_S, wpn_zero, stp_h, lk_0, lk_s, st1_0, st1_1, st1_2, st2_0, st2_1, st2_2, kj_i, kj_a, kj_l, kj_n, cat_n, cat_i, cat_a, cat_u, cat_l, vc_i, vc_a, rv_s, tl_n, tl_s, Cal'_s, List.length_cons, List.length_nil, i0, i1, iNd, iN_lt, iN_le, iN_eq, iN_add, iN_mul, iN_mod, iN_sub, iN_div, iN_clamp, iN_inb, zle_N, zlt_N, zN_le, zN_lt, zN_eq, Nz_eq, mI_t, mI_f, bI_0, bI_1, bI_t, bI_f, dltT, dltF, dleT, dleF, deqT, deqF, Nat.not_lt_zero, not_true_eq_false, not_false_eq_true, true_and, and_true, false_and, and_false, or_true, true_or, false_or, or_false, and_self, if_true, if_false, Classical.not_not, Nat.add_assoc, Nat.zero_add, Nat.add_zero, bI_or, bI_True, bI_False, Bool.false_eq_true, reduceCtorEq, eq_self, gi_si, gl_si, gr_si, hn_si, hL_si, hX_si, gi_sl, gl_sl, gr_sl, hn_sl, ob_si, ar_si, ob_sl, ar_sl, ks_296_0, ks_296_1, ks_296_2, ks_296_3, oO, o_wn_q trivial, b1, b2, o_ref4_q hB, o_wb_q])
      exact hQ
  · obtain ⟨b1, b2⟩ := raw_ge b0
    by_cases c0 : iN 20 < a
    · obtain ⟨c1, c2⟩ := raw_gt c0
      refine op_refuse hs (k := 6) (by decide) (v := .int (zI (-6))) (fun h hB hI => Ret.up (d := 7) ?_ (by decide)) (fun h hB hI => Ret.up (d := 3) ?_ (by decide))
      · obtain ⟨oF, g0, g1, g2, g4, g5, g6, g7, g8, g9, g10, g11, g12, g13, o21, o22, o23, o28, o29, o32, o34, o36, oM⟩ := F_facts hB; obtain ⟨hA, iI, ⟨nx, hP⟩, hR, hL, hF, hT⟩ := id hI; have hW := hs.1; have hm : isM 1 := Or.inl rfl; have wN := hW.1
        refine Ret_L [some (.ref 0), some (.int a), some (.int b), some (.int c)] rfl rfl fun Q hQ => ?_
        (refine wp_go 600 ks_187_0.1 ?_; simp (disch := first | with_reducible assumption | omega | (simp only [ob_si, ar_si, ob_sl, ar_sl]; with_reducible assumption)) only [ci_1, ci_20, cm_2, cm_4, cm_6, ldA_a, ldI_i, oc_15, oc_16, oc_17, oc_191, r_0, r_2, r_30, r_32, r_33, r_44, r_46, r_6, r_62, r_80_1, r_80_2, r_80_3, r_90, wpn_S, wpn_zero, stp_h, lk_0, lk_s, st1_0, st1_1, st1_2, st2_0, st2_1, st2_2, kj_i, kj_a, kj_l, kj_n, cat_n, cat_i, cat_a, cat_u, cat_l, vc_i, vc_a, rv_s, tl_n, tl_s, Cal'_s, List.length_cons, List.length_nil, i0, i1, iNd, iN_lt, iN_le, iN_eq, iN_add, iN_mul, iN_mod, iN_sub, iN_div, iN_clamp, iN_inb, zle_N, zlt_N, zN_le, zN_lt, zN_eq, Nz_eq, mI_t, mI_f, bI_0, bI_1, bI_t, bI_f, dltT, dltF, dleT, dleF, deqT, deqF, Nat.not_lt_zero, not_true_eq_false, not_false_eq_true, true_and, and_true, false_and, and_false, or_true, true_or, false_or, or_false, and_self, if_true, if_false, Classical.not_not, Nat.add_assoc, Nat.zero_add, Nat.add_zero, bI_or, bI_True, bI_False, Bool.false_eq_true, reduceCtorEq, eq_self, gi_si, gl_si, gr_si, hn_si, hL_si, hX_si, gi_sl, gl_sl, gr_sl, hn_sl, ob_si, ar_si, ob_sl, ar_sl, ks_187_0, ks_187_1, oF, g0, g1, g2, g4, g5, g6, g7, g8, g9, g10, g11, g12, g13, o21, o22, o23, o28, o29, o32, o34, o36, oM, b1, b2, c1, c2, c_ref6_q hB])
        exact hQ
      · have oO := (O_facts hB).1; obtain ⟨hA, hIr, f0⟩ := IO_0 hI; replace hB := Bs.si hB 87 7 (iN 0); have hW := hs.1; obtain ⟨oO2, rO1, rO2, rO3, rO4, rO5, rO8, aO1, aO2, aO3, aO4, aO5, aO8, sO1, sO2, sO3, sO4, sO5, sO8⟩ := O_facts hB; obtain ⟨fN, fD, fK, fF, fH, fM, fQ⟩ := id hA; obtain ⟨wN, wK, wF, wH, wM, wQ, wS, wZ, wT⟩ := id hW
        refine Ret_L [some (.ref 87), some (.int a), some (.int b), some (.int c), none, none, none, none, none, none] rfl rfl fun Q hQ => ?_
        (refine wp_go 600 ks_296_0.1 ?_; simp (disch := first | with_reducible assumption | omega | (simp only [ob_si, ar_si, ob_sl, ar_sl]; with_reducible assumption)) only [ci_0, ci_1, ci_20, ci_30, cm_9, inc_i, ldA_a, ldI_i, oc_201, oc_217, oc_219, oc_220, oc_222, oc_236, oc_237, oc_295, r_0, r_10, r_2, r_3, r_30, r_32, r_34, r_36, r_41, r_44, r_6, r_60, r_62, r_63, r_70, r_80_1, r_80_2, r_80_3, r_81_3, r_9, r_90, wpn_S, wpn_zero, stp_h, lk_0, lk_s, st1_0, st1_1, st1_2, st2_0, st2_1, st2_2, kj_i, kj_a, kj_l, kj_n, cat_n, cat_i, cat_a, cat_u, cat_l, vc_i, vc_a, rv_s, tl_n, tl_s, Cal'_s, List.length_cons, List.length_nil, i0, i1, iNd, iN_lt, iN_le, iN_eq, iN_add, iN_mul, iN_mod, iN_sub, iN_div, iN_clamp, iN_inb, zle_N, zlt_N, zN_le, zN_lt, zN_eq, Nz_eq, mI_t, mI_f, bI_0, bI_1, bI_t, bI_f, dltT, dltF, dleT, dleF, deqT, deqF, Nat.not_lt_zero, not_true_eq_false, not_false_eq_true, true_and, and_true, false_and, and_false, or_true, true_or, false_or, or_false, and_self, if_true, if_false, Classical.not_not, Nat.add_assoc, Nat.zero_add, Nat.add_zero, bI_or, bI_True, bI_False, Bool.false_eq_true, reduceCtorEq, eq_self, gi_si, gl_si, gr_si, hn_si, hL_si, hX_si, gi_sl, gl_sl, gr_sl, hn_sl, ob_si, ar_si, ob_sl, ar_sl, ks_296_0, ks_296_1, ks_296_2, ks_296_3, oO, o_wn_q trivial, b1, b2, c1, c2, o_ref6_q hB, o_wb_q])
        exact hQ
    · obtain ⟨n, hn1, hn, rfl⟩ := ex_le1 b0 c0 (by omega)
      clear b0 b1 b2 c0
      by_cases hw : isP 2 c
      · obtain ⟨w, hw, rfl⟩ := hw
        rcases (show w = 0 ∨ w = 1 by omega) with rfl | rfl
        · refine op_query hs (v := .int (iN (yrN (gX s) n b).2.1)) (fun h hB hI => ?_) (fun h hB hI => ?_)
          · obtain ⟨oF, g0, g1, g2, g4, g5, g6, g7, g8, g9, g10, g11, g12, g13, o21, o22, o23, o28, o29, o32, o34, o36, oM⟩ := F_facts hB; obtain ⟨hA, iI, ⟨nx, hP⟩, hR, hL, hF, hT⟩ := id hI; have hW := hs.1; have hm : isM 1 := Or.inl rfl; have wN := hW.1
            obtain ⟨h1, r1, e4, e5, f1⟩ := l_run (n := n) (z := b) hB hA hW (by omega)
            have B1 := f1.bs hB
            obtain ⟨oF_1, k0_1, k1_1, k2_1, k4_1, k5_1, k6_1, k7_1, k8_1, k9_1, k10_1, k11_1, k12_1, k13_1, u21_1, u22_1, u23_1, u28_1, u29_1, u32_1, u34_1, u36_1, uM_1⟩ := F_facts B1
            refine ⟨h1, Ret.up (d := 7) ?_ (by decide), Fr_zl f1⟩
            refine Ret_L [some (.ref 0), some (.int (iN n)), some (.int b), some (.int (iN 0))] rfl rfl fun Q hQ => ?_
            (refine wp_go 600 ks_187_0.1 ?_; simp (disch := first | with_reducible assumption | omega | (simp only [ob_si, ar_si, ob_sl, ar_sl]; with_reducible assumption)) only [ci_1, ci_20, cm_2, cm_4, cm_6, ldA_a, ldI_i, oc_15, oc_16, oc_17, oc_191, r_0, r_2, r_30, r_32, r_33, r_44, r_46, r_6, r_62, r_80_1, r_80_2, r_80_3, r_90, wpn_S, wpn_zero, stp_h, lk_0, lk_s, st1_0, st1_1, st1_2, st2_0, st2_1, st2_2, kj_i, kj_a, kj_l, kj_n, cat_n, cat_i, cat_a, cat_u, cat_l, vc_i, vc_a, rv_s, tl_n, tl_s, Cal'_s, List.length_cons, List.length_nil, i0, i1, iNd, iN_lt, iN_le, iN_eq, iN_add, iN_mul, iN_mod, iN_sub, iN_div, iN_clamp, iN_inb, zle_N, zlt_N, zN_le, zN_lt, zN_eq, Nz_eq, mI_t, mI_f, bI_0, bI_1, bI_t, bI_f, dltT, dltF, dleT, dleF, deqT, deqF, Nat.not_lt_zero, not_true_eq_false, not_false_eq_true, true_and, and_true, false_and, and_false, or_true, true_or, false_or, or_false, and_self, if_true, if_false, Classical.not_not, Nat.add_assoc, Nat.zero_add, Nat.add_zero, bI_or, bI_True, bI_False, Bool.false_eq_true, reduceCtorEq, eq_self, gi_si, gl_si, gr_si, hn_si, hL_si, hX_si, gi_sl, gl_sl, gr_sl, hn_sl, ob_si, ar_si, ob_sl, ar_sl, ks_187_0, ks_187_1, oF, g0, g1, g2, g4, g5, g6, g7, g8, g9, g10, g11, g12, g13, o21, o22, o23, o28, o29, o32, o34, o36, oM, oF_1, k0_1, k1_1, k2_1, k4_1, k5_1, k6_1, k7_1, k8_1, k9_1, k10_1, k11_1, k12_1, k13_1, u21_1, u22_1, u23_1, u28_1, u29_1, u32_1, u34_1, u36_1, uM_1, Cal_eq r1, l_qt_q B1, e4, e5])
            exact hQ
          · have oO := (O_facts hB).1; obtain ⟨hA, hIr, f0⟩ := IO_0 hI; replace hB := Bs.si hB 87 7 (iN 0); have hW := hs.1; obtain ⟨oO2, rO1, rO2, rO3, rO4, rO5, rO8, aO1, aO2, aO3, aO4, aO5, aO8, sO1, sO2, sO3, sO4, sO5, sO8⟩ := O_facts hB; obtain ⟨fN, fD, fK, fF, fH, fM, fQ⟩ := id hA; obtain ⟨wN, wK, wF, wH, wM, wQ, wS, wZ, wT⟩ := id hW
            generalize gX s = x at *
            have key : ∀ Q : Option Value → Hp → Prop, (∀ h', Ao h' x → Fo Sy Fy h h' → Q (some (.int (iN (yrN x n b).2.1))) h') → wp 3 296 0 [some (.ref 87), some (.int (iN n)), some (.int b), some (.int (iN 0)), none, none, none, none, none, none] [] h Q := by
              intro Q hQ
              have B0 := hB.si 87 32 b
              have A0 : Ao (si (si h 87 7 (iN 0)) 87 32 b) x := Ao_f hA (by omega) (by omega) _
              have z0 : gi (si (si h 87 7 (iN 0)) 87 32 b) 87 32 = b := by rw [gi_si, up_s, up_s]
              have F0 : Fo Sy Fy h (si (si h 87 7 (iN 0)) 87 32 b) := f0.sf (by unfold Fy; omega) _
              have oO_0 := (O_facts B0).1
              obtain ⟨h1, r1, A1, K1, f1⟩ := wo_think B0 A0
              have z1 : gi h1 87 32 = b := by rw [f1.2 32 (by unfold Fc; omega)]; exact z0
              have F1 : Fo Sy Fy h h1 := F0.tr (Fo_y98 f1)
              have fin : ∀ (h2 : Hp) (w : Nat) (k : Nat) (r1 r2 r3 : Option Value), k ≤ n → (¬ k < n ∨ xN x = 0) → w = (yrN x n b).2.1 → Ao h2 x → Fo Sy Fy h h2 → wp 3 296 46 [some (.ref 87), some (.int (iN n)), some (.int b), some (.int (iN 0)), some (.int (iN 0)), some (.int (iN w)), some (.int (iN k)), r1, r2, r3] [] h2 Q := by
                rintro h2 w k r1 r2 r3 hk hc rfl A2 F2
                have hQ := hQ h2 A2 F2
                have oO_2 := (O_facts (F2.bs hB)).1
                have n2 : gi h2 87 0 = iN (xN x) := A2.1
                by_cases hkn : k < n
                · have h0 : xN x = 0 := hc.elim (fun e => absurd hkn e) id
                  rw [h0] at n2
                  (refine wp_go 600 ks_296_1.2.2.1 ?_; simp (disch := first | with_reducible assumption | omega | (simp only [ob_si, ar_si, ob_sl, ar_sl]; with_reducible assumption)) only [ci_0, ci_1, ci_20, ci_30, cm_9, inc_i, ldA_a, ldI_i, oc_201, oc_217, oc_219, oc_220, oc_222, oc_236, oc_237, oc_295, r_0, r_10, r_2, r_3, r_30, r_32, r_34, r_36, r_41, r_44, r_6, r_60, r_62, r_63, r_70, r_80_1, r_80_2, r_80_3, r_81_3, r_9, r_90, wpn_S, wpn_zero, stp_h, lk_0, lk_s, st1_0, st1_1, st1_2, st2_0, st2_1, st2_2, kj_i, kj_a, kj_l, kj_n, cat_n, cat_i, cat_a, cat_u, cat_l, vc_i, vc_a, rv_s, tl_n, tl_s, Cal'_s, List.length_cons, List.length_nil, i0, i1, iNd, iN_lt, iN_le, iN_eq, iN_add, iN_mul, iN_mod, iN_sub, iN_div, iN_clamp, iN_inb, zle_N, zlt_N, zN_le, zN_lt, zN_eq, Nz_eq, mI_t, mI_f, bI_0, bI_1, bI_t, bI_f, dltT, dltF, dleT, dleF, deqT, deqF, Nat.not_lt_zero, not_true_eq_false, not_false_eq_true, true_and, and_true, false_and, and_false, or_true, true_or, false_or, or_false, and_self, if_true, if_false, Classical.not_not, Nat.add_assoc, Nat.zero_add, Nat.add_zero, bI_or, bI_True, bI_False, Bool.false_eq_true, reduceCtorEq, eq_self, gi_si, gl_si, gr_si, hn_si, hL_si, hX_si, gi_sl, gl_sl, gr_sl, hn_sl, ob_si, ar_si, ob_sl, ar_sl, ks_296_0, ks_296_1, ks_296_2, ks_296_3, oO_2, n2])
                  exact hQ
                · (refine wp_go 600 ks_296_1.2.2.1 ?_; simp (disch := first | with_reducible assumption | omega | (simp only [ob_si, ar_si, ob_sl, ar_sl]; with_reducible assumption)) only [ci_0, ci_1, ci_20, ci_30, cm_9, inc_i, ldA_a, ldI_i, oc_201, oc_217, oc_219, oc_220, oc_222, oc_236, oc_237, oc_295, r_0, r_10, r_2, r_3, r_30, r_32, r_34, r_36, r_41, r_44, r_6, r_60, r_62, r_63, r_70, r_80_1, r_80_2, r_80_3, r_81_3, r_9, r_90, wpn_S, wpn_zero, stp_h, lk_0, lk_s, st1_0, st1_1, st1_2, st2_0, st2_1, st2_2, kj_i, kj_a, kj_l, kj_n, cat_n, cat_i, cat_a, cat_u, cat_l, vc_i, vc_a, rv_s, tl_n, tl_s, Cal'_s, List.length_cons, List.length_nil, i0, i1, iNd, iN_lt, iN_le, iN_eq, iN_add, iN_mul, iN_mod, iN_sub, iN_div, iN_clamp, iN_inb, zle_N, zlt_N, zN_le, zN_lt, zN_eq, Nz_eq, mI_t, mI_f, bI_0, bI_1, bI_t, bI_f, dltT, dltF, dleT, dleF, deqT, deqF, Nat.not_lt_zero, not_true_eq_false, not_false_eq_true, true_and, and_true, false_and, and_false, or_true, true_or, false_or, or_false, and_self, if_true, if_false, Classical.not_not, Nat.add_assoc, Nat.zero_add, Nat.add_zero, bI_or, bI_True, bI_False, Bool.false_eq_true, reduceCtorEq, eq_self, gi_si, gl_si, gr_si, hn_si, hL_si, hX_si, gi_sl, gl_sl, gr_sl, hn_sl, ob_si, ar_si, ob_sl, ar_sl, ks_296_0, ks_296_1, ks_296_2, ks_296_3, oO_2, n2])
                  exact hQ
              (refine wp_go 600 ks_296_0.1 ?_; simp (disch := first | with_reducible assumption | omega | (simp only [ob_si, ar_si, ob_sl, ar_sl]; with_reducible assumption)) only [ci_0, ci_1, ci_20, ci_30, cm_9, inc_i, ldA_a, ldI_i, oc_201, oc_217, oc_219, oc_220, oc_222, oc_236, oc_237, oc_295, r_0, r_10, r_2, r_3, r_30, r_32, r_34, r_36, r_41, r_44, r_6, r_60, r_62, r_63, r_70, r_80_1, r_80_2, r_80_3, r_81_3, r_9, r_90, wpn_S, wpn_zero, stp_h, lk_0, lk_s, st1_0, st1_1, st1_2, st2_0, st2_1, st2_2, kj_i, kj_a, kj_l, kj_n, cat_n, cat_i, cat_a, cat_u, cat_l, vc_i, vc_a, rv_s, tl_n, tl_s, Cal'_s, List.length_cons, List.length_nil, i0, i1, iNd, iN_lt, iN_le, iN_eq, iN_add, iN_mul, iN_mod, iN_sub, iN_div, iN_clamp, iN_inb, zle_N, zlt_N, zN_le, zN_lt, zN_eq, Nz_eq, mI_t, mI_f, bI_0, bI_1, bI_t, bI_f, dltT, dltF, dleT, dleF, deqT, deqF, Nat.not_lt_zero, not_true_eq_false, not_false_eq_true, true_and, and_true, false_and, and_false, or_true, true_or, false_or, or_false, and_self, if_true, if_false, Classical.not_not, Nat.add_assoc, Nat.zero_add, Nat.add_zero, bI_or, bI_True, bI_False, Bool.false_eq_true, reduceCtorEq, eq_self, gi_si, gl_si, gr_si, hn_si, hL_si, hX_si, gi_sl, gl_sl, gr_sl, hn_sl, ob_si, ar_si, ob_sl, ar_sl, ks_296_0, ks_296_1, ks_296_2, ks_296_3, oO, oO2, rO1, rO2, rO3, rO4, rO5, rO8, aO1, aO2, aO3, aO4, aO5, aO8, fN, fD, fK, fF, fH, fM, fQ, o_wn_q trivial, o_wb0_q, isP_N, o_in_q trivial, isP_in, oO_0, Cal_eq r1])
              by_cases h0 : xN x = 0
              · refine fin h1 0 0 none none none (by omega) (Or.inr h0) ?_ A1 F1
                unfold yrN
                rw [if_pos h0]
              · have hn0 : 0 < xN x := by omega
                have hyr : ∀ k, (rp (yrS x) k (b, 0, 0)).2.1 ≤ 3564 * k := by
                  intro k
                  induction k with
                  | zero => exact Nat.le_refl _
                  | succ k ih =>
                    rw [rp_s]
                    have hw := (lyS_Pk (n := xN x) hn0 (show lyP (xN x) ((rp (yrS x) k (b, 0, 0)).1, x) from ⟨hW, rfl⟩) 30).1
                    have hb1 := allQ_b hw
                    have hb2 := zerQ_b hw
                    show (rp (yrS x) k (b, 0, 0)).2.1 + allQ (rp (lyS (xN x)) 30 ((rp (yrS x) k (b, 0, 0)).1, x)).2 ≤ 3564 * (k + 1)
                    omega
                refine wp_loop (fun k L h' => ∃ r1 r2 r3, Ao h' x ∧ gi h' 87 32 = (rp (yrS x) k (b, 0, 0)).1 ∧ Kx h' 98 x ∧ Fo Sy Fy h h' ∧ L = [some (.ref 87), some (.int (iN n)), some (.int b), some (.int (iN 0)), some (.int (iN 0)), some (.int (iN (rp (yrS x) k (b, 0, 0)).2.1)), some (.int (iN k)), r1, r2, r3]) n ?_ ?_ n 0 _ h1 (by omega) ⟨none, none, none, A1, z1, K1, F1, rfl⟩
                · rintro k L h2 hk ⟨r1, r2, r3, A2, z2, K2, F2, rfl⟩ hnx
                  have B2 := F2.bs hB
                  have oO_2 := (O_facts B2).1
                  have n2 : gi h2 87 0 = iN (xN x) := A2.1
                  have hyk := hyr k
                  have hyk2 := hyr (k + 1)
                  have rps : rp (yrS x) (k + 1) (b, 0, 0) = yrS x (rp (yrS x) k (b, 0, 0)) := rfl
                  rw [rps] at hnx hyk2
                  generalize rp (yrS x) k (b, 0, 0) = st at *
                  obtain ⟨zz, qa, qz⟩ := st
                  change gi h2 87 32 = zz at z2
                  simp only at hyk
                  (refine wp_go 600 ks_296_1.2.2.1 ?_; simp (disch := first | with_reducible assumption | omega | (simp only [ob_si, ar_si, ob_sl, ar_sl]; with_reducible assumption)) only [ci_0, ci_1, ci_20, ci_30, cm_9, inc_i, ldA_a, ldI_i, oc_201, oc_217, oc_219, oc_220, oc_222, oc_236, oc_237, oc_295, r_0, r_10, r_2, r_3, r_30, r_32, r_34, r_36, r_41, r_44, r_6, r_60, r_62, r_63, r_70, r_80_1, r_80_2, r_80_3, r_81_3, r_9, r_90, wpn_S, wpn_zero, stp_h, lk_0, lk_s, st1_0, st1_1, st1_2, st2_0, st2_1, st2_2, kj_i, kj_a, kj_l, kj_n, cat_n, cat_i, cat_a, cat_u, cat_l, vc_i, vc_a, rv_s, tl_n, tl_s, Cal'_s, List.length_cons, List.length_nil, i0, i1, iNd, iN_lt, iN_le, iN_eq, iN_add, iN_mul, iN_mod, iN_sub, iN_div, iN_clamp, iN_inb, zle_N, zlt_N, zN_le, zN_lt, zN_eq, Nz_eq, mI_t, mI_f, bI_0, bI_1, bI_t, bI_f, dltT, dltF, dleT, dleF, deqT, deqF, Nat.not_lt_zero, not_true_eq_false, not_false_eq_true, true_and, and_true, false_and, and_false, or_true, true_or, false_or, or_false, and_self, if_true, if_false, Classical.not_not, Nat.add_assoc, Nat.zero_add, Nat.add_zero, bI_or, bI_True, bI_False, Bool.false_eq_true, reduceCtorEq, eq_self, gi_si, gl_si, gr_si, hn_si, hL_si, hX_si, gi_sl, gl_sl, gr_sl, hn_sl, ob_si, ar_si, ob_sl, ar_sl, ks_296_0, ks_296_1, ks_296_2, ks_296_3, oO_2, n2])
                  refine wp_loop (fun d L h' => ∃ w1 w2, Ao h' (rp (lyS (xN x)) d (zz, x)).2 ∧ gi h' 87 32 = (rp (lyS (xN x)) d (zz, x)).1 ∧ Kx h' 98 x ∧ Fo Sy Fy h h' ∧ L = [some (.ref 87), some (.int (iN n)), some (.int b), some (.int (iN 0)), some (.int (iN 0)), some (.int (iN (zz, qa, qz).2.1)), some (.int (iN k)), some (.int (iN d)), w1, w2]) 30 ?_ ?_ 30 0 _ h2 (by omega) ⟨_, _, A2, z2, K2, F2, rfl⟩
                  · rintro d L h3 hd ⟨w1, w2, A3, z3, K3, F3, rfl⟩ hny
                    have B3 := F3.bs hB
                    obtain ⟨W3, N3⟩ := lyS_Pk (n := xN x) hn0 (show lyP (xN x) (zz, x) from ⟨hW, rfl⟩) d
                    have rps : rp (lyS (xN x)) (d + 1) (zz, x) = lyS (xN x) (rp (lyS (xN x)) d (zz, x)) := rfl
                    rw [rps] at hny
                    generalize rp (lyS (xN x)) d (zz, x) = a at *
                    obtain ⟨z9, y⟩ := a
                    refine wo_lot (a0 := none) (a7 := none) (y := y) (zz := z9) B3 A3 W3 N3 wN hn0 z3 hd fun h' v1 v2 A4 z4 f4 => ?_
                    exact hny _ h' ⟨v1, v2, A4, z4, K3.fr f4 (by unfold Sq; omega) (by omega), F3.tr (Fo_y32 f4), rfl⟩
                  · rintro L h3 ⟨w1, w2, A3, z3, K3, F3, rfl⟩
                    have B3 := F3.bs hB
                    have oO_3 := (O_facts B3).1
                    obtain ⟨W3, N3⟩ := lyS_Pk (n := xN x) hn0 (show lyP (xN x) (zz, x) from ⟨hW, rfl⟩) 30
                    have rq := o_allQ B3 A3 W3
                    obtain ⟨h4, r4, A4, K4, f4⟩ := wo_again B3 K3
                    have hnx := hnx _ h4 ⟨some (.int (iN 30)), w1, w2, A4, by rw [f4.2 32 (by unfold Fc; omega)]; exact z3, K4, F3.tr (Fo_y98 f4), rfl⟩
                    (refine wp_go 600 ks_296_1.2.2.2.2.2.2.2.2.2.2.1 ?_; simp (disch := first | with_reducible assumption | omega | (simp only [ob_si, ar_si, ob_sl, ar_sl]; with_reducible assumption)) only [ci_0, ci_1, ci_20, ci_30, cm_9, inc_i, ldA_a, ldI_i, oc_201, oc_217, oc_219, oc_220, oc_222, oc_236, oc_237, oc_295, r_0, r_10, r_2, r_3, r_30, r_32, r_34, r_36, r_41, r_44, r_6, r_60, r_62, r_63, r_70, r_80_1, r_80_2, r_80_3, r_81_3, r_9, r_90, wpn_S, wpn_zero, stp_h, lk_0, lk_s, st1_0, st1_1, st1_2, st2_0, st2_1, st2_2, kj_i, kj_a, kj_l, kj_n, cat_n, cat_i, cat_a, cat_u, cat_l, vc_i, vc_a, rv_s, tl_n, tl_s, Cal'_s, List.length_cons, List.length_nil, i0, i1, iNd, iN_lt, iN_le, iN_eq, iN_add, iN_mul, iN_mod, iN_sub, iN_div, iN_clamp, iN_inb, zle_N, zlt_N, zN_le, zN_lt, zN_eq, Nz_eq, mI_t, mI_f, bI_0, bI_1, bI_t, bI_f, dltT, dltF, dleT, dleF, deqT, deqF, Nat.not_lt_zero, not_true_eq_false, not_false_eq_true, true_and, and_true, false_and, and_false, or_true, true_or, false_or, or_false, and_self, if_true, if_false, Classical.not_not, Nat.add_assoc, Nat.zero_add, Nat.add_zero, bI_or, bI_True, bI_False, Bool.false_eq_true, reduceCtorEq, eq_self, gi_si, gl_si, gr_si, hn_si, hL_si, hX_si, gi_sl, gl_sl, gr_sl, hn_sl, ob_si, ar_si, ob_sl, ar_sl, ks_296_0, ks_296_1, ks_296_2, ks_296_3, oO_3, Cal_eq rq, Cal_eq r4])
                    exact hnx
                · rintro L h2 ⟨r1, r2, r3, A2, z2, K2, F2, rfl⟩
                  refine fin h2 _ n r1 r2 r3 (Nat.le_refl _) (Or.inl (Nat.lt_irrefl _)) ?_ A2 F2
                  unfold yrN
                  rw [if_neg h0]
            obtain ⟨v, h', r, rfl, A, f⟩ := Ret_ex (d := 3) (y := 296) (as := [.ref 87, .int (iN n), .int b, .int (iN 0)]) [some (.ref 87), some (.int (iN n)), some (.int b), some (.int (iN 0)), none, none, none, none, none, none] rfl rfl (key (fun v h' => v = some (.int (iN (yrN x n b).2.1)) ∧ Ao h' x ∧ Fo Sy Fy h h') fun h' a b => ⟨rfl, a, b⟩)
            exact ⟨h', Ret.up (d := 3) r (by decide), A, f⟩
        · refine op_query hs (v := .int (iN (yrN (gX s) n b).2.2)) (fun h hB hI => ?_) (fun h hB hI => ?_)
          · obtain ⟨oF, g0, g1, g2, g4, g5, g6, g7, g8, g9, g10, g11, g12, g13, o21, o22, o23, o28, o29, o32, o34, o36, oM⟩ := F_facts hB; obtain ⟨hA, iI, ⟨nx, hP⟩, hR, hL, hF, hT⟩ := id hI; have hW := hs.1; have hm : isM 1 := Or.inl rfl; have wN := hW.1
            obtain ⟨h1, r1, e4, e5, f1⟩ := l_run (n := n) (z := b) hB hA hW (by omega)
            have B1 := f1.bs hB
            obtain ⟨oF_1, k0_1, k1_1, k2_1, k4_1, k5_1, k6_1, k7_1, k8_1, k9_1, k10_1, k11_1, k12_1, k13_1, u21_1, u22_1, u23_1, u28_1, u29_1, u32_1, u34_1, u36_1, uM_1⟩ := F_facts B1
            refine ⟨h1, Ret.up (d := 7) ?_ (by decide), Fr_zl f1⟩
            refine Ret_L [some (.ref 0), some (.int (iN n)), some (.int b), some (.int (iN 1))] rfl rfl fun Q hQ => ?_
            (refine wp_go 600 ks_187_0.1 ?_; simp (disch := first | with_reducible assumption | omega | (simp only [ob_si, ar_si, ob_sl, ar_sl]; with_reducible assumption)) only [ci_1, ci_20, cm_2, cm_4, cm_6, ldA_a, ldI_i, oc_15, oc_16, oc_17, oc_191, r_0, r_2, r_30, r_32, r_33, r_44, r_46, r_6, r_62, r_80_1, r_80_2, r_80_3, r_90, wpn_S, wpn_zero, stp_h, lk_0, lk_s, st1_0, st1_1, st1_2, st2_0, st2_1, st2_2, kj_i, kj_a, kj_l, kj_n, cat_n, cat_i, cat_a, cat_u, cat_l, vc_i, vc_a, rv_s, tl_n, tl_s, Cal'_s, List.length_cons, List.length_nil, i0, i1, iNd, iN_lt, iN_le, iN_eq, iN_add, iN_mul, iN_mod, iN_sub, iN_div, iN_clamp, iN_inb, zle_N, zlt_N, zN_le, zN_lt, zN_eq, Nz_eq, mI_t, mI_f, bI_0, bI_1, bI_t, bI_f, dltT, dltF, dleT, dleF, deqT, deqF, Nat.not_lt_zero, not_true_eq_false, not_false_eq_true, true_and, and_true, false_and, and_false, or_true, true_or, false_or, or_false, and_self, if_true, if_false, Classical.not_not, Nat.add_assoc, Nat.zero_add, Nat.add_zero, bI_or, bI_True, bI_False, Bool.false_eq_true, reduceCtorEq, eq_self, gi_si, gl_si, gr_si, hn_si, hL_si, hX_si, gi_sl, gl_sl, gr_sl, hn_sl, ob_si, ar_si, ob_sl, ar_sl, ks_187_0, ks_187_1, oF, g0, g1, g2, g4, g5, g6, g7, g8, g9, g10, g11, g12, g13, o21, o22, o23, o28, o29, o32, o34, o36, oM, oF_1, k0_1, k1_1, k2_1, k4_1, k5_1, k6_1, k7_1, k8_1, k9_1, k10_1, k11_1, k12_1, k13_1, u21_1, u22_1, u23_1, u28_1, u29_1, u32_1, u34_1, u36_1, uM_1, Cal_eq r1, l_tw_q B1, e4, e5])
            exact hQ
          · have oO := (O_facts hB).1; obtain ⟨hA, hIr, f0⟩ := IO_0 hI; replace hB := Bs.si hB 87 7 (iN 0); have hW := hs.1; obtain ⟨oO2, rO1, rO2, rO3, rO4, rO5, rO8, aO1, aO2, aO3, aO4, aO5, aO8, sO1, sO2, sO3, sO4, sO5, sO8⟩ := O_facts hB; obtain ⟨fN, fD, fK, fF, fH, fM, fQ⟩ := id hA; obtain ⟨wN, wK, wF, wH, wM, wQ, wS, wZ, wT⟩ := id hW
            generalize gX s = x at *
            have key : ∀ Q : Option Value → Hp → Prop, (∀ h', Ao h' x → Fo Sy Fy h h' → Q (some (.int (iN (yrN x n b).2.2))) h') → wp 3 296 0 [some (.ref 87), some (.int (iN n)), some (.int b), some (.int (iN 1)), none, none, none, none, none, none] [] h Q := by
              intro Q hQ
              have B0 := hB.si 87 32 b
              have A0 : Ao (si (si h 87 7 (iN 0)) 87 32 b) x := Ao_f hA (by omega) (by omega) _
              have z0 : gi (si (si h 87 7 (iN 0)) 87 32 b) 87 32 = b := by rw [gi_si, up_s, up_s]
              have F0 : Fo Sy Fy h (si (si h 87 7 (iN 0)) 87 32 b) := f0.sf (by unfold Fy; omega) _
              have oO_0 := (O_facts B0).1
              obtain ⟨h1, r1, A1, K1, f1⟩ := wo_think B0 A0
              have z1 : gi h1 87 32 = b := by rw [f1.2 32 (by unfold Fc; omega)]; exact z0
              have F1 : Fo Sy Fy h h1 := F0.tr (Fo_y98 f1)
              have fin : ∀ (h2 : Hp) (w : Nat) (k : Nat) (r1 r2 r3 : Option Value), k ≤ n → (¬ k < n ∨ xN x = 0) → w = (yrN x n b).2.2 → Ao h2 x → Fo Sy Fy h h2 → wp 3 296 46 [some (.ref 87), some (.int (iN n)), some (.int b), some (.int (iN 1)), some (.int (iN 0)), some (.int (iN w)), some (.int (iN k)), r1, r2, r3] [] h2 Q := by
                rintro h2 w k r1 r2 r3 hk hc rfl A2 F2
                have hQ := hQ h2 A2 F2
                have oO_2 := (O_facts (F2.bs hB)).1
                have n2 : gi h2 87 0 = iN (xN x) := A2.1
                by_cases hkn : k < n
                · have h0 : xN x = 0 := hc.elim (fun e => absurd hkn e) id
                  rw [h0] at n2
                  (refine wp_go 600 ks_296_1.2.2.1 ?_; simp (disch := first | with_reducible assumption | omega | (simp only [ob_si, ar_si, ob_sl, ar_sl]; with_reducible assumption)) only [ci_0, ci_1, ci_20, ci_30, cm_9, inc_i, ldA_a, ldI_i, oc_201, oc_217, oc_219, oc_220, oc_222, oc_236, oc_237, oc_295, r_0, r_10, r_2, r_3, r_30, r_32, r_34, r_36, r_41, r_44, r_6, r_60, r_62, r_63, r_70, r_80_1, r_80_2, r_80_3, r_81_3, r_9, r_90, wpn_S, wpn_zero, stp_h, lk_0, lk_s, st1_0, st1_1, st1_2, st2_0, st2_1, st2_2, kj_i, kj_a, kj_l, kj_n, cat_n, cat_i, cat_a, cat_u, cat_l, vc_i, vc_a, rv_s, tl_n, tl_s, Cal'_s, List.length_cons, List.length_nil, i0, i1, iNd, iN_lt, iN_le, iN_eq, iN_add, iN_mul, iN_mod, iN_sub, iN_div, iN_clamp, iN_inb, zle_N, zlt_N, zN_le, zN_lt, zN_eq, Nz_eq, mI_t, mI_f, bI_0, bI_1, bI_t, bI_f, dltT, dltF, dleT, dleF, deqT, deqF, Nat.not_lt_zero, not_true_eq_false, not_false_eq_true, true_and, and_true, false_and, and_false, or_true, true_or, false_or, or_false, and_self, if_true, if_false, Classical.not_not, Nat.add_assoc, Nat.zero_add, Nat.add_zero, bI_or, bI_True, bI_False, Bool.false_eq_true, reduceCtorEq, eq_self, gi_si, gl_si, gr_si, hn_si, hL_si, hX_si, gi_sl, gl_sl, gr_sl, hn_sl, ob_si, ar_si, ob_sl, ar_sl, ks_296_0, ks_296_1, ks_296_2, ks_296_3, oO_2, n2])
                  exact hQ
                · (refine wp_go 600 ks_296_1.2.2.1 ?_; simp (disch := first | with_reducible assumption | omega | (simp only [ob_si, ar_si, ob_sl, ar_sl]; with_reducible assumption)) only [ci_0, ci_1, ci_20, ci_30, cm_9, inc_i, ldA_a, ldI_i, oc_201, oc_217, oc_219, oc_220, oc_222, oc_236, oc_237, oc_295, r_0, r_10, r_2, r_3, r_30, r_32, r_34, r_36, r_41, r_44, r_6, r_60, r_62, r_63, r_70, r_80_1, r_80_2, r_80_3, r_81_3, r_9, r_90, wpn_S, wpn_zero, stp_h, lk_0, lk_s, st1_0, st1_1, st1_2, st2_0, st2_1, st2_2, kj_i, kj_a, kj_l, kj_n, cat_n, cat_i, cat_a, cat_u, cat_l, vc_i, vc_a, rv_s, tl_n, tl_s, Cal'_s, List.length_cons, List.length_nil, i0, i1, iNd, iN_lt, iN_le, iN_eq, iN_add, iN_mul, iN_mod, iN_sub, iN_div, iN_clamp, iN_inb, zle_N, zlt_N, zN_le, zN_lt, zN_eq, Nz_eq, mI_t, mI_f, bI_0, bI_1, bI_t, bI_f, dltT, dltF, dleT, dleF, deqT, deqF, Nat.not_lt_zero, not_true_eq_false, not_false_eq_true, true_and, and_true, false_and, and_false, or_true, true_or, false_or, or_false, and_self, if_true, if_false, Classical.not_not, Nat.add_assoc, Nat.zero_add, Nat.add_zero, bI_or, bI_True, bI_False, Bool.false_eq_true, reduceCtorEq, eq_self, gi_si, gl_si, gr_si, hn_si, hL_si, hX_si, gi_sl, gl_sl, gr_sl, hn_sl, ob_si, ar_si, ob_sl, ar_sl, ks_296_0, ks_296_1, ks_296_2, ks_296_3, oO_2, n2])
                  exact hQ
              (refine wp_go 600 ks_296_0.1 ?_; simp (disch := first | with_reducible assumption | omega | (simp only [ob_si, ar_si, ob_sl, ar_sl]; with_reducible assumption)) only [ci_0, ci_1, ci_20, ci_30, cm_9, inc_i, ldA_a, ldI_i, oc_201, oc_217, oc_219, oc_220, oc_222, oc_236, oc_237, oc_295, r_0, r_10, r_2, r_3, r_30, r_32, r_34, r_36, r_41, r_44, r_6, r_60, r_62, r_63, r_70, r_80_1, r_80_2, r_80_3, r_81_3, r_9, r_90, wpn_S, wpn_zero, stp_h, lk_0, lk_s, st1_0, st1_1, st1_2, st2_0, st2_1, st2_2, kj_i, kj_a, kj_l, kj_n, cat_n, cat_i, cat_a, cat_u, cat_l, vc_i, vc_a, rv_s, tl_n, tl_s, Cal'_s, List.length_cons, List.length_nil, i0, i1, iNd, iN_lt, iN_le, iN_eq, iN_add, iN_mul, iN_mod, iN_sub, iN_div, iN_clamp, iN_inb, zle_N, zlt_N, zN_le, zN_lt, zN_eq, Nz_eq, mI_t, mI_f, bI_0, bI_1, bI_t, bI_f, dltT, dltF, dleT, dleF, deqT, deqF, Nat.not_lt_zero, not_true_eq_false, not_false_eq_true, true_and, and_true, false_and, and_false, or_true, true_or, false_or, or_false, and_self, if_true, if_false, Classical.not_not, Nat.add_assoc, Nat.zero_add, Nat.add_zero, bI_or, bI_True, bI_False, Bool.false_eq_true, reduceCtorEq, eq_self, gi_si, gl_si, gr_si, hn_si, hL_si, hX_si, gi_sl, gl_sl, gr_sl, hn_sl, ob_si, ar_si, ob_sl, ar_sl, ks_296_0, ks_296_1, ks_296_2, ks_296_3, oO, oO2, rO1, rO2, rO3, rO4, rO5, rO8, aO1, aO2, aO3, aO4, aO5, aO8, fN, fD, fK, fF, fH, fM, fQ, o_wn_q trivial, o_wb0_q, isP_N, o_in_q trivial, isP_in, oO_0, Cal_eq r1])
              by_cases h0 : xN x = 0
              · refine fin h1 0 0 none none none (by omega) (Or.inr h0) ?_ A1 F1
                unfold yrN
                rw [if_pos h0]
              · have hn0 : 0 < xN x := by omega
                have hyr : ∀ k, (rp (yrS x) k (b, 0, 0)).2.2 ≤ 3564 * k := by
                  intro k
                  induction k with
                  | zero => exact Nat.le_refl _
                  | succ k ih =>
                    rw [rp_s]
                    have hw := (lyS_Pk (n := xN x) hn0 (show lyP (xN x) ((rp (yrS x) k (b, 0, 0)).1, x) from ⟨hW, rfl⟩) 30).1
                    have hb1 := allQ_b hw
                    have hb2 := zerQ_b hw
                    show (rp (yrS x) k (b, 0, 0)).2.2 + zerQ (rp (lyS (xN x)) 30 ((rp (yrS x) k (b, 0, 0)).1, x)).2 ≤ 3564 * (k + 1)
                    omega
                refine wp_loop (fun k L h' => ∃ r1 r2 r3, Ao h' x ∧ gi h' 87 32 = (rp (yrS x) k (b, 0, 0)).1 ∧ Kx h' 98 x ∧ Fo Sy Fy h h' ∧ L = [some (.ref 87), some (.int (iN n)), some (.int b), some (.int (iN 1)), some (.int (iN 0)), some (.int (iN (rp (yrS x) k (b, 0, 0)).2.2)), some (.int (iN k)), r1, r2, r3]) n ?_ ?_ n 0 _ h1 (by omega) ⟨none, none, none, A1, z1, K1, F1, rfl⟩
                · rintro k L h2 hk ⟨r1, r2, r3, A2, z2, K2, F2, rfl⟩ hnx
                  have B2 := F2.bs hB
                  have oO_2 := (O_facts B2).1
                  have n2 : gi h2 87 0 = iN (xN x) := A2.1
                  have hyk := hyr k
                  have hyk2 := hyr (k + 1)
                  have rps : rp (yrS x) (k + 1) (b, 0, 0) = yrS x (rp (yrS x) k (b, 0, 0)) := rfl
                  rw [rps] at hnx hyk2
                  generalize rp (yrS x) k (b, 0, 0) = st at *
                  obtain ⟨zz, qa, qz⟩ := st
                  change gi h2 87 32 = zz at z2
                  simp only at hyk
                  (refine wp_go 600 ks_296_1.2.2.1 ?_; simp (disch := first | with_reducible assumption | omega | (simp only [ob_si, ar_si, ob_sl, ar_sl]; with_reducible assumption)) only [ci_0, ci_1, ci_20, ci_30, cm_9, inc_i, ldA_a, ldI_i, oc_201, oc_217, oc_219, oc_220, oc_222, oc_236, oc_237, oc_295, r_0, r_10, r_2, r_3, r_30, r_32, r_34, r_36, r_41, r_44, r_6, r_60, r_62, r_63, r_70, r_80_1, r_80_2, r_80_3, r_81_3, r_9, r_90, wpn_S, wpn_zero, stp_h, lk_0, lk_s, st1_0, st1_1, st1_2, st2_0, st2_1, st2_2, kj_i, kj_a, kj_l, kj_n, cat_n, cat_i, cat_a, cat_u, cat_l, vc_i, vc_a, rv_s, tl_n, tl_s, Cal'_s, List.length_cons, List.length_nil, i0, i1, iNd, iN_lt, iN_le, iN_eq, iN_add, iN_mul, iN_mod, iN_sub, iN_div, iN_clamp, iN_inb, zle_N, zlt_N, zN_le, zN_lt, zN_eq, Nz_eq, mI_t, mI_f, bI_0, bI_1, bI_t, bI_f, dltT, dltF, dleT, dleF, deqT, deqF, Nat.not_lt_zero, not_true_eq_false, not_false_eq_true, true_and, and_true, false_and, and_false, or_true, true_or, false_or, or_false, and_self, if_true, if_false, Classical.not_not, Nat.add_assoc, Nat.zero_add, Nat.add_zero, bI_or, bI_True, bI_False, Bool.false_eq_true, reduceCtorEq, eq_self, gi_si, gl_si, gr_si, hn_si, hL_si, hX_si, gi_sl, gl_sl, gr_sl, hn_sl, ob_si, ar_si, ob_sl, ar_sl, ks_296_0, ks_296_1, ks_296_2, ks_296_3, oO_2, n2])
                  refine wp_loop (fun d L h' => ∃ w1 w2, Ao h' (rp (lyS (xN x)) d (zz, x)).2 ∧ gi h' 87 32 = (rp (lyS (xN x)) d (zz, x)).1 ∧ Kx h' 98 x ∧ Fo Sy Fy h h' ∧ L = [some (.ref 87), some (.int (iN n)), some (.int b), some (.int (iN 1)), some (.int (iN 0)), some (.int (iN (zz, qa, qz).2.2)), some (.int (iN k)), some (.int (iN d)), w1, w2]) 30 ?_ ?_ 30 0 _ h2 (by omega) ⟨_, _, A2, z2, K2, F2, rfl⟩
                  · rintro d L h3 hd ⟨w1, w2, A3, z3, K3, F3, rfl⟩ hny
                    have B3 := F3.bs hB
                    obtain ⟨W3, N3⟩ := lyS_Pk (n := xN x) hn0 (show lyP (xN x) (zz, x) from ⟨hW, rfl⟩) d
                    have rps : rp (lyS (xN x)) (d + 1) (zz, x) = lyS (xN x) (rp (lyS (xN x)) d (zz, x)) := rfl
                    rw [rps] at hny
                    generalize rp (lyS (xN x)) d (zz, x) = a at *
                    obtain ⟨z9, y⟩ := a
                    refine wo_lot (a0 := none) (a7 := none) (y := y) (zz := z9) B3 A3 W3 N3 wN hn0 z3 hd fun h' v1 v2 A4 z4 f4 => ?_
                    exact hny _ h' ⟨v1, v2, A4, z4, K3.fr f4 (by unfold Sq; omega) (by omega), F3.tr (Fo_y32 f4), rfl⟩
                  · rintro L h3 ⟨w1, w2, A3, z3, K3, F3, rfl⟩
                    have B3 := F3.bs hB
                    have oO_3 := (O_facts B3).1
                    obtain ⟨W3, N3⟩ := lyS_Pk (n := xN x) hn0 (show lyP (xN x) (zz, x) from ⟨hW, rfl⟩) 30
                    have rq := o_zerQ B3 A3 W3
                    obtain ⟨h4, r4, A4, K4, f4⟩ := wo_again B3 K3
                    have hnx := hnx _ h4 ⟨some (.int (iN 30)), w1, w2, A4, by rw [f4.2 32 (by unfold Fc; omega)]; exact z3, K4, F3.tr (Fo_y98 f4), rfl⟩
                    (refine wp_go 600 ks_296_1.2.2.2.2.2.2.2.2.2.2.1 ?_; simp (disch := first | with_reducible assumption | omega | (simp only [ob_si, ar_si, ob_sl, ar_sl]; with_reducible assumption)) only [ci_0, ci_1, ci_20, ci_30, cm_9, inc_i, ldA_a, ldI_i, oc_201, oc_217, oc_219, oc_220, oc_222, oc_236, oc_237, oc_295, r_0, r_10, r_2, r_3, r_30, r_32, r_34, r_36, r_41, r_44, r_6, r_60, r_62, r_63, r_70, r_80_1, r_80_2, r_80_3, r_81_3, r_9, r_90, wpn_S, wpn_zero, stp_h, lk_0, lk_s, st1_0, st1_1, st1_2, st2_0, st2_1, st2_2, kj_i, kj_a, kj_l, kj_n, cat_n, cat_i, cat_a, cat_u, cat_l, vc_i, vc_a, rv_s, tl_n, tl_s, Cal'_s, List.length_cons, List.length_nil, i0, i1, iNd, iN_lt, iN_le, iN_eq, iN_add, iN_mul, iN_mod, iN_sub, iN_div, iN_clamp, iN_inb, zle_N, zlt_N, zN_le, zN_lt, zN_eq, Nz_eq, mI_t, mI_f, bI_0, bI_1, bI_t, bI_f, dltT, dltF, dleT, dleF, deqT, deqF, Nat.not_lt_zero, not_true_eq_false, not_false_eq_true, true_and, and_true, false_and, and_false, or_true, true_or, false_or, or_false, and_self, if_true, if_false, Classical.not_not, Nat.add_assoc, Nat.zero_add, Nat.add_zero, bI_or, bI_True, bI_False, Bool.false_eq_true, reduceCtorEq, eq_self, gi_si, gl_si, gr_si, hn_si, hL_si, hX_si, gi_sl, gl_sl, gr_sl, hn_sl, ob_si, ar_si, ob_sl, ar_sl, ks_296_0, ks_296_1, ks_296_2, ks_296_3, oO_3, Cal_eq rq, Cal_eq r4])
                    exact hnx
                · rintro L h2 ⟨r1, r2, r3, A2, z2, K2, F2, rfl⟩
                  refine fin h2 _ n r1 r2 r3 (Nat.le_refl _) (Or.inl (Nat.lt_irrefl _)) ?_ A2 F2
                  unfold yrN
                  rw [if_neg h0]
            obtain ⟨v, h', r, rfl, A, f⟩ := Ret_ex (d := 3) (y := 296) (as := [.ref 87, .int (iN n), .int b, .int (iN 1)]) [some (.ref 87), some (.int (iN n)), some (.int b), some (.int (iN 1)), none, none, none, none, none, none] rfl rfl (key (fun v h' => v = some (.int (iN (yrN x n b).2.2)) ∧ Ao h' x ∧ Fo Sy Fy h h') fun h' a b => ⟨rfl, a, b⟩)
            exact ⟨h', Ret.up (d := 3) r (by decide), A, f⟩
      · by_cases d0 : c < iN 0
        · obtain ⟨d1, d2⟩ := raw_lt d0
          refine op_refuse hs (k := 2) (by decide) (v := .int (zI (-2))) (fun h hB hI => Ret.up (d := 7) ?_ (by decide)) (fun h hB hI => Ret.up (d := 3) ?_ (by decide))
          · obtain ⟨oF, g0, g1, g2, g4, g5, g6, g7, g8, g9, g10, g11, g12, g13, o21, o22, o23, o28, o29, o32, o34, o36, oM⟩ := F_facts hB; obtain ⟨hA, iI, ⟨nx, hP⟩, hR, hL, hF, hT⟩ := id hI; have hW := hs.1; have hm : isM 1 := Or.inl rfl; have wN := hW.1
            refine Ret_L [some (.ref 0), some (.int (iN n)), some (.int b), some (.int c)] rfl rfl fun Q hQ => ?_
            (refine wp_go 600 ks_187_0.1 ?_; simp (disch := first | with_reducible assumption | omega | (simp only [ob_si, ar_si, ob_sl, ar_sl]; with_reducible assumption)) only [ci_1, ci_20, cm_2, cm_4, cm_6, ldA_a, ldI_i, oc_15, oc_16, oc_17, oc_191, r_0, r_2, r_30, r_32, r_33, r_44, r_46, r_6, r_62, r_80_1, r_80_2, r_80_3, r_90, wpn_S, wpn_zero, stp_h, lk_0, lk_s, st1_0, st1_1, st1_2, st2_0, st2_1, st2_2, kj_i, kj_a, kj_l, kj_n, cat_n, cat_i, cat_a, cat_u, cat_l, vc_i, vc_a, rv_s, tl_n, tl_s, Cal'_s, List.length_cons, List.length_nil, i0, i1, iNd, iN_lt, iN_le, iN_eq, iN_add, iN_mul, iN_mod, iN_sub, iN_div, iN_clamp, iN_inb, zle_N, zlt_N, zN_le, zN_lt, zN_eq, Nz_eq, mI_t, mI_f, bI_0, bI_1, bI_t, bI_f, dltT, dltF, dleT, dleF, deqT, deqF, Nat.not_lt_zero, not_true_eq_false, not_false_eq_true, true_and, and_true, false_and, and_false, or_true, true_or, false_or, or_false, and_self, if_true, if_false, Classical.not_not, Nat.add_assoc, Nat.zero_add, Nat.add_zero, bI_or, bI_True, bI_False, Bool.false_eq_true, reduceCtorEq, eq_self, gi_si, gl_si, gr_si, hn_si, hL_si, hX_si, gi_sl, gl_sl, gr_sl, hn_sl, ob_si, ar_si, ob_sl, ar_sl, ks_187_0, ks_187_1, oF, g0, g1, g2, g4, g5, g6, g7, g8, g9, g10, g11, g12, g13, o21, o22, o23, o28, o29, o32, o34, o36, oM, d1, d2, c_ref2_q hB])
            exact hQ
          · have oO := (O_facts hB).1; obtain ⟨hA, hIr, f0⟩ := IO_0 hI; replace hB := Bs.si hB 87 7 (iN 0); have hW := hs.1; obtain ⟨oO2, rO1, rO2, rO3, rO4, rO5, rO8, aO1, aO2, aO3, aO4, aO5, aO8, sO1, sO2, sO3, sO4, sO5, sO8⟩ := O_facts hB; obtain ⟨fN, fD, fK, fF, fH, fM, fQ⟩ := id hA; obtain ⟨wN, wK, wF, wH, wM, wQ, wS, wZ, wT⟩ := id hW
            refine Ret_L [some (.ref 87), some (.int (iN n)), some (.int b), some (.int c), none, none, none, none, none, none] rfl rfl fun Q hQ => ?_
            (refine wp_go 600 ks_296_0.1 ?_; simp (disch := first | with_reducible assumption | omega | (simp only [ob_si, ar_si, ob_sl, ar_sl]; with_reducible assumption)) only [ci_0, ci_1, ci_20, ci_30, cm_9, inc_i, ldA_a, ldI_i, oc_201, oc_217, oc_219, oc_220, oc_222, oc_236, oc_237, oc_295, r_0, r_10, r_2, r_3, r_30, r_32, r_34, r_36, r_41, r_44, r_6, r_60, r_62, r_63, r_70, r_80_1, r_80_2, r_80_3, r_81_3, r_9, r_90, wpn_S, wpn_zero, stp_h, lk_0, lk_s, st1_0, st1_1, st1_2, st2_0, st2_1, st2_2, kj_i, kj_a, kj_l, kj_n, cat_n, cat_i, cat_a, cat_u, cat_l, vc_i, vc_a, rv_s, tl_n, tl_s, Cal'_s, List.length_cons, List.length_nil, i0, i1, iNd, iN_lt, iN_le, iN_eq, iN_add, iN_mul, iN_mod, iN_sub, iN_div, iN_clamp, iN_inb, zle_N, zlt_N, zN_le, zN_lt, zN_eq, Nz_eq, mI_t, mI_f, bI_0, bI_1, bI_t, bI_f, dltT, dltF, dleT, dleF, deqT, deqF, Nat.not_lt_zero, not_true_eq_false, not_false_eq_true, true_and, and_true, false_and, and_false, or_true, true_or, false_or, or_false, and_self, if_true, if_false, Classical.not_not, Nat.add_assoc, Nat.zero_add, Nat.add_zero, bI_or, bI_True, bI_False, Bool.false_eq_true, reduceCtorEq, eq_self, gi_si, gl_si, gr_si, hn_si, hL_si, hX_si, gi_sl, gl_sl, gr_sl, hn_sl, ob_si, ar_si, ob_sl, ar_sl, ks_296_0, ks_296_1, ks_296_2, ks_296_3, oO, o_wn_q trivial, o_wb0_q, hw, o_ref2_q hB, o_wb_q])
            exact hQ
        · obtain ⟨d1, d2⟩ := raw_ge d0
          obtain ⟨d3, d4, d5, d6⟩ := notP_f d0 hw (by omega)
          refine op_refuse hs (k := 2) (by decide) (v := .int (zI (-2))) (fun h hB hI => Ret.up (d := 7) ?_ (by decide)) (fun h hB hI => Ret.up (d := 3) ?_ (by decide))
          · obtain ⟨oF, g0, g1, g2, g4, g5, g6, g7, g8, g9, g10, g11, g12, g13, o21, o22, o23, o28, o29, o32, o34, o36, oM⟩ := F_facts hB; obtain ⟨hA, iI, ⟨nx, hP⟩, hR, hL, hF, hT⟩ := id hI; have hW := hs.1; have hm : isM 1 := Or.inl rfl; have wN := hW.1
            refine Ret_L [some (.ref 0), some (.int (iN n)), some (.int b), some (.int c)] rfl rfl fun Q hQ => ?_
            (refine wp_go 600 ks_187_0.1 ?_; simp (disch := first | with_reducible assumption | omega | (simp only [ob_si, ar_si, ob_sl, ar_sl]; with_reducible assumption)) only [ci_1, ci_20, cm_2, cm_4, cm_6, ldA_a, ldI_i, oc_15, oc_16, oc_17, oc_191, r_0, r_2, r_30, r_32, r_33, r_44, r_46, r_6, r_62, r_80_1, r_80_2, r_80_3, r_90, wpn_S, wpn_zero, stp_h, lk_0, lk_s, st1_0, st1_1, st1_2, st2_0, st2_1, st2_2, kj_i, kj_a, kj_l, kj_n, cat_n, cat_i, cat_a, cat_u, cat_l, vc_i, vc_a, rv_s, tl_n, tl_s, Cal'_s, List.length_cons, List.length_nil, i0, i1, iNd, iN_lt, iN_le, iN_eq, iN_add, iN_mul, iN_mod, iN_sub, iN_div, iN_clamp, iN_inb, zle_N, zlt_N, zN_le, zN_lt, zN_eq, Nz_eq, mI_t, mI_f, bI_0, bI_1, bI_t, bI_f, dltT, dltF, dleT, dleF, deqT, deqF, Nat.not_lt_zero, not_true_eq_false, not_false_eq_true, true_and, and_true, false_and, and_false, or_true, true_or, false_or, or_false, and_self, if_true, if_false, Classical.not_not, Nat.add_assoc, Nat.zero_add, Nat.add_zero, bI_or, bI_True, bI_False, Bool.false_eq_true, reduceCtorEq, eq_self, gi_si, gl_si, gr_si, hn_si, hL_si, hX_si, gi_sl, gl_sl, gr_sl, hn_sl, ob_si, ar_si, ob_sl, ar_sl, ks_187_0, ks_187_1, oF, g0, g1, g2, g4, g5, g6, g7, g8, g9, g10, g11, g12, g13, o21, o22, o23, o28, o29, o32, o34, o36, oM, d1, d2, d3, d4, d5, d6, c_ref2_q hB])
            exact hQ
          · have oO := (O_facts hB).1; obtain ⟨hA, hIr, f0⟩ := IO_0 hI; replace hB := Bs.si hB 87 7 (iN 0); have hW := hs.1; obtain ⟨oO2, rO1, rO2, rO3, rO4, rO5, rO8, aO1, aO2, aO3, aO4, aO5, aO8, sO1, sO2, sO3, sO4, sO5, sO8⟩ := O_facts hB; obtain ⟨fN, fD, fK, fF, fH, fM, fQ⟩ := id hA; obtain ⟨wN, wK, wF, wH, wM, wQ, wS, wZ, wT⟩ := id hW
            refine Ret_L [some (.ref 87), some (.int (iN n)), some (.int b), some (.int c), none, none, none, none, none, none] rfl rfl fun Q hQ => ?_
            (refine wp_go 600 ks_296_0.1 ?_; simp (disch := first | with_reducible assumption | omega | (simp only [ob_si, ar_si, ob_sl, ar_sl]; with_reducible assumption)) only [ci_0, ci_1, ci_20, ci_30, cm_9, inc_i, ldA_a, ldI_i, oc_201, oc_217, oc_219, oc_220, oc_222, oc_236, oc_237, oc_295, r_0, r_10, r_2, r_3, r_30, r_32, r_34, r_36, r_41, r_44, r_6, r_60, r_62, r_63, r_70, r_80_1, r_80_2, r_80_3, r_81_3, r_9, r_90, wpn_S, wpn_zero, stp_h, lk_0, lk_s, st1_0, st1_1, st1_2, st2_0, st2_1, st2_2, kj_i, kj_a, kj_l, kj_n, cat_n, cat_i, cat_a, cat_u, cat_l, vc_i, vc_a, rv_s, tl_n, tl_s, Cal'_s, List.length_cons, List.length_nil, i0, i1, iNd, iN_lt, iN_le, iN_eq, iN_add, iN_mul, iN_mod, iN_sub, iN_div, iN_clamp, iN_inb, zle_N, zlt_N, zN_le, zN_lt, zN_eq, Nz_eq, mI_t, mI_f, bI_0, bI_1, bI_t, bI_f, dltT, dltF, dleT, dleF, deqT, deqF, Nat.not_lt_zero, not_true_eq_false, not_false_eq_true, true_and, and_true, false_and, and_false, or_true, true_or, false_or, or_false, and_self, if_true, if_false, Classical.not_not, Nat.add_assoc, Nat.zero_add, Nat.add_zero, bI_or, bI_True, bI_False, Bool.false_eq_true, reduceCtorEq, eq_self, gi_si, gl_si, gr_si, hn_si, hL_si, hX_si, gi_sl, gl_sl, gr_sl, hn_sl, ob_si, ar_si, ob_sl, ar_sl, ks_296_0, ks_296_1, ks_296_2, ks_296_3, oO, o_wn_q trivial, o_wb0_q, hw, o_ref2_q hB, o_wb_q])
            exact hQ
