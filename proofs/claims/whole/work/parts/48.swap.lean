/-! two mats changed -/
noncomputable def alF (x : Mt) (m : Nat → Nat) (i : Nat) : Int := if m i < 6 then lik x i (m i) else 0
theorem alL_sm (x : Mt) : alL x = sm (alF x (xM x)) (xN x) := by
  unfold alL
  rw [itr_sm (g := alF x (xM x)) (fun i a => by
    unfold alF
    by_cases h : xM x i < 6
    · rw [if_pos h, if_pos h]
    · rw [if_neg h, if_neg h]; omega) 0 (xN x)]
  omega
theorem alL_b {x : Mt} (hW : Wf x) : -300 ≤ alL x ∧ alL x ≤ 500 := by
  have h := sm_b (f := alF x (xM x)) (lo := -39) (hi := 78) (xN x) (fun i _ => by
    have := lik_b hW i (xM x i)
    unfold alF
    split <;> omega)
  have hn := hW.1
  rw [alL_sm]
  omega
theorem lik_M {x y : Mt} (h1 : xQ y = xQ x) (h2 : xH y = xH x) (h3 : xK y = xK x) (h4 : xF y = xF x) (i j : Nat) : lik y i j = lik x i j := by unfold lik; rw [h1, h2, h3, h4]
/-- mats behind the change -/
noncomputable def swM (x : Mt) (a b : Nat) : Mt := joM (joM x a (xM x b)) b (xM x a)
theorem sw_N (x : Mt) (a b : Nat) : xN (swM x a b) = xN x := by unfold swM; rw [jo_N, jo_N]
theorem jo_K (x : Mt) (i j : Nat) : xK (joM x i j) = xK x := by show xK (lvM (lvM x i) j) = _; rw [lv_K, lv_K]
theorem jo_F (x : Mt) (i j : Nat) : xF (joM x i j) = xF x := by show xF (lvM (lvM x i) j) = _; rw [lv_F, lv_F]
theorem jo_H (x : Mt) (i j : Nat) : xH (joM x i j) = xH x := by show xH (lvM (lvM x i) j) = _; rw [lv_H, lv_H]
theorem uM_M (x : Mt) (i v : Nat) : xM (uM x i v) = up (xM x) i v := rfl
theorem jo_Mm {x : Mt} {i j a b : Nat} (ha : xM x i = a) (hb : xM x j = b) (ha6 : a < 6) (hb6 : b < 6) (h1 : ¬ i = j) (h2 : ¬ j = a) (h3 : ¬ i = b) : xM (joM x i j) = up (up (up (up (up (up (xM x) a 6) i 6) b 6) j 6) i j) j i := by
  unfold joM
  rw [uM_M, uM_M]
  have e1 : lvM x i = uM (uM x a 6) i 6 := by rw [lv_t (by rw [ha]; exact ha6), ha]
  have e2 : xM (uM (uM x a 6) i 6) j = b := by rw [uM_M, uM_M, up_f (fun e => h1 e.symm), up_f h2, hb]
  rw [e1, lv_t (by rw [e2]; exact hb6), e2, uM_M, uM_M, uM_M, uM_M]
theorem jo_M0 {x : Mt} {i j : Nat} (ha : ¬ xM x i < 6) (hb : ¬ xM x j < 6) : xM (joM x i j) = up (up (xM x) i j) j i := by
  unfold joM
  rw [uM_M, uM_M, lv_f ha, lv_f hb]
theorem sw_M {x : Mt} (hW : Wf x) {a b : Nat} (hab : a < b) (ha : a < xN x) (hb : b < xN x) (a6 : xM x a < 6) (b6 : xM x b < 6) (hax : a < xM x a) (hby : b < xM x b) : xM x a < xN x ∧ xM x b < xN x ∧ xM x (xM x a) = a ∧ xM x (xM x b) = b ∧ ¬ xM x a = b ∧ ¬ xM x b = a ∧ ¬ xM x a = xM x b ∧ ∀ i, xM (swM x a b) i = if i = a then xM x b else if i = xM x b then a else if i = b then xM x a else if i = xM x a then b else xM x i := by
  obtain ⟨s1, s2, s3⟩ := hW.2.2.2.2.2.2.2.2 a ha a6
  obtain ⟨t1, t2, t3⟩ := hW.2.2.2.2.2.2.2.2 b hb b6
  obtain ⟨u, hu⟩ : ∃ u, u = xM x a := ⟨_, rfl⟩
  obtain ⟨v, hv⟩ : ∃ v, v = xM x b := ⟨_, rfl⟩
  rw [← hu] at s1 s2 s3 a6 hax ⊢
  rw [← hv] at t1 t2 t3 b6 hby ⊢
  have d1 : ¬ u = b := by
    intro e
    rw [e, ← hv] at s3
    omega
  have d2 : ¬ v = a := by omega
  have d3 : ¬ u = v := by
    intro e
    rw [e, t3] at s3
    omega
  refine ⟨s1, t1, s3, t3, d1, d2, d3, fun i => ?_⟩
  have e1 : xM (joM x a v) = up (up (up (up (up (up (xM x) u 6) a 6) b 6) v 6) a v) v a := jo_Mm hu.symm t3 a6 (by omega) (fun e => d2 e.symm) (fun e => d3 e.symm) (by omega)
  unfold swM
  rw [← hu, ← hv]
  have e2 : ¬ xM (joM x a v) b < 6 := by
    rw [e1, up_f (by omega), up_f (by omega), up_f (by omega), up_s]; omega
  have e3 : ¬ xM (joM x a v) u < 6 := by
    rw [e1, up_f (by omega), up_f (by omega), up_f (by omega), up_f (by omega), up_f (by omega), up_s]; omega
  rw [jo_M0 e2 e3, e1]
  by_cases c1 : i = a
  · rw [if_pos c1, c1, up_f (by omega), up_f (by omega), up_f (by omega), up_s]
  · rw [if_neg c1]
    by_cases c2 : i = v
    · rw [if_pos c2, c2, up_f (by omega), up_f (by omega), up_s]
    · rw [if_neg c2]
      by_cases c3 : i = b
      · rw [if_pos c3, c3, up_f (by omega), up_s]
      · rw [if_neg c3]
        by_cases c4 : i = u
        · rw [if_pos c4, c4, up_s]
        · rw [if_neg c4, up_f c4, up_f c3, up_f c2, up_f c1, up_f c2, up_f c3, up_f c1, up_f c4]
theorem sm_4 {f g : Nat → Int} {a b u v n : Nat} (ha : a < n) (hb : b < n) (hu : u < n) (hv : v < n) (h1 : ¬ a = b) (h2 : ¬ a = u) (h3 : ¬ a = v) (h4 : ¬ b = u) (h5 : ¬ b = v) (h6 : ¬ u = v) (h : ∀ i, i < n → ¬ i = a → ¬ i = b → ¬ i = u → ¬ i = v → f i = g i) : sm f n = sm g n + (f a - g a) + (f b - g b) + (f u - g u) + (f v - g v) := by
  have e1 := sm_one (f := f) (g := up f a (g a)) (k := a) n ha (fun i _ hi => (up_f hi).symm)
  have e2 := sm_one (f := up f a (g a)) (g := up (up f a (g a)) b (g b)) (k := b) n hb (fun i _ hi => (up_f hi).symm)
  have e3 := sm_one (f := up (up f a (g a)) b (g b)) (g := up (up (up f a (g a)) b (g b)) u (g u)) (k := u) n hu (fun i _ hi => (up_f hi).symm)
  have e4 := sm_one (f := up (up (up f a (g a)) b (g b)) u (g u)) (g := g) (k := v) n hv (fun i hi hiv => by
    by_cases c1 : i = u
    · rw [c1, up_s]
    · rw [up_f c1]
      by_cases c2 : i = b
      · rw [c2, up_s]
      · rw [up_f c2]
        by_cases c3 : i = a
        · rw [c3, up_s]
        · rw [up_f c3]; exact h i hi c3 c2 c1 hiv)
  rw [up_s] at e1
  rw [up_s, up_f (fun e => h1 e.symm)] at e2
  rw [up_s, up_f (fun e => h4 e.symm), up_f (fun e => h2 e.symm)] at e3
  rw [up_f (fun e => h6 e.symm), up_f (fun e => h5 e.symm), up_f (fun e => h3 e.symm)] at e4
  omega
theorem sw_al {x : Mt} (hW : Wf x) {a b : Nat} (hab : a < b) (ha : a < xN x) (hb : b < xN x) (la : leaB x a = true) (lb' : leaB x b = true) : alL (swM x a b) = alL x + gain x a b := by
  simp only [leaB, Bool.and_eq_true, decide_eq_true_eq] at la lb'
  obtain ⟨s1, t1, s3, t3, d1, d2, d3, hM⟩ := sw_M hW hab ha hb la.1 lb'.1 la.2 lb'.2
  have hN := hW.1
  have hl : ∀ i j, lik (swM x a b) i j = lik x i j := lik_M (by unfold swM; rw [jo_Q, jo_Q]) (by unfold swM; rw [jo_H, jo_H]) (by unfold swM; rw [jo_K, jo_K]) (by unfold swM; rw [jo_F, jo_F])
  rw [alL_sm, alL_sm, sw_N]
  have ma : xM (swM x a b) a = xM x b := by rw [hM a, if_pos rfl]
  have mv : xM (swM x a b) (xM x b) = a := by rw [hM (xM x b), if_neg d2, if_pos rfl]
  have mb : xM (swM x a b) b = xM x a := by rw [hM b, if_neg (show ¬ b = a by omega), if_neg (show ¬ b = xM x b by omega), if_pos rfl]
  have mu : xM (swM x a b) (xM x a) = b := by rw [hM (xM x a), if_neg (show ¬ xM x a = a by omega), if_neg d3, if_neg d1, if_pos rfl]
  have fa : alF (swM x a b) (xM (swM x a b)) a = lik x a (xM x b) := by
    unfold alF; rw [ma, if_pos (by omega), hl]
  have fv : alF (swM x a b) (xM (swM x a b)) (xM x b) = lik x (xM x b) a := by
    unfold alF; rw [mv, if_pos (by omega), hl]
  have fb : alF (swM x a b) (xM (swM x a b)) b = lik x b (xM x a) := by
    unfold alF; rw [mb, if_pos (by omega), hl]
  have fu : alF (swM x a b) (xM (swM x a b)) (xM x a) = lik x (xM x a) b := by
    unfold alF; rw [mu, if_pos (by omega), hl]
  have ga : alF x (xM x) a = lik x a (xM x a) := by unfold alF; rw [if_pos (by omega)]
  have gb : alF x (xM x) b = lik x b (xM x b) := by unfold alF; rw [if_pos (by omega)]
  have gu : alF x (xM x) (xM x a) = lik x (xM x a) a := by unfold alF; rw [s3, if_pos (by omega)]
  have gv : alF x (xM x) (xM x b) = lik x (xM x b) b := by unfold alF; rw [t3, if_pos (by omega)]
  rw [sm_4 (f := alF (swM x a b) (xM (swM x a b))) (g := alF x (xM x)) (a := a) (b := b) (u := xM x a) (v := xM x b) ha hb s1 t1 (by omega) (by omega) (by omega) (by omega) (by omega) d3 (fun i hi c1 c2 c3 c4 => by
    unfold alF
    rw [hM i, if_neg c1, if_neg c4, if_neg c2, if_neg c3]
    by_cases h6 : xM x i < 6
    · rw [if_pos h6, if_pos h6, hl]
    · rw [if_neg h6, if_neg h6]), fa, fb, fu, fv, ga, gb, gu, gv]
  unfold gain lb
  omega
noncomputable def swP (a : Option Nat × Int) : Prop := 0 ≤ a.2 ∧ a.2 ≤ 1000
theorem swS_P {x : Mt} (hW : Wf x) {i j : Nat} {a : Option Nat × Int} (ha : swP a) : swP (swS x i j a) := by
  have hg := gain_b hW i j
  unfold swS
  by_cases c : leaB x i = true ∧ leaB x j = true ∧ a.2 < gain x i j
  · rw [if_pos c]; exact ⟨by show 0 ≤ gain x i j; have := ha.1; omega, hg.2⟩
  · rw [if_neg c]; exact ha
set_option maxHeartbeats 8000000 in
theorem op_swap {s : Gs} (hs : GW s) : OpOk 168 270 [] s := by
  refine op_query hs (v := .int (oI (swN (gX s)).1)) (fun h hB hI => ?_) (fun h hB hI => ?_)
  · obtain ⟨oF, g0, g1, g2, g4, g5, g6, g7, g8, g9, g10, g11, g12, g13, o21, o22, o23, o28, o29, o32, o34, o36, oM⟩ := F_facts hB; obtain ⟨hA, iI, ⟨nx, hP⟩, hR, hL, hF, hT⟩ := id hI; have hW := hs.1; have hm : isM 1 := Or.inl rfl; have wN := hW.1
    refine ⟨h, Ret.up (d := 6) ?_ (by decide), Fr.rf _ h⟩
    refine Ret_L [some (.ref 0)] rfl rfl fun Q hQ => ?_
    (refine wp_go 600 ks_168_0.1 ?_; simp (disch := first | with_reducible assumption | omega | (simp only [ob_si, ar_si, ob_sl, ar_sl]; with_reducible assumption)) only [ldA_a, oc_124, r_2, r_62, r_80_1, r_90, wpn_S, wpn_zero, stp_h, lk_0, lk_s, st1_0, st1_1, st1_2, st2_0, st2_1, st2_2, kj_i, kj_a, kj_l, kj_n, cat_n, cat_i, cat_a, cat_u, cat_l, vc_i, vc_a, rv_s, tl_n, tl_s, Cal'_s, List.length_cons, List.length_nil, i0, i1, iNd, iN_lt, iN_le, iN_eq, iN_add, iN_mul, iN_mod, iN_sub, iN_div, iN_clamp, iN_inb, zle_N, zlt_N, zN_le, zN_lt, zN_eq, Nz_eq, mI_t, mI_f, bI_0, bI_1, bI_t, bI_f, dltT, dltF, dleT, dleF, deqT, deqF, Nat.not_lt_zero, not_true_eq_false, not_false_eq_true, true_and, and_true, false_and, and_false, or_true, true_or, false_or, or_false, and_self, if_true, if_false, Classical.not_not, Nat.add_assoc, Nat.zero_add, Nat.add_zero, bI_or, bI_True, bI_False, Bool.false_eq_true, reduceCtorEq, eq_self, gi_si, gl_si, gr_si, hn_si, hL_si, hX_si, gi_sl, gl_sl, gr_sl, hn_sl, ob_si, ar_si, ob_sl, ar_sl, ks_168_0, oF, g0, g1, g2, g4, g5, g6, g7, g8, g9, g10, g11, g12, g13, o21, o22, o23, o28, o29, o32, o34, o36, oM, s_swap_q hB hA hW])
    exact hQ
  · have oO := (O_facts hB).1; obtain ⟨hA, hIr, f0⟩ := IO_0 hI; replace hB := Bs.si hB 87 7 (iN 0); have hW := hs.1; obtain ⟨oO2, rO1, rO2, rO3, rO4, rO5, rO8, aO1, aO2, aO3, aO4, aO5, aO8, sO1, sO2, sO3, sO4, sO5, sO8⟩ := O_facts hB; obtain ⟨fN, fD, fK, fF, fH, fM, fQ⟩ := id hA; obtain ⟨wN, wK, wF, wH, wM, wQ, wS, wZ, wT⟩ := id hW
    generalize gX s = x at *
    have key : ∀ Q : Option Value → Hp → Prop, (∀ h', Ao h' x → Fo Sy Fy h h' → Q (some (.int (oI (swN x).1))) h') → wp 3 270 0 [some (.ref 87), none, none, none, none, none, none, none] [] h Q := by
      intro Q hQ
      have hab := alL_b hW
      have ra := o_allL hB hA hW
      obtain ⟨h1, r1, A1, K1, f1⟩ := wo_think hB hA
      have B1 := f1.bs hB
      have q1 := (O_facts B1).1
      (refine wp_go 600 ks_270_0.1 ?_; simp (disch := first | with_reducible assumption | omega | (simp only [ob_si, ar_si, ob_sl, ar_sl]; with_reducible assumption)) only [ci_0, ci_1, ci_10, cm_9, inc_i, ldA_a, ldI_i, oc_222, oc_236, oc_237, oc_269, r_0, r_10, r_12, r_2, r_3, r_30, r_44, r_46, r_6, r_60, r_62, r_63, r_70, r_80_1, r_80_3, r_9, r_90, wpn_S, wpn_zero, stp_h, lk_0, lk_s, st1_0, st1_1, st1_2, st2_0, st2_1, st2_2, kj_i, kj_a, kj_l, kj_n, cat_n, cat_i, cat_a, cat_u, cat_l, vc_i, vc_a, rv_s, tl_n, tl_s, Cal'_s, List.length_cons, List.length_nil, i0, i1, iNd, iN_lt, iN_le, iN_eq, iN_add, iN_mul, iN_mod, iN_sub, iN_div, iN_clamp, iN_inb, zle_N, zlt_N, zN_le, zN_lt, zN_eq, Nz_eq, mI_t, mI_f, bI_0, bI_1, bI_t, bI_f, dltT, dltF, dleT, dleF, deqT, deqF, Nat.not_lt_zero, not_true_eq_false, not_false_eq_true, true_and, and_true, false_and, and_false, or_true, true_or, false_or, or_false, and_self, if_true, if_false, Classical.not_not, Nat.add_assoc, Nat.zero_add, Nat.add_zero, bI_or, bI_True, bI_False, Bool.false_eq_true, reduceCtorEq, eq_self, gi_si, gl_si, gr_si, hn_si, hL_si, hX_si, gi_sl, gl_sl, gr_sl, hn_sl, ob_si, ar_si, ob_sl, ar_sl, ks_270_0, ks_270_1, ks_270_2, ks_270_3, oO, oO2, rO1, rO2, rO3, rO4, rO5, rO8, aO1, aO2, aO3, aO4, aO5, aO8, fN, fD, fK, fF, fH, fM, fQ, Cal_eq ra, Cal_eq r1])
      have e0 : zI (alL x) = zI (alL x + 0) := by rw [Int.add_zero]
      rw [e0]
      refine wp_foldH (fun i (a : Option Nat × Int) (w : Option Value × Option Value × Option Value × Option Value) => [some (.ref 87), some (.int (oI a.1)), some (.int (zI (alL x + a.2))), some (.int (iN i)), w.1, w.2.1, w.2.2.1, w.2.2.2]) (fun i a => itr (fun j a => swS x i j a) (i + 1) (xN x - (i + 1)) a) (fun i a h' => swP a ∧ Ao h' x ∧ Kx h' 98 x ∧ Fo Sy Fy h h') (xN x) ?_ (xN x) 0 (none, 0) (none, none, none, none) h1 (by omega) ⟨⟨by decide, by decide⟩, A1, K1, f0.tr (Fo_y98 f1)⟩ ?_
      · rintro i a w h1 hi ⟨ha, A1, K1, f1⟩ hn
        have B1 := f1.bs hB
        obtain ⟨oO_1, t1_1, t2_1, t3_1, t4_1, t5_1, t8_1, y1_1, y2_1, y3_1, y4_1, y5_1, y8_1, z1_1, z2_1, z3_1, z4_1, z5_1, z8_1⟩ := O_facts B1; obtain ⟨eN_1, eD_1, eK_1, eF_1, eH_1, eM_1, eQ_1⟩ := id A1
        (refine wp_go 600 ks_270_0.2.2.2.2.2.2.2.2.2.2.2.2.1 ?_; simp (disch := first | with_reducible assumption | omega | (simp only [ob_si, ar_si, ob_sl, ar_sl]; with_reducible assumption)) only [ci_0, ci_1, ci_10, cm_9, inc_i, ldA_a, ldI_i, oc_222, oc_236, oc_237, oc_269, r_0, r_10, r_12, r_2, r_3, r_30, r_44, r_46, r_6, r_60, r_62, r_63, r_70, r_80_1, r_80_3, r_9, r_90, wpn_S, wpn_zero, stp_h, lk_0, lk_s, st1_0, st1_1, st1_2, st2_0, st2_1, st2_2, kj_i, kj_a, kj_l, kj_n, cat_n, cat_i, cat_a, cat_u, cat_l, vc_i, vc_a, rv_s, tl_n, tl_s, Cal'_s, List.length_cons, List.length_nil, i0, i1, iNd, iN_lt, iN_le, iN_eq, iN_add, iN_mul, iN_mod, iN_sub, iN_div, iN_clamp, iN_inb, zle_N, zlt_N, zN_le, zN_lt, zN_eq, Nz_eq, mI_t, mI_f, bI_0, bI_1, bI_t, bI_f, dltT, dltF, dleT, dleF, deqT, deqF, Nat.not_lt_zero, not_true_eq_false, not_false_eq_true, true_and, and_true, false_and, and_false, or_true, true_or, false_or, or_false, and_self, if_true, if_false, Classical.not_not, Nat.add_assoc, Nat.zero_add, Nat.add_zero, bI_or, bI_True, bI_False, Bool.false_eq_true, reduceCtorEq, eq_self, gi_si, gl_si, gr_si, hn_si, hL_si, hX_si, gi_sl, gl_sl, gr_sl, hn_sl, ob_si, ar_si, ob_sl, ar_sl, ks_270_0, ks_270_1, ks_270_2, ks_270_3, oO_1, t1_1, t2_1, t3_1, t4_1, t5_1, t8_1, y1_1, y2_1, y3_1, y4_1, y5_1, y8_1, eN_1, eD_1, eK_1, eF_1, eH_1, eM_1, eQ_1])
        refine wp_foldH (fun j (a : Option Nat × Int) (w : Option Value × Option Value × Option Value) => [some (.ref 87), some (.int (oI a.1)), some (.int (zI (alL x + a.2))), some (.int (iN i)), some (.int (iN j)), w.1, w.2.1, w.2.2]) (fun j a => swS x i j a) (fun j a h' => i < j ∧ swP a ∧ Ao h' x ∧ Kx h' 98 x ∧ Fo Sy Fy h h') (xN x) ?_ (xN x - (i + 1)) (i + 1) a w.2 h1 (by omega) ⟨by omega, ha, A1, K1, f1⟩ ?_
        · rintro j a w h1 hj ⟨hij, ha, A1, K1, f1⟩ hn
          have B1 := f1.bs hB
          obtain ⟨oO_1, t1_1, t2_1, t3_1, t4_1, t5_1, t8_1, y1_1, y2_1, y3_1, y4_1, y5_1, y8_1, z1_1, z2_1, z3_1, z4_1, z5_1, z8_1⟩ := O_facts B1; obtain ⟨eN_1, eD_1, eK_1, eF_1, eH_1, eM_1, eQ_1⟩ := id A1
          have hg := gain_b hW i j
          obtain ⟨p1, p2⟩ := id ha
          by_cases la : leaB x i = true
          · have la' := la
            simp only [leaB, Bool.and_eq_true, decide_eq_true_eq] at la'
            obtain ⟨a6, al⟩ := la'
            by_cases lb : leaB x j = true
            · have lb' := lb
              simp only [leaB, Bool.and_eq_true, decide_eq_true_eq] at lb'
              obtain ⟨b6, bl⟩ := lb'
              obtain ⟨s1, t1, s3, t3, d1, d2, d3, hM⟩ := sw_M hW hij hi hj a6 b6 al bl
              obtain ⟨h2, r2, A2, f2⟩ := wo_join (i := i) (j := xM x j) B1 A1 hW hi t1 (by omega)
              have B2 := f2.bs B1
              have W2 := wf_jo hW hi t1 (show ¬ i = xM x j by omega)
              have oO_2 := (O_facts B2).1
              obtain ⟨h3, r3, A3, f3⟩ := wo_join (i := j) (j := xM x i) B2 A2 W2 (by rw [jo_N]; exact hj) (by rw [jo_N]; exact s1) (by omega)
              have B3 := f3.bs B2
              have W3 : Wf (swM x i j) := wf_jo W2 (by rw [jo_N]; exact hj) (by rw [jo_N]; exact s1) (show ¬ j = xM x i by omega)
              have oO_3 := (O_facts B3).1
              have r4 := o_allL B3 A3 W3
              change Ret _ _ _ _ (some (.int (zI (alL (swM x i j))))) _ at r4
              rw [sw_al hW hij hi hj la lb] at r4
              obtain ⟨h5, r5, A5, K5, f5⟩ := wo_again B3 ((K1.fr f2 (by unfold Sq; omega) (by omega)).fr f3 (by unfold Sq; omega) (by omega))
              have oO_5 := (O_facts (f5.bs B3)).1
              have hn := hn (some (.int (iN (xM x i))), some (.int (iN (xM x j))), some (.int (zI (alL x + gain x i j)))) h5 ⟨by omega, swS_P hW ha, A5, K5, ((f1.tr (Fo_yq f2)).tr (Fo_yq f3)).tr (Fo_y98 f5)⟩
              by_cases hc : a.2 < gain x i j
              · rw [swS, if_pos ⟨la, lb, hc⟩] at hn
                (refine wp_go 600 ks_270_0.2.2.2.2.2.2.2.2.2.2.2.2.2.2.2.2.2.2.2.2.1 ?_; simp (disch := first | with_reducible assumption | omega | (simp only [ob_si, ar_si, ob_sl, ar_sl]; with_reducible assumption)) only [ci_0, ci_1, ci_10, cm_9, inc_i, ldA_a, ldI_i, oc_222, oc_236, oc_237, oc_269, r_0, r_10, r_12, r_2, r_3, r_30, r_44, r_46, r_6, r_60, r_62, r_63, r_70, r_80_1, r_80_3, r_9, r_90, wpn_S, wpn_zero, stp_h, lk_0, lk_s, st1_0, st1_1, st1_2, st2_0, st2_1, st2_2, kj_i, kj_a, kj_l, kj_n, cat_n, cat_i, cat_a, cat_u, cat_l, vc_i, vc_a, rv_s, tl_n, tl_s, Cal'_s, List.length_cons, List.length_nil, i0, i1, iNd, iN_lt, iN_le, iN_eq, iN_add, iN_mul, iN_mod, iN_sub, iN_div, iN_clamp, iN_inb, zle_N, zlt_N, zN_le, zN_lt, zN_eq, Nz_eq, mI_t, mI_f, bI_0, bI_1, bI_t, bI_f, dltT, dltF, dleT, dleF, deqT, deqF, Nat.not_lt_zero, not_true_eq_false, not_false_eq_true, true_and, and_true, false_and, and_false, or_true, true_or, false_or, or_false, and_self, if_true, if_false, Classical.not_not, Nat.add_assoc, Nat.zero_add, Nat.add_zero, bI_or, bI_True, bI_False, Bool.false_eq_true, reduceCtorEq, eq_self, gi_si, gl_si, gr_si, hn_si, hL_si, hX_si, gi_sl, gl_sl, gr_sl, hn_sl, ob_si, ar_si, ob_sl, ar_sl, ks_270_0, ks_270_1, ks_270_2, ks_270_3, oO_1, t1_1, t2_1, t3_1, t4_1, t5_1, t8_1, y1_1, y2_1, y3_1, y4_1, y5_1, y8_1, eN_1, eD_1, eK_1, eF_1, eH_1, eM_1, eQ_1, Cal_eq r2, oO_2, Cal_eq r3, oO_3, Cal_eq r4, Cal_eq r5, z_lt, z_le, z_eq, Nz_lt, Nz_le, zN_lt2, zN_le2, diltT, diltF, dileT, dileF])
                exact hn
              · rw [swS, if_neg (fun e => hc e.2.2)] at hn
                (refine wp_go 600 ks_270_0.2.2.2.2.2.2.2.2.2.2.2.2.2.2.2.2.2.2.2.2.1 ?_; simp (disch := first | with_reducible assumption | omega | (simp only [ob_si, ar_si, ob_sl, ar_sl]; with_reducible assumption)) only [ci_0, ci_1, ci_10, cm_9, inc_i, ldA_a, ldI_i, oc_222, oc_236, oc_237, oc_269, r_0, r_10, r_12, r_2, r_3, r_30, r_44, r_46, r_6, r_60, r_62, r_63, r_70, r_80_1, r_80_3, r_9, r_90, wpn_S, wpn_zero, stp_h, lk_0, lk_s, st1_0, st1_1, st1_2, st2_0, st2_1, st2_2, kj_i, kj_a, kj_l, kj_n, cat_n, cat_i, cat_a, cat_u, cat_l, vc_i, vc_a, rv_s, tl_n, tl_s, Cal'_s, List.length_cons, List.length_nil, i0, i1, iNd, iN_lt, iN_le, iN_eq, iN_add, iN_mul, iN_mod, iN_sub, iN_div, iN_clamp, iN_inb, zle_N, zlt_N, zN_le, zN_lt, zN_eq, Nz_eq, mI_t, mI_f, bI_0, bI_1, bI_t, bI_f, dltT, dltF, dleT, dleF, deqT, deqF, Nat.not_lt_zero, not_true_eq_false, not_false_eq_true, true_and, and_true, false_and, and_false, or_true, true_or, false_or, or_false, and_self, if_true, if_false, Classical.not_not, Nat.add_assoc, Nat.zero_add, Nat.add_zero, bI_or, bI_True, bI_False, Bool.false_eq_true, reduceCtorEq, eq_self, gi_si, gl_si, gr_si, hn_si, hL_si, hX_si, gi_sl, gl_sl, gr_sl, hn_sl, ob_si, ar_si, ob_sl, ar_sl, ks_270_0, ks_270_1, ks_270_2, ks_270_3, oO_1, t1_1, t2_1, t3_1, t4_1, t5_1, t8_1, y1_1, y2_1, y3_1, y4_1, y5_1, y8_1, eN_1, eD_1, eK_1, eF_1, eH_1, eM_1, eQ_1, Cal_eq r2, oO_2, Cal_eq r3, oO_3, Cal_eq r4, Cal_eq r5, z_lt, z_le, z_eq, Nz_lt, Nz_le, zN_lt2, zN_le2, diltT, diltF, dileT, dileF])
                exact hn
            · have hn := hn (some (.int (mI (xM x i))), some (.int (mI (xM x j))), w.2.2) h1 ⟨by omega, swS_P hW ha, A1, K1, f1⟩
              rw [swS, if_neg (fun e => lb e.2.1), mI_t a6] at hn
              by_cases b6 : xM x j < 6
              · have bl : ¬ j < xM x j := fun e => lb (by simp only [leaB, Bool.and_eq_true, decide_eq_true_eq]; exact ⟨b6, e⟩)
                rw [mI_t b6] at hn
                (refine wp_go 600 ks_270_0.2.2.2.2.2.2.2.2.2.2.2.2.2.2.2.2.2.2.2.2.1 ?_; simp (disch := first | with_reducible assumption | omega | (simp only [ob_si, ar_si, ob_sl, ar_sl]; with_reducible assumption)) only [ci_0, ci_1, ci_10, cm_9, inc_i, ldA_a, ldI_i, oc_222, oc_236, oc_237, oc_269, r_0, r_10, r_12, r_2, r_3, r_30, r_44, r_46, r_6, r_60, r_62, r_63, r_70, r_80_1, r_80_3, r_9, r_90, wpn_S, wpn_zero, stp_h, lk_0, lk_s, st1_0, st1_1, st1_2, st2_0, st2_1, st2_2, kj_i, kj_a, kj_l, kj_n, cat_n, cat_i, cat_a, cat_u, cat_l, vc_i, vc_a, rv_s, tl_n, tl_s, Cal'_s, List.length_cons, List.length_nil, i0, i1, iNd, iN_lt, iN_le, iN_eq, iN_add, iN_mul, iN_mod, iN_sub, iN_div, iN_clamp, iN_inb, zle_N, zlt_N, zN_le, zN_lt, zN_eq, Nz_eq, mI_t, mI_f, bI_0, bI_1, bI_t, bI_f, dltT, dltF, dleT, dleF, deqT, deqF, Nat.not_lt_zero, not_true_eq_false, not_false_eq_true, true_and, and_true, false_and, and_false, or_true, true_or, false_or, or_false, and_self, if_true, if_false, Classical.not_not, Nat.add_assoc, Nat.zero_add, Nat.add_zero, bI_or, bI_True, bI_False, Bool.false_eq_true, reduceCtorEq, eq_self, gi_si, gl_si, gr_si, hn_si, hL_si, hX_si, gi_sl, gl_sl, gr_sl, hn_sl, ob_si, ar_si, ob_sl, ar_sl, ks_270_0, ks_270_1, ks_270_2, ks_270_3, oO_1, t1_1, t2_1, t3_1, t4_1, t5_1, t8_1, y1_1, y2_1, y3_1, y4_1, y5_1, y8_1, eN_1, eD_1, eK_1, eF_1, eH_1, eM_1, eQ_1])
                exact hn
              · rw [mI_f b6] at hn
                (refine wp_go 600 ks_270_0.2.2.2.2.2.2.2.2.2.2.2.2.2.2.2.2.2.2.2.2.1 ?_; simp (disch := first | with_reducible assumption | omega | (simp only [ob_si, ar_si, ob_sl, ar_sl]; with_reducible assumption)) only [ci_0, ci_1, ci_10, cm_9, inc_i, ldA_a, ldI_i, oc_222, oc_236, oc_237, oc_269, r_0, r_10, r_12, r_2, r_3, r_30, r_44, r_46, r_6, r_60, r_62, r_63, r_70, r_80_1, r_80_3, r_9, r_90, wpn_S, wpn_zero, stp_h, lk_0, lk_s, st1_0, st1_1, st1_2, st2_0, st2_1, st2_2, kj_i, kj_a, kj_l, kj_n, cat_n, cat_i, cat_a, cat_u, cat_l, vc_i, vc_a, rv_s, tl_n, tl_s, Cal'_s, List.length_cons, List.length_nil, i0, i1, iNd, iN_lt, iN_le, iN_eq, iN_add, iN_mul, iN_mod, iN_sub, iN_div, iN_clamp, iN_inb, zle_N, zlt_N, zN_le, zN_lt, zN_eq, Nz_eq, mI_t, mI_f, bI_0, bI_1, bI_t, bI_f, dltT, dltF, dleT, dleF, deqT, deqF, Nat.not_lt_zero, not_true_eq_false, not_false_eq_true, true_and, and_true, false_and, and_false, or_true, true_or, false_or, or_false, and_self, if_true, if_false, Classical.not_not, Nat.add_assoc, Nat.zero_add, Nat.add_zero, bI_or, bI_True, bI_False, Bool.false_eq_true, reduceCtorEq, eq_self, gi_si, gl_si, gr_si, hn_si, hL_si, hX_si, gi_sl, gl_sl, gr_sl, hn_sl, ob_si, ar_si, ob_sl, ar_sl, ks_270_0, ks_270_1, ks_270_2, ks_270_3, oO_1, t1_1, t2_1, t3_1, t4_1, t5_1, t8_1, y1_1, y2_1, y3_1, y4_1, y5_1, y8_1, eN_1, eD_1, eK_1, eF_1, eH_1, eM_1, eQ_1])
                exact hn
          · have hn := hn (some (.int (mI (xM x i))), some (.int (mI (xM x j))), w.2.2) h1 ⟨by omega, swS_P hW ha, A1, K1, f1⟩
            rw [swS, if_neg (fun e => la e.1)] at hn
            by_cases a6 : xM x i < 6
            · have al : ¬ i < xM x i := fun e => la (by simp only [leaB, Bool.and_eq_true, decide_eq_true_eq]; exact ⟨a6, e⟩)
              rw [mI_t a6] at hn
              (refine wp_go 600 ks_270_0.2.2.2.2.2.2.2.2.2.2.2.2.2.2.2.2.2.2.2.2.1 ?_; simp (disch := first | with_reducible assumption | omega | (simp only [ob_si, ar_si, ob_sl, ar_sl]; with_reducible assumption)) only [ci_0, ci_1, ci_10, cm_9, inc_i, ldA_a, ldI_i, oc_222, oc_236, oc_237, oc_269, r_0, r_10, r_12, r_2, r_3, r_30, r_44, r_46, r_6, r_60, r_62, r_63, r_70, r_80_1, r_80_3, r_9, r_90, wpn_S, wpn_zero, stp_h, lk_0, lk_s, st1_0, st1_1, st1_2, st2_0, st2_1, st2_2, kj_i, kj_a, kj_l, kj_n, cat_n, cat_i, cat_a, cat_u, cat_l, vc_i, vc_a, rv_s, tl_n, tl_s, Cal'_s, List.length_cons, List.length_nil, i0, i1, iNd, iN_lt, iN_le, iN_eq, iN_add, iN_mul, iN_mod, iN_sub, iN_div, iN_clamp, iN_inb, zle_N, zlt_N, zN_le, zN_lt, zN_eq, Nz_eq, bI_0, bI_1, bI_t, bI_f, dltT, dltF, dleT, dleF, deqT, deqF, Nat.not_lt_zero, not_true_eq_false, not_false_eq_true, true_and, and_true, false_and, and_false, or_true, true_or, false_or, or_false, and_self, if_true, if_false, Classical.not_not, Nat.add_assoc, Nat.zero_add, Nat.add_zero, bI_or, bI_True, bI_False, Bool.false_eq_true, reduceCtorEq, eq_self, gi_si, gl_si, gr_si, hn_si, hL_si, hX_si, gi_sl, gl_sl, gr_sl, hn_sl, ob_si, ar_si, ob_sl, ar_sl, ks_270_0, ks_270_1, ks_270_2, ks_270_3, oO_1, t1_1, t2_1, t3_1, t4_1, t5_1, t8_1, y1_1, y2_1, y3_1, y4_1, y5_1, y8_1, eN_1, eD_1, eK_1, eF_1, eH_1, eM_1, eQ_1, mI_t a6])
              exact hn
            · rw [mI_f a6] at hn
              (refine wp_go 600 ks_270_0.2.2.2.2.2.2.2.2.2.2.2.2.2.2.2.2.2.2.2.2.1 ?_; simp (disch := first | with_reducible assumption | omega | (simp only [ob_si, ar_si, ob_sl, ar_sl]; with_reducible assumption)) only [ci_0, ci_1, ci_10, cm_9, inc_i, ldA_a, ldI_i, oc_222, oc_236, oc_237, oc_269, r_0, r_10, r_12, r_2, r_3, r_30, r_44, r_46, r_6, r_60, r_62, r_63, r_70, r_80_1, r_80_3, r_9, r_90, wpn_S, wpn_zero, stp_h, lk_0, lk_s, st1_0, st1_1, st1_2, st2_0, st2_1, st2_2, kj_i, kj_a, kj_l, kj_n, cat_n, cat_i, cat_a, cat_u, cat_l, vc_i, vc_a, rv_s, tl_n, tl_s, Cal'_s, List.length_cons, List.length_nil, i0, i1, iNd, iN_lt, iN_le, iN_eq, iN_add, iN_mul, iN_mod, iN_sub, iN_div, iN_clamp, iN_inb, zle_N, zlt_N, zN_le, zN_lt, zN_eq, Nz_eq, bI_0, bI_1, bI_t, bI_f, dltT, dltF, dleT, dleF, deqT, deqF, Nat.not_lt_zero, not_true_eq_false, not_false_eq_true, true_and, and_true, false_and, and_false, or_true, true_or, false_or, or_false, and_self, if_true, if_false, Classical.not_not, Nat.add_assoc, Nat.zero_add, Nat.add_zero, bI_or, bI_True, bI_False, Bool.false_eq_true, reduceCtorEq, eq_self, gi_si, gl_si, gr_si, hn_si, hL_si, hX_si, gi_sl, gl_sl, gr_sl, hn_sl, ob_si, ar_si, ob_sl, ar_sl, ks_270_0, ks_270_1, ks_270_2, ks_270_3, oO_1, t1_1, t2_1, t3_1, t4_1, t5_1, t8_1, y1_1, y2_1, y3_1, y4_1, y5_1, y8_1, eN_1, eD_1, eK_1, eF_1, eH_1, eM_1, eQ_1, mI_f a6])
              exact hn
        · rintro w h1 ⟨_, ha, A1, K1, f1⟩
          have B1 := f1.bs hB
          obtain ⟨oO_1, t1_1, t2_1, t3_1, t4_1, t5_1, t8_1, y1_1, y2_1, y3_1, y4_1, y5_1, y8_1, z1_1, z2_1, z3_1, z4_1, z5_1, z8_1⟩ := O_facts B1; obtain ⟨eN_1, eD_1, eK_1, eF_1, eH_1, eM_1, eQ_1⟩ := id A1
          (refine wp_go 600 ks_270_0.2.2.2.2.2.2.2.2.2.2.2.2.2.2.2.2.2.2.2.2.1 ?_; simp (disch := first | with_reducible assumption | omega | (simp only [ob_si, ar_si, ob_sl, ar_sl]; with_reducible assumption)) only [ci_0, ci_1, ci_10, cm_9, inc_i, ldA_a, ldI_i, oc_222, oc_236, oc_237, oc_269, r_0, r_10, r_12, r_2, r_3, r_30, r_44, r_46, r_6, r_60, r_62, r_63, r_70, r_80_1, r_80_3, r_9, r_90, wpn_S, wpn_zero, stp_h, lk_0, lk_s, st1_0, st1_1, st1_2, st2_0, st2_1, st2_2, kj_i, kj_a, kj_l, kj_n, cat_n, cat_i, cat_a, cat_u, cat_l, vc_i, vc_a, rv_s, tl_n, tl_s, Cal'_s, List.length_cons, List.length_nil, i0, i1, iNd, iN_lt, iN_le, iN_eq, iN_add, iN_mul, iN_mod, iN_sub, iN_div, iN_clamp, iN_inb, zle_N, zlt_N, zN_le, zN_lt, zN_eq, Nz_eq, mI_t, mI_f, bI_0, bI_1, bI_t, bI_f, dltT, dltF, dleT, dleF, deqT, deqF, Nat.not_lt_zero, not_true_eq_false, not_false_eq_true, true_and, and_true, false_and, and_false, or_true, true_or, false_or, or_false, and_self, if_true, if_false, Classical.not_not, Nat.add_assoc, Nat.zero_add, Nat.add_zero, bI_or, bI_True, bI_False, Bool.false_eq_true, reduceCtorEq, eq_self, gi_si, gl_si, gr_si, hn_si, hL_si, hX_si, gi_sl, gl_sl, gr_sl, hn_sl, ob_si, ar_si, ob_sl, ar_sl, ks_270_0, ks_270_1, ks_270_2, ks_270_3, oO_1, t1_1, t2_1, t3_1, t4_1, t5_1, t8_1, y1_1, y2_1, y3_1, y4_1, y5_1, y8_1, eN_1, eD_1, eK_1, eF_1, eH_1, eM_1, eQ_1])
          exact hn (_, _) h1 ⟨ha, A1, K1, f1⟩
      · rintro w h1 ⟨ha, A1, K1, f1⟩
        have B1 := f1.bs hB
        obtain ⟨oO_1, t1_1, t2_1, t3_1, t4_1, t5_1, t8_1, y1_1, y2_1, y3_1, y4_1, y5_1, y8_1, z1_1, z2_1, z3_1, z4_1, z5_1, z8_1⟩ := O_facts B1; obtain ⟨eN_1, eD_1, eK_1, eF_1, eH_1, eM_1, eQ_1⟩ := id A1
        (refine wp_go 600 ks_270_0.2.2.2.2.2.2.2.2.2.2.2.2.1 ?_; simp (disch := first | with_reducible assumption | omega | (simp only [ob_si, ar_si, ob_sl, ar_sl]; with_reducible assumption)) only [ci_0, ci_1, ci_10, cm_9, inc_i, ldA_a, ldI_i, oc_222, oc_236, oc_237, oc_269, r_0, r_10, r_12, r_2, r_3, r_30, r_44, r_46, r_6, r_60, r_62, r_63, r_70, r_80_1, r_80_3, r_9, r_90, wpn_S, wpn_zero, stp_h, lk_0, lk_s, st1_0, st1_1, st1_2, st2_0, st2_1, st2_2, kj_i, kj_a, kj_l, kj_n, cat_n, cat_i, cat_a, cat_u, cat_l, vc_i, vc_a, rv_s, tl_n, tl_s, Cal'_s, List.length_cons, List.length_nil, i0, i1, iNd, iN_lt, iN_le, iN_eq, iN_add, iN_mul, iN_mod, iN_sub, iN_div, iN_clamp, iN_inb, zle_N, zlt_N, zN_le, zN_lt, zN_eq, Nz_eq, mI_t, mI_f, bI_0, bI_1, bI_t, bI_f, dltT, dltF, dleT, dleF, deqT, deqF, Nat.not_lt_zero, not_true_eq_false, not_false_eq_true, true_and, and_true, false_and, and_false, or_true, true_or, false_or, or_false, and_self, if_true, if_false, Classical.not_not, Nat.add_assoc, Nat.zero_add, Nat.add_zero, bI_or, bI_True, bI_False, Bool.false_eq_true, reduceCtorEq, eq_self, gi_si, gl_si, gr_si, hn_si, hL_si, hX_si, gi_sl, gl_sl, gr_sl, hn_sl, ob_si, ar_si, ob_sl, ar_sl, ks_270_0, ks_270_1, ks_270_2, ks_270_3, oO_1, t1_1, t2_1, t3_1, t4_1, t5_1, t8_1, y1_1, y2_1, y3_1, y4_1, y5_1, y8_1, eN_1, eD_1, eK_1, eF_1, eH_1, eM_1, eQ_1])
        exact hQ _ A1 f1
    obtain ⟨v, h', r, rfl, A, f⟩ := Ret_ex (d := 3) (y := 270) (as := [.ref 87]) [some (.ref 87), none, none, none, none, none, none, none] rfl rfl (key (fun v h' => v = some (.int (oI (swN x).1)) ∧ Ao h' x ∧ Fo Sy Fy h h') fun h' a b => ⟨rfl, a, b⟩)
    exact ⟨h', Ret.up (d := 3) r (by decide), A, f⟩
