/-! Pairs -/
noncomputable def Sp : Nat → Prop := fun o => (7 ≤ o ∧ o ≤ 12) ∨ o = 19 ∨ o = 20 ∨ (24 ≤ o ∧ o ≤ 27)
theorem Sp_d {h h' : Hp} (f : Fr Sd h h') : Fr Sp h h' := f.mono fun o ho => by unfold Sd at ho; unfold Sp; omega
theorem Sp_k {h h' : Hp} (f : Fr Sk h h') : Fr Sp h h' := f.mono fun o ho => by unfold Sk at ho; unfold Sp; omega
theorem Sp_w {h h' : Hp} (f : Fr Sw h h') : Fr Sp h h' := f.mono fun o ho => by unfold Sw at ho; unfold Sp; omega
theorem Sp_7 {h h' : Hp} (f : Fr (Sm 7) h h') : Fr Sp h h' := f.mono fun o ho => by unfold Sm at ho; unfold Sp; omega
theorem At1_p {h h' : Hp} {x : Mt} (hA : At h 1 x) (f : Fr Sp h h') : At h' 1 x := hA.fr f (by intro o h1 h2; unfold Sp; omega)
theorem Wl.fr {h h' : Hp} {n : Nat} {S : Nat → Prop} (hY : Wl h n) (f : Fr S h h') (h1 : ¬ S 24) (h2 : ¬ S 25) : Wl h' n := by unfold Wl; rw [f.i h1, f.i h2]; exact hY
noncomputable def psM (x : Mt) (k : Nat) : Mt := (xN x, xD x, xK x, xF x, xH x, fun p => if p < xN x then wy (xN x) k p else xM x p, xQ x)
theorem wf_ps {x : Mt} {k : Nat} (hW : Wf x) (hk : k < cw (xN x)) : Wf (psM x k) := by
  obtain ⟨wN, wK, wF, wH, wM, wQ, wS, wZ, wT⟩ := id hW
  refine wf_M hW rfl rfl rfl rfl rfl (fun i => ?_) (fun i hi h6 => ?_)
  · show (if i < xN x then wy (xN x) k i else xM x i) ≤ 6
    split
    · rename_i e; exact (wy_ok wN hk e).1
    · exact wM i
  · change (if i < xN x then wy (xN x) k i else xM x i) < 6 at h6
    rw [if_pos hi] at h6
    have := (wy_ok wN hk hi).2 h6
    show (if i < xN x then wy (xN x) k i else xM x i) < xN x ∧ (if i < xN x then wy (xN x) k i else xM x i) ≠ i ∧ (if (if i < xN x then wy (xN x) k i else xM x i) < xN x then wy (xN x) k (if i < xN x then wy (xN x) k i else xM x i) else _) = i
    rw [if_pos hi, if_pos this.1]
    exact this
noncomputable def Ag (x y : Mt) : Prop := xN y = xN x ∧ xD y = xD x ∧ xK y = xK x ∧ xF y = xF x ∧ xH y = xH x ∧ xQ y = xQ x ∧ ∀ i, xN x ≤ i → xM y i = xM x i
theorem Ag.rf (x : Mt) : Ag x x := ⟨rfl, rfl, rfl, rfl, rfl, rfl, fun _ _ => rfl⟩
theorem Ag_ps (x : Mt) (k : Nat) : Ag x (psM x k) := ⟨rfl, rfl, rfl, rfl, rfl, rfl, fun i hi => if_neg (by omega)⟩
theorem p_list {h : Hp} {x : Mt} (hB : Bs h) (hA : At h 1 x) (hW : Wf x) : ∃ h', Ret 11 80 [.ref 23] h none h' ∧ At h' 7 x ∧ Wl h' (xN x) ∧ Fr Sp h h' := by
  have oP : ob h 23 5 := hB.ob (by decide) (by decide); have rP0 : gr h 23 0 = some 1 := hB.r (by decide); have rP1 : gr h 23 1 = some 7 := hB.r (by decide); have rP2 : gr h 23 2 = some 19 := hB.r (by decide); have rP3 : gr h 23 3 = some 24 := hB.r (by decide); have rP4 : gr h 23 4 = some 27 := hB.r (by decide); have oK : ob h 19 1 := hB.ob (by decide) (by decide); have oY : ob h 24 10 := hB.ob (by decide) (by decide); have a27 : ar h 1 27 := hB.ar (by decide) (by decide); have s27 : (SH 27).2 = 36 := (by decide); have hm : isM 1 := Or.inl rfl; have h7 : isM 7 := Or.inr (Or.inl rfl); have oM : ob h 1 3 := hB.ob (by decide) (by decide); have o7 : ob h 7 3 := hB.ob (by decide) (by decide)
  have wN := hW.1
  obtain ⟨h1, r1, A1, f1⟩ := w_copy (m := 7) (p := 1) h7 hm (by omega) hB hA
  have B1 := f1.bs hB
  have A11 := At1_p hA (Sp_7 f1)
  obtain ⟨h2, r2, Y2, f2⟩ := y_list (n := xN x) B1 wN
  have oP1 : ob h1 23 5 := B1.ob (by decide) (by decide)
  have q0 : gr h1 23 0 = some 1 := B1.r (by decide)
  have q3 : gr h1 23 3 = some 24 := B1.r (by decide)
  have oY1 : ob h1 24 10 := B1.ob (by decide) (by decide)
  have oM1 : ob h1 1 3 := B1.ob (by decide) (by decide)
  refine ⟨h2, ?_, A1.fr f2 (by intro o h1 h2; unfold Sw; omega), Y2, (Sp_7 f1).tr (Sp_w f2)⟩
  refine Ret_L [some (.ref 23)] rfl rfl fun Q hQ => ?_
  (refine wp_go 600 ks_80_0.1 ?_; simp (disch := first | assumption | (simp only [ob_si, ar_si, ob_sl, ar_sl]; assumption) | omega) only [ldA_a, oc_141, oc_21, oc_22, p_2, p_62, p_80_1, p_80_2, p_94, wpn_succ, wpn_zero, stp_h, lk_0, lk_s, st1_0, st1_1, st1_2, st2_0, st2_1, st2_2, kj_i, kj_a, kj_l, kj_n, cat_n, cat_i, cat_a, cat_u, cat_l, vc_i, vc_a, rv_s, tl_n, tl_s, Cal'_s, List.length_cons, List.length_nil, i0, i1, iNd, iN_lt, iN_le, iN_eq, iN_add, iN_mul, iN_mod, iN_sub, iN_div, iN_clamp, iN_inb, zle_N, zlt_N, zN_le, zN_lt, zN_eq, Nz_eq, mI_t, mI_f, bI_0, bI_1, bI_t, bI_f, dltT, dltF, dleT, dleF, deqT, deqF, Nat.not_lt_zero, not_true_eq_false, not_false_eq_true, true_and, and_true, false_and, and_false, or_true, true_or, false_or, or_false, and_self, if_true, if_false, Classical.not_not, Nat.add_assoc, Nat.zero_add, Nat.add_zero, bI_or, bI_True, bI_False, Bool.false_eq_true, reduceCtorEq, eq_self, gi_si, gl_si, gr_si, hn_si, hL_si, hX_si, gi_sl, gl_sl, gr_sl, hn_sl, ob_si, ar_si, ob_sl, ar_sl, ks_80_0, oP, rP0, rP1, rP2, rP3, rP4, oK, oY, a27, o7, oM, Cal_eq r1, oP1, q0, q3, oY1, oM1, c_people_q hm B1 A11 hW, Cal_eq r2])
  exact hQ
theorem p_puton {h : Hp} {k : Nat} {x y : Mt} (hB : Bs h) (hA : At h 7 y) (hW : Wf x) (hY : Wl h (xN x)) (hg : Ag x y) (hWy : Wf y) (hk : k < cw (xN x)) : ∃ h', Ret 2 81 [.ref 23, .int (iN k)] h none h' ∧ At h' 7 (psM x k) ∧ Wl h' (xN x) ∧ Fr Sp h h' := by
  have key : ∀ Q : Option Value → Hp → Prop, (∀ h', At h' 7 (psM x k) → Fr (Sm 7) h h' → Q none h') → wp 2 81 0 [some (.ref 23), some (.int (iN k)), none] [] h Q := by
    intro Q hQ
    have wN := hW.1
    (refine wp_go 600 ks_81_0.1 ?_; simp (disch := first | assumption | (simp only [ob_si, ar_si, ob_sl, ar_sl]; assumption) | omega) only [ci_0, ci_1, inc_i, ldA_a, ldI_i, oc_143, oc_22, oc_35, p_0, p_2, p_3, p_30, p_44, p_6, p_62, p_80_1, p_80_3, p_9, p_94, wpn_succ, wpn_zero, stp_h, lk_0, lk_s, st1_0, st1_1, st1_2, st2_0, st2_1, st2_2, kj_i, kj_a, kj_l, kj_n, cat_n, cat_i, cat_a, cat_u, cat_l, vc_i, vc_a, rv_s, tl_n, tl_s, Cal'_s, List.length_cons, List.length_nil, i0, i1, iNd, iN_lt, iN_le, iN_eq, iN_add, iN_mul, iN_mod, iN_sub, iN_div, iN_clamp, iN_inb, zle_N, zlt_N, zN_le, zN_lt, zN_eq, Nz_eq, mI_t, mI_f, bI_0, bI_1, bI_t, bI_f, dltT, dltF, dleT, dleF, deqT, deqF, Nat.not_lt_zero, not_true_eq_false, not_false_eq_true, true_and, and_true, false_and, and_false, or_true, true_or, false_or, or_false, and_self, if_true, if_false, Classical.not_not, Nat.add_assoc, Nat.zero_add, Nat.add_zero, bI_or, bI_True, bI_False, Bool.false_eq_true, reduceCtorEq, eq_self, gi_si, gl_si, gr_si, hn_si, hL_si, hX_si, gi_sl, gl_sl, gr_sl, hn_sl, ob_si, ar_si, ob_sl, ar_sl, ks_81_0])
    refine wp_loop (fun p L h' => L = [some (.ref 23), some (.int (iN k)), some (.int (iN p))] ∧ Fr (Sm 7) h h' ∧ ∃ z, At h' 7 z ∧ Ag x z ∧ ∀ i, i < p → xM z i = wy (xN x) k i) (xN x) ?_ ?_ (xN x) 0 _ h (by omega) ⟨rfl, Fr.rf _ h, y, hA, hg, fun i hi => by omega⟩
    · rintro p L h1 hp ⟨rfl, f, z, Az, gz, mz⟩ hnx
      have hB0 := hB
      replace hB := f.bs hB
      replace hY := hY.fr f (by unfold Sm; omega) (by unfold Sm; omega)
      have oP : ob h1 23 5 := hB.ob (by decide) (by decide)
      have rP1 : gr h1 23 1 = some 7 := hB.r (by decide)
      have rP3 : gr h1 23 3 = some 24 := hB.r (by decide)
      have oY : ob h1 24 10 := hB.ob (by decide) (by decide)
      have o7 : ob h1 7 3 := hB.ob (by decide) (by decide)
      have h7 : isM 7 := Or.inr (Or.inl rfl)
      have zN : gi h1 7 5 = iN (xN x) := by rw [Az.1, gz.1]
      have rpp : Ret 0 22 [.ref 7] h1 (some (.int (iN (xN x)))) h1 := by
        refine Ret_L [some (.ref 7)] rfl rfl fun Q hQ => ?_
        (refine wp_go 600 ks_22_0.1 ?_; simp (disch := first | assumption | (simp only [ob_si, ar_si, ob_sl, ar_sl]; assumption) | omega) only [ldA_a, p_2, p_60, p_90, wpn_succ, wpn_zero, stp_h, lk_0, lk_s, st1_0, st1_1, st1_2, st2_0, st2_1, st2_2, kj_i, kj_a, kj_l, kj_n, cat_n, cat_i, cat_a, cat_u, cat_l, vc_i, vc_a, rv_s, tl_n, tl_s, Cal'_s, List.length_cons, List.length_nil, i0, i1, iNd, iN_lt, iN_le, iN_eq, iN_add, iN_mul, iN_mod, iN_sub, iN_div, iN_clamp, iN_inb, zle_N, zlt_N, zN_le, zN_lt, zN_eq, Nz_eq, mI_t, mI_f, bI_0, bI_1, bI_t, bI_f, dltT, dltF, dleT, dleF, deqT, deqF, Nat.not_lt_zero, not_true_eq_false, not_false_eq_true, true_and, and_true, false_and, and_false, or_true, true_or, false_or, or_false, and_self, if_true, if_false, Classical.not_not, Nat.add_assoc, Nat.zero_add, Nat.add_zero, bI_or, bI_True, bI_False, Bool.false_eq_true, reduceCtorEq, eq_self, gi_si, gl_si, gr_si, hn_si, hL_si, hX_si, gi_sl, gl_sl, gr_sl, hn_sl, ob_si, ar_si, ob_sl, ar_sl, ks_22_0, o7, zN])
        exact hQ
      have w6 := (wy_ok wN hk hp).1
      (refine wp_go 600 ks_81_0.2.2.1 ?_; simp (disch := first | assumption | (simp only [ob_si, ar_si, ob_sl, ar_sl]; assumption) | omega) only [ci_0, ci_1, inc_i, ldA_a, ldI_i, oc_143, oc_22, oc_35, p_0, p_2, p_3, p_30, p_44, p_6, p_62, p_80_1, p_80_3, p_9, p_94, wpn_succ, wpn_zero, stp_h, lk_0, lk_s, st1_0, st1_1, st1_2, st2_0, st2_1, st2_2, kj_i, kj_a, kj_l, kj_n, cat_n, cat_i, cat_a, cat_u, cat_l, vc_i, vc_a, rv_s, tl_n, tl_s, Cal'_s, List.length_cons, List.length_nil, i0, i1, iNd, iN_lt, iN_le, iN_eq, iN_add, iN_mul, iN_mod, iN_sub, iN_div, iN_clamp, iN_inb, zle_N, zlt_N, zN_le, zN_lt, zN_eq, Nz_eq, bI_0, bI_1, bI_t, bI_f, dltT, dltF, dleT, dleF, deqT, deqF, Nat.not_lt_zero, not_true_eq_false, not_false_eq_true, true_and, and_true, false_and, and_false, or_true, true_or, false_or, or_false, and_self, if_true, if_false, Classical.not_not, Nat.add_assoc, Nat.zero_add, Nat.add_zero, bI_or, bI_True, bI_False, Bool.false_eq_true, reduceCtorEq, eq_self, gi_si, gl_si, gr_si, hn_si, hL_si, hX_si, gi_sl, gl_sl, gr_sl, hn_sl, ob_si, ar_si, ob_sl, ar_sl, ks_81_0, oP, rP1, rP3, oY, o7, Cal_eq rpp, y_mate_q hB hY wN hk hp, c_setM_q h7 hB])
      refine hnx _ _ ⟨rfl, f.si (by unfold Sm; omega) _ _, _, At_M Az, ?_, ?_⟩
      · obtain ⟨g1, g2, g3, g4, g5, g6, g7⟩ := gz
        exact ⟨g1, g2, g3, g4, g5, g6, fun i hi => by show up (xM z) p _ i = _; rw [up_f (by omega)]; exact g7 i hi⟩
      · intro i hi
        show up (xM z) p _ i = _
        by_cases e : i = p
        · rw [up_t e, e]
        · rw [up_f e]; exact mz i (by omega)
    · rintro L h1 ⟨rfl, f, z, Az, gz, mz⟩
      have B1 := f.bs hB
      have oP : ob h1 23 5 := B1.ob (by decide) (by decide)
      have rP1 : gr h1 23 1 = some 7 := B1.r (by decide)
      have o7 : ob h1 7 3 := B1.ob (by decide) (by decide)
      have zN : gi h1 7 5 = iN (xN x) := by rw [Az.1, gz.1]
      have rpp : Ret 0 22 [.ref 7] h1 (some (.int (iN (xN x)))) h1 := by
        refine Ret_L [some (.ref 7)] rfl rfl fun Q hQ => ?_
        (refine wp_go 600 ks_22_0.1 ?_; simp (disch := first | assumption | (simp only [ob_si, ar_si, ob_sl, ar_sl]; assumption) | omega) only [ldA_a, p_2, p_60, p_90, wpn_succ, wpn_zero, stp_h, lk_0, lk_s, st1_0, st1_1, st1_2, st2_0, st2_1, st2_2, kj_i, kj_a, kj_l, kj_n, cat_n, cat_i, cat_a, cat_u, cat_l, vc_i, vc_a, rv_s, tl_n, tl_s, Cal'_s, List.length_cons, List.length_nil, i0, i1, iNd, iN_lt, iN_le, iN_eq, iN_add, iN_mul, iN_mod, iN_sub, iN_div, iN_clamp, iN_inb, zle_N, zlt_N, zN_le, zN_lt, zN_eq, Nz_eq, mI_t, mI_f, bI_0, bI_1, bI_t, bI_f, dltT, dltF, dleT, dleF, deqT, deqF, Nat.not_lt_zero, not_true_eq_false, not_false_eq_true, true_and, and_true, false_and, and_false, or_true, true_or, false_or, or_false, and_self, if_true, if_false, Classical.not_not, Nat.add_assoc, Nat.zero_add, Nat.add_zero, bI_or, bI_True, bI_False, Bool.false_eq_true, reduceCtorEq, eq_self, gi_si, gl_si, gr_si, hn_si, hL_si, hX_si, gi_sl, gl_sl, gr_sl, hn_sl, ob_si, ar_si, ob_sl, ar_sl, ks_22_0, o7, zN])
        exact hQ
      (refine wp_go 600 ks_81_0.2.2.1 ?_; simp (disch := first | assumption | (simp only [ob_si, ar_si, ob_sl, ar_sl]; assumption) | omega) only [ci_0, ci_1, inc_i, ldA_a, ldI_i, oc_143, oc_22, oc_35, p_0, p_2, p_3, p_30, p_44, p_6, p_62, p_80_1, p_80_3, p_9, p_94, wpn_succ, wpn_zero, stp_h, lk_0, lk_s, st1_0, st1_1, st1_2, st2_0, st2_1, st2_2, kj_i, kj_a, kj_l, kj_n, cat_n, cat_i, cat_a, cat_u, cat_l, vc_i, vc_a, rv_s, tl_n, tl_s, Cal'_s, List.length_cons, List.length_nil, i0, i1, iNd, iN_lt, iN_le, iN_eq, iN_add, iN_mul, iN_mod, iN_sub, iN_div, iN_clamp, iN_inb, zle_N, zlt_N, zN_le, zN_lt, zN_eq, Nz_eq, mI_t, mI_f, bI_0, bI_1, bI_t, bI_f, dltT, dltF, dleT, dleF, deqT, deqF, Nat.not_lt_zero, not_true_eq_false, not_false_eq_true, true_and, and_true, false_and, and_false, or_true, true_or, false_or, or_false, and_self, if_true, if_false, Classical.not_not, Nat.add_assoc, Nat.zero_add, Nat.add_zero, bI_or, bI_True, bI_False, Bool.false_eq_true, reduceCtorEq, eq_self, gi_si, gl_si, gr_si, hn_si, hL_si, hX_si, gi_sl, gl_sl, gr_sl, hn_sl, ob_si, ar_si, ob_sl, ar_sl, ks_81_0, oP, rP1, o7, Cal_eq rpp])
      refine hQ _ ?_ f
      obtain ⟨g1, g2, g3, g4, g5, g6, g7⟩ := gz
      have : z = psM x k := Mt_ext g1 g2 g3 g4 g5 (funext fun i => by
        show _ = (if i < xN x then wy (xN x) k i else xM x i)
        by_cases e : i < xN x
        · rw [if_pos e]; exact mz i e
        · rw [if_neg e]; exact g7 i (by omega)) g6
      rw [← this]
      exact Az
  obtain ⟨v, h', r, rfl, A, f⟩ := Ret_ex (d := 2) (y := 81) (as := [.ref 23, .int (iN k)]) [some (.ref 23), some (.int (iN k)), none] rfl rfl (key (fun v h' => v = none ∧ At h' 7 (psM x k) ∧ Fr (Sm 7) h h') fun h' a b => ⟨rfl, a, b⟩)
  exact ⟨h', r, A, hY.fr f (by unfold Sm; omega) (by unfold Sm; omega), Sp_7 f⟩
