/-! Pairs, the steady ones -/
noncomputable def steP (x : Mt) (k : Nat) : Prop := itx (stF (psM x k)) 0 (xN x) = none
noncomputable def steS (x : Mt) (k a : Nat) : Nat := @ite _ (steP x k) (Classical.propDecidable _) (a + 1) a
noncomputable def steN (x : Mt) : Nat := itr (steS x) 0 (cw (xN x)) 0
theorem steS_t {x : Mt} {k a : Nat} (h : steP x k) : steS x k a = a + 1 := by unfold steS; rw [if_pos h]
theorem steS_f {x : Mt} {k a : Nat} (h : ¬ steP x k) : steS x k a = a := by unfold steS; rw [if_neg h]
theorem p_steady {h : Hp} {x : Mt} (hB : Bs h) (hA : At h 1 x) (hW : Wf x) : ∃ h', Ret 12 78 [.ref 23] h (some (.int (iN (steN x)))) h' ∧ Fr Sp h h' := by
  have wN := hW.1
  have hc := wyL_le (xN x) (by omega)
  have key : ∀ Q : Option Value → Hp → Prop, (∀ h', Fr Sp h h' → Q (some (.int (iN (steN x)))) h') → wp 12 78 0 [some (.ref 23), none, none] [] h Q := by
    intro Q hQ
    obtain ⟨h1, r1, A1, Y1, f1⟩ := p_list hB hA hW
    have oP : ob h 23 5 := hB.ob (by decide) (by decide)
    (refine wp_go 600 ks_78_0.1 ?_; simp (disch := first | assumption | (simp only [ob_si, ar_si, ob_sl, ar_sl]; assumption) | omega) only [ci_0, ci_1, inc_i, ldA_a, ldI_i, oc_142, oc_56, oc_80, oc_81, p_0, p_2, p_3, p_30, p_31, p_44, p_6, p_62, p_80_1, p_80_2, p_9, p_90, wpn_succ, wpn_zero, stp_h, lk_0, lk_s, st1_0, st1_1, st1_2, st2_0, st2_1, st2_2, kj_i, kj_a, kj_l, kj_n, cat_n, cat_i, cat_a, cat_u, cat_l, vc_i, vc_a, rv_s, tl_n, tl_s, Cal'_s, List.length_cons, List.length_nil, i0, i1, iNd, iN_lt, iN_le, iN_eq, iN_add, iN_mul, iN_mod, iN_sub, iN_div, iN_clamp, iN_inb, zle_N, zlt_N, zN_le, zN_lt, zN_eq, Nz_eq, mI_t, mI_f, bI_0, bI_1, bI_t, bI_f, dltT, dltF, dleT, dleF, deqT, deqF, Nat.not_lt_zero, not_true_eq_false, not_false_eq_true, true_and, and_true, false_and, and_false, or_true, true_or, false_or, or_false, and_self, if_true, if_false, Classical.not_not, Nat.add_assoc, Nat.zero_add, Nat.add_zero, bI_or, bI_True, bI_False, Bool.false_eq_true, reduceCtorEq, eq_self, gi_si, gl_si, gr_si, hn_si, hL_si, hX_si, gi_sl, gl_sl, gr_sl, hn_sl, ob_si, ar_si, ob_sl, ar_sl, ks_78_0, oP, Cal_eq r1])
    refine wp_loop (fun k L h' => Fr Sp h h' ∧ Wl h' (xN x) ∧ (∃ y, At h' 7 y ∧ Ag x y ∧ Wf y) ∧ ∃ a, itr (steS x) k (cw (xN x) - k) a = steN x ∧ L = [some (.ref 23), some (.int (iN a)), some (.int (iN k))]) (cw (xN x)) ?_ ?_ (cw (xN x)) 0 _ h1 (by omega) ⟨f1, Y1, ⟨x, A1, Ag.rf x, hW⟩, 0, rfl, rfl⟩
    · rintro k L h2 hk ⟨f2, Y2, ⟨y, A2, gy, Wy2⟩, a, he, rfl⟩ hnx
      have B2 := f2.bs hB
      obtain ⟨h3, r3, A3, Y3, f3⟩ := p_puton B2 A2 hW Y2 gy Wy2 hk
      have B3 := f3.bs B2
      have W3 := wf_ps hW hk
      have oP2 : ob h2 23 5 := B2.ob (by decide) (by decide)
      have q3 : gr h2 23 3 = some 24 := B2.r (by decide)
      have oY2 : ob h2 24 10 := B2.ob (by decide) (by decide)
      have oP3 : ob h3 23 5 := B3.ob (by decide) (by decide)
      have q1 : gr h3 23 1 = some 7 := B3.r (by decide)
      have o73 : ob h3 7 3 := B3.ob (by decide) (by decide)
      have r4 := c_steady (m := 7) (Or.inr (Or.inl rfl)) B3 A3 W3
      change Ret _ _ _ _ (some (.int (bI (steP x k)))) _ at r4
      rw [show cw (xN x) - k = cw (xN x) - (k + 1) + 1 by omega, itr_s] at he
      by_cases hs : steP x k
      · rw [steS_t hs] at he
        (refine wp_go 600 ks_78_0.2.2.2.2.2.2.1 ?_; simp (disch := first | assumption | (simp only [ob_si, ar_si, ob_sl, ar_sl]; assumption) | omega) only [ci_0, ci_1, inc_i, ldA_a, ldI_i, oc_142, oc_56, oc_80, oc_81, p_0, p_2, p_3, p_30, p_31, p_44, p_6, p_62, p_80_1, p_80_2, p_9, p_90, wpn_succ, wpn_zero, stp_h, lk_0, lk_s, st1_0, st1_1, st1_2, st2_0, st2_1, st2_2, kj_i, kj_a, kj_l, kj_n, cat_n, cat_i, cat_a, cat_u, cat_l, vc_i, vc_a, rv_s, tl_n, tl_s, Cal'_s, List.length_cons, List.length_nil, i0, i1, iNd, iN_lt, iN_le, iN_eq, iN_add, iN_mul, iN_mod, iN_sub, iN_div, iN_clamp, iN_inb, zle_N, zlt_N, zN_le, zN_lt, zN_eq, Nz_eq, mI_t, mI_f, bI_0, bI_1, bI_t, bI_f, dltT, dltF, dleT, dleF, deqT, deqF, Nat.not_lt_zero, not_true_eq_false, not_false_eq_true, true_and, and_true, false_and, and_false, or_true, true_or, false_or, or_false, and_self, if_true, if_false, Classical.not_not, Nat.add_assoc, Nat.zero_add, Nat.add_zero, bI_or, bI_True, bI_False, Bool.false_eq_true, reduceCtorEq, eq_self, gi_si, gl_si, gr_si, hn_si, hL_si, hX_si, gi_sl, gl_sl, gr_sl, hn_sl, ob_si, ar_si, ob_sl, ar_sl, ks_78_0, oP2, q3, oY2, y_num_q B2 Y2 wN, Cal_eq r3, oP3, q1, o73, Cal_eq r4, hs])
        exact hnx _ _ ⟨f2.tr f3, Y3, ⟨_, A3, Ag_ps x k, W3⟩, _, he, rfl⟩
      · rw [steS_f hs] at he
        (refine wp_go 600 ks_78_0.2.2.2.2.2.2.1 ?_; simp (disch := first | assumption | (simp only [ob_si, ar_si, ob_sl, ar_sl]; assumption) | omega) only [ci_0, ci_1, inc_i, ldA_a, ldI_i, oc_142, oc_56, oc_80, oc_81, p_0, p_2, p_3, p_30, p_31, p_44, p_6, p_62, p_80_1, p_80_2, p_9, p_90, wpn_succ, wpn_zero, stp_h, lk_0, lk_s, st1_0, st1_1, st1_2, st2_0, st2_1, st2_2, kj_i, kj_a, kj_l, kj_n, cat_n, cat_i, cat_a, cat_u, cat_l, vc_i, vc_a, rv_s, tl_n, tl_s, Cal'_s, List.length_cons, List.length_nil, i0, i1, iNd, iN_lt, iN_le, iN_eq, iN_add, iN_mul, iN_mod, iN_sub, iN_div, iN_clamp, iN_inb, zle_N, zlt_N, zN_le, zN_lt, zN_eq, Nz_eq, mI_t, mI_f, bI_0, bI_1, bI_t, bI_f, dltT, dltF, dleT, dleF, deqT, deqF, Nat.not_lt_zero, not_true_eq_false, not_false_eq_true, true_and, and_true, false_and, and_false, or_true, true_or, false_or, or_false, and_self, if_true, if_false, Classical.not_not, Nat.add_assoc, Nat.zero_add, Nat.add_zero, bI_or, bI_True, bI_False, Bool.false_eq_true, reduceCtorEq, eq_self, gi_si, gl_si, gr_si, hn_si, hL_si, hX_si, gi_sl, gl_sl, gr_sl, hn_sl, ob_si, ar_si, ob_sl, ar_sl, ks_78_0, oP2, q3, oY2, y_num_q B2 Y2 wN, Cal_eq r3, oP3, q1, o73, Cal_eq r4, hs])
        exact hnx _ _ ⟨f2.tr f3, Y3, ⟨_, A3, Ag_ps x k, W3⟩, _, he, rfl⟩
    · rintro L h2 ⟨f2, Y2, _, a, he, rfl⟩
      have B2 := f2.bs hB
      have oP2 : ob h2 23 5 := B2.ob (by decide) (by decide)
      have q3 : gr h2 23 3 = some 24 := B2.r (by decide)
      have oY2 : ob h2 24 10 := B2.ob (by decide) (by decide)
      rw [Nat.sub_self, itr_0] at he
      rw [he]
      (refine wp_go 600 ks_78_0.2.2.2.2.2.2.1 ?_; simp (disch := first | assumption | (simp only [ob_si, ar_si, ob_sl, ar_sl]; assumption) | omega) only [ci_0, ci_1, inc_i, ldA_a, ldI_i, oc_142, oc_56, oc_80, oc_81, p_0, p_2, p_3, p_30, p_31, p_44, p_6, p_62, p_80_1, p_80_2, p_9, p_90, wpn_succ, wpn_zero, stp_h, lk_0, lk_s, st1_0, st1_1, st1_2, st2_0, st2_1, st2_2, kj_i, kj_a, kj_l, kj_n, cat_n, cat_i, cat_a, cat_u, cat_l, vc_i, vc_a, rv_s, tl_n, tl_s, Cal'_s, List.length_cons, List.length_nil, i0, i1, iNd, iN_lt, iN_le, iN_eq, iN_add, iN_mul, iN_mod, iN_sub, iN_div, iN_clamp, iN_inb, zle_N, zlt_N, zN_le, zN_lt, zN_eq, Nz_eq, mI_t, mI_f, bI_0, bI_1, bI_t, bI_f, dltT, dltF, dleT, dleF, deqT, deqF, Nat.not_lt_zero, not_true_eq_false, not_false_eq_true, true_and, and_true, false_and, and_false, or_true, true_or, false_or, or_false, and_self, if_true, if_false, Classical.not_not, Nat.add_assoc, Nat.zero_add, Nat.add_zero, bI_or, bI_True, bI_False, Bool.false_eq_true, reduceCtorEq, eq_self, gi_si, gl_si, gr_si, hn_si, hL_si, hX_si, gi_sl, gl_sl, gr_sl, hn_sl, ob_si, ar_si, ob_sl, ar_sl, ks_78_0, oP2, q3, oY2, y_num_q B2 Y2 wN])
      exact hQ _ f2
  obtain ⟨v, h', r, rfl, f⟩ := Ret_ex (d := 12) (y := 78) (as := [.ref 23]) [some (.ref 23), none, none] rfl rfl (key (fun v h' => v = some (.int (iN (steN x))) ∧ Fr Sp h h') fun h' a => ⟨rfl, a⟩)
  exact ⟨h', r, f⟩
noncomputable def stxF (x : Mt) (k : Nat) : Option Nat := @ite _ (steP x k) (Classical.propDecidable _) (some k) none
theorem stxF_t {x : Mt} {k : Nat} (h : steP x k) : stxF x k = some k := by unfold stxF; rw [if_pos h]
theorem stxF_f {x : Mt} {k : Nat} (h : ¬ steP x k) : stxF x k = none := by unfold stxF; rw [if_neg h]
noncomputable def stxO (x : Mt) : Option Nat := itx (stxF x) 0 (cw (xN x))
noncomputable def stxV (x : Mt) (p : Nat) : Int32 := match stxO x with | some k => mI (wy (xN x) k p) | none => zI (-9)
theorem p_mate {h : Hp} {p : Nat} {x : Mt} (hB : Bs h) (hA : At h 1 x) (hW : Wf x) (hp : p < xN x) : ∃ h', Ret 12 79 [.ref 23, .int (iN p)] h (some (.int (stxV x p))) h' ∧ Fr Sp h h' := by
  have wN := hW.1
  have hc := wyL_le (xN x) (by omega)
  have key : ∀ Q : Option Value → Hp → Prop, (∀ h', Fr Sp h h' → Q (some (.int (stxV x p))) h') → wp 12 79 0 [some (.ref 23), some (.int (iN p)), none] [] h Q := by
    intro Q hQ
    obtain ⟨h1, r1, A1, Y1, f1⟩ := p_list hB hA hW
    have oP : ob h 23 5 := hB.ob (by decide) (by decide)
    (refine wp_go 600 ks_79_0.1 ?_; simp (disch := first | assumption | (simp only [ob_si, ar_si, ob_sl, ar_sl]; assumption) | omega) only [ci_0, ci_1, cm_9, inc_i, ldA_a, ldI_i, oc_142, oc_34, oc_56, oc_80, oc_81, p_0, p_2, p_3, p_30, p_31, p_44, p_6, p_62, p_80_1, p_80_2, p_9, p_90, wpn_succ, wpn_zero, stp_h, lk_0, lk_s, st1_0, st1_1, st1_2, st2_0, st2_1, st2_2, kj_i, kj_a, kj_l, kj_n, cat_n, cat_i, cat_a, cat_u, cat_l, vc_i, vc_a, rv_s, tl_n, tl_s, Cal'_s, List.length_cons, List.length_nil, i0, i1, iNd, iN_lt, iN_le, iN_eq, iN_add, iN_mul, iN_mod, iN_sub, iN_div, iN_clamp, iN_inb, zle_N, zlt_N, zN_le, zN_lt, zN_eq, Nz_eq, mI_t, mI_f, bI_0, bI_1, bI_t, bI_f, dltT, dltF, dleT, dleF, deqT, deqF, Nat.not_lt_zero, not_true_eq_false, not_false_eq_true, true_and, and_true, false_and, and_false, or_true, true_or, false_or, or_false, and_self, if_true, if_false, Classical.not_not, Nat.add_assoc, Nat.zero_add, Nat.add_zero, bI_or, bI_True, bI_False, Bool.false_eq_true, reduceCtorEq, eq_self, gi_si, gl_si, gr_si, hn_si, hL_si, hX_si, gi_sl, gl_sl, gr_sl, hn_sl, ob_si, ar_si, ob_sl, ar_sl, ks_79_0, ks_79_1, oP, Cal_eq r1])
    refine wp_loop (fun k L h' => itx (stxF x) 0 k = none ∧ Fr Sp h h' ∧ Wl h' (xN x) ∧ (∃ y, At h' 7 y ∧ Ag x y ∧ Wf y) ∧ L = [some (.ref 23), some (.int (iN p)), some (.int (iN k))]) (cw (xN x)) ?_ ?_ (cw (xN x)) 0 _ h1 (by omega) ⟨rfl, f1, Y1, ⟨x, A1, Ag.rf x, hW⟩, rfl⟩
    · rintro k L h2 hk ⟨h0, f2, Y2, ⟨y, A2, gy, Wy2⟩, rfl⟩ hnx
      have B2 := f2.bs hB
      obtain ⟨h3, r3, A3, Y3, f3⟩ := p_puton B2 A2 hW Y2 gy Wy2 hk
      have B3 := f3.bs B2
      have W3 := wf_ps hW hk
      have oP2 : ob h2 23 5 := B2.ob (by decide) (by decide)
      have q3 : gr h2 23 3 = some 24 := B2.r (by decide)
      have oY2 : ob h2 24 10 := B2.ob (by decide) (by decide)
      have oP3 : ob h3 23 5 := B3.ob (by decide) (by decide)
      have q1 : gr h3 23 1 = some 7 := B3.r (by decide)
      have o73 : ob h3 7 3 := B3.ob (by decide) (by decide)
      have r4 := c_steady (m := 7) (Or.inr (Or.inl rfl)) B3 A3 W3
      change Ret _ _ _ _ (some (.int (bI (steP x k)))) _ at r4
      by_cases hs : steP x k
      · have r5 := c_mate (m := 7) (i := p) (Or.inr (Or.inl rfl)) B3 A3 W3 hp
        change Ret _ _ _ _ (some (.int (mI (if p < xN x then wy (xN x) k p else xM x p)))) _ at r5
        rw [if_pos hp] at r5
        have ez : stxO x = some k := by
          have := itx_some (stxF x) k 0 h0 k (by rw [Nat.zero_add]; exact stxF_t hs) (cw (xN x) - k - 1)
          rw [show k + 1 + (cw (xN x) - k - 1) = cw (xN x) by omega] at this
          exact this
        simp only [stxV, ez] at hQ
        (refine wp_go 600 ks_79_0.2.2.2.2.1 ?_; simp (disch := first | assumption | (simp only [ob_si, ar_si, ob_sl, ar_sl]; assumption) | omega) only [ci_0, ci_1, cm_9, inc_i, ldA_a, ldI_i, oc_142, oc_34, oc_56, oc_80, oc_81, p_0, p_2, p_3, p_30, p_31, p_44, p_6, p_62, p_80_1, p_80_2, p_9, p_90, wpn_succ, wpn_zero, stp_h, lk_0, lk_s, st1_0, st1_1, st1_2, st2_0, st2_1, st2_2, kj_i, kj_a, kj_l, kj_n, cat_n, cat_i, cat_a, cat_u, cat_l, vc_i, vc_a, rv_s, tl_n, tl_s, Cal'_s, List.length_cons, List.length_nil, i0, i1, iNd, iN_lt, iN_le, iN_eq, iN_add, iN_mul, iN_mod, iN_sub, iN_div, iN_clamp, iN_inb, zle_N, zlt_N, zN_le, zN_lt, zN_eq, Nz_eq, bI_0, bI_1, bI_t, bI_f, dltT, dltF, dleT, dleF, deqT, deqF, Nat.not_lt_zero, not_true_eq_false, not_false_eq_true, true_and, and_true, false_and, and_false, or_true, true_or, false_or, or_false, and_self, if_true, if_false, Classical.not_not, Nat.add_assoc, Nat.zero_add, Nat.add_zero, bI_or, bI_True, bI_False, Bool.false_eq_true, reduceCtorEq, eq_self, gi_si, gl_si, gr_si, hn_si, hL_si, hX_si, gi_sl, gl_sl, gr_sl, hn_sl, ob_si, ar_si, ob_sl, ar_sl, ks_79_0, ks_79_1, oP2, q3, oY2, y_num_q B2 Y2 wN, Cal_eq r3, oP3, q1, o73, Cal_eq r4, hs, Cal_eq r5])
        exact hQ _ (f2.tr f3)
      · (refine wp_go 600 ks_79_0.2.2.2.2.1 ?_; simp (disch := first | assumption | (simp only [ob_si, ar_si, ob_sl, ar_sl]; assumption) | omega) only [ci_0, ci_1, cm_9, inc_i, ldA_a, ldI_i, oc_142, oc_34, oc_56, oc_80, oc_81, p_0, p_2, p_3, p_30, p_31, p_44, p_6, p_62, p_80_1, p_80_2, p_9, p_90, wpn_succ, wpn_zero, stp_h, lk_0, lk_s, st1_0, st1_1, st1_2, st2_0, st2_1, st2_2, kj_i, kj_a, kj_l, kj_n, cat_n, cat_i, cat_a, cat_u, cat_l, vc_i, vc_a, rv_s, tl_n, tl_s, Cal'_s, List.length_cons, List.length_nil, i0, i1, iNd, iN_lt, iN_le, iN_eq, iN_add, iN_mul, iN_mod, iN_sub, iN_div, iN_clamp, iN_inb, zle_N, zlt_N, zN_le, zN_lt, zN_eq, Nz_eq, mI_t, mI_f, bI_0, bI_1, bI_t, bI_f, dltT, dltF, dleT, dleF, deqT, deqF, Nat.not_lt_zero, not_true_eq_false, not_false_eq_true, true_and, and_true, false_and, and_false, or_true, true_or, false_or, or_false, and_self, if_true, if_false, Classical.not_not, Nat.add_assoc, Nat.zero_add, Nat.add_zero, bI_or, bI_True, bI_False, Bool.false_eq_true, reduceCtorEq, eq_self, gi_si, gl_si, gr_si, hn_si, hL_si, hX_si, gi_sl, gl_sl, gr_sl, hn_sl, ob_si, ar_si, ob_sl, ar_sl, ks_79_0, ks_79_1, oP2, q3, oY2, y_num_q B2 Y2 wN, Cal_eq r3, oP3, q1, o73, Cal_eq r4, hs])
        exact hnx _ _ ⟨(itx_last _ _ _).mpr ⟨h0, by rw [Nat.zero_add]; exact stxF_f hs⟩, f2.tr f3, Y3, ⟨_, A3, Ag_ps x k, W3⟩, rfl⟩
    · rintro L h2 ⟨h0, f2, Y2, _, rfl⟩
      have B2 := f2.bs hB
      have oP2 : ob h2 23 5 := B2.ob (by decide) (by decide)
      have q3 : gr h2 23 3 = some 24 := B2.r (by decide)
      have oY2 : ob h2 24 10 := B2.ob (by decide) (by decide)
      simp only [stxV, stxO, h0] at hQ
      (refine wp_go 600 ks_79_0.2.2.2.2.1 ?_; simp (disch := first | assumption | (simp only [ob_si, ar_si, ob_sl, ar_sl]; assumption) | omega) only [ci_0, ci_1, cm_9, inc_i, ldA_a, ldI_i, oc_142, oc_34, oc_56, oc_80, oc_81, p_0, p_2, p_3, p_30, p_31, p_44, p_6, p_62, p_80_1, p_80_2, p_9, p_90, wpn_succ, wpn_zero, stp_h, lk_0, lk_s, st1_0, st1_1, st1_2, st2_0, st2_1, st2_2, kj_i, kj_a, kj_l, kj_n, cat_n, cat_i, cat_a, cat_u, cat_l, vc_i, vc_a, rv_s, tl_n, tl_s, Cal'_s, List.length_cons, List.length_nil, i0, i1, iNd, iN_lt, iN_le, iN_eq, iN_add, iN_mul, iN_mod, iN_sub, iN_div, iN_clamp, iN_inb, zle_N, zlt_N, zN_le, zN_lt, zN_eq, Nz_eq, mI_t, mI_f, bI_0, bI_1, bI_t, bI_f, dltT, dltF, dleT, dleF, deqT, deqF, Nat.not_lt_zero, not_true_eq_false, not_false_eq_true, true_and, and_true, false_and, and_false, or_true, true_or, false_or, or_false, and_self, if_true, if_false, Classical.not_not, Nat.add_assoc, Nat.zero_add, Nat.add_zero, bI_or, bI_True, bI_False, Bool.false_eq_true, reduceCtorEq, eq_self, gi_si, gl_si, gr_si, hn_si, hL_si, hX_si, gi_sl, gl_sl, gr_sl, hn_sl, ob_si, ar_si, ob_sl, ar_sl, ks_79_0, ks_79_1, oP2, q3, oY2, y_num_q B2 Y2 wN])
      exact hQ _ f2
  obtain ⟨v, h', r, rfl, f⟩ := Ret_ex (d := 12) (y := 79) (as := [.ref 23, .int (iN p)]) [some (.ref 23), some (.int (iN p)), none] rfl rfl (key (fun v h' => v = some (.int (stxV x p)) ∧ Fr Sp h h') fun h' a => ⟨rfl, a⟩)
  exact ⟨h', r, f⟩
