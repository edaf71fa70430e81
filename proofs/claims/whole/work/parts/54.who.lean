/-! who it was -/
theorem RoO.fr {h h' : Hp} {n : Nat} {v : Nat → Nat} {S F : Nat → Prop} (hR : RoO h n v) (f : Fo S F h h') (h1 : ¬ S 104) (h2 : ¬ F 31) : RoO h' n v := by
  unfold RoO
  rw [f.2 31 h2, f.i h1 (by omega)]; exact hR
theorem wo_row {h : Hp} {i j rn : Nat} {rv : Nat → Nat} {x y : Mt} (hB : Bs h) (hA : Ao h y) (hW : Wf y) (hK : Kx h 98 x) (hR : RoO h rn rv) (hr : ro_ok rn rv) (hi : i < xN y) (hj : j < xN y) : ∃ h', Ret 3 272 [.ref 87, .int (iN i), .int (iN j)] h (some (.int (bI (ftP y rn rv i j)))) h' ∧ Ao h' x ∧ Kx h' 98 x ∧ Fo (Sc 98) Fc h h' := by
  have wN := hW.1
  obtain ⟨hn0, hv0⟩ := id hr
  have key : ∀ Q : Option Value → Hp → Prop, (∀ h', Ao h' x → Kx h' 98 x → Fo (Sc 98) Fc h h' → Q (some (.int (bI (ftP y rn rv i j)))) h') → wp 3 272 0 [some (.ref 87), some (.int (iN i)), some (.int (iN j)), none, none] [] h Q := by
    intro Q hQ
    (refine wp_go 600 ks_272_0.1 ?_; simp (disch := first | with_reducible assumption | omega | (simp only [ob_si, ar_si, ob_sl, ar_sl]; with_reducible assumption)) only [ci_0, ci_1, cm_9, inc_i, ldA_a, ldI_i, oc_212, oc_217, oc_237, r_0, r_2, r_3, r_30, r_31, r_36, r_42, r_44, r_6, r_60, r_62, r_70, r_80_1, r_80_3, r_9, r_91, wpn_S, wpn_zero, stp_h, lk_0, lk_s, st1_0, st1_1, st1_2, st2_0, st2_1, st2_2, kj_i, kj_a, kj_l, kj_n, cat_n, cat_i, cat_a, cat_u, cat_l, vc_i, vc_a, rv_s, tl_n, tl_s, Cal'_s, List.length_cons, List.length_nil, i0, i1, iNd, iN_lt, iN_le, iN_eq, iN_add, iN_mul, iN_mod, iN_sub, iN_div, iN_clamp, iN_inb, zle_N, zlt_N, zN_le, zN_lt, zN_eq, Nz_eq, mI_t, mI_f, bI_0, bI_1, bI_t, bI_f, dltT, dltF, dleT, dleF, deqT, deqF, Nat.not_lt_zero, not_true_eq_false, not_false_eq_true, true_and, and_true, false_and, and_false, or_true, true_or, false_or, or_false, and_self, if_true, if_false, Classical.not_not, Nat.add_assoc, Nat.zero_add, Nat.add_zero, bI_or, bI_True, bI_False, Bool.false_eq_true, reduceCtorEq, eq_self, gi_si, gl_si, gr_si, hn_si, hL_si, hX_si, gi_sl, gl_sl, gr_sl, hn_sl, ob_si, ar_si, ob_sl, ar_sl, ks_272_0, ks_272_1])
    refine wp_loop (fun k L h' => itx (ftF y rv i j) 0 k = none ∧ Ao h' (dayM y (k - 1)) ∧ Kx h' 98 x ∧ Fo (Sc 98) Fc h h' ∧ L = [some (.ref 87), some (.int (iN i)), some (.int (iN j)), some (.int (iN 1)), some (.int (iN k))]) rn ?_ ?_ rn 0 _ h (by omega) ⟨rfl, by rw [show 0 - 1 = 0 from rfl, day_0]; exact hA, hK, Fo.rf _ _ h, rfl⟩
    · rintro k L h1 hk ⟨h0, A1, K1, f1, rfl⟩ hnx
      have B1 := f1.bs hB
      have oO := (O_facts B1).1
      have R1 := hR.fr f1 (by unfold Sc; omega) (by unfold Fc; omega)
      have m1 := R1.1
      -- the day ahead
      have main : ∀ h2, Ao h2 (dayM y k) → Kx h2 98 x → Fo (Sc 98) Fc h h2 → (∀ K : Option Value → Hp → Prop, 0 < k → Cal 2 217 [.ref 87, .int (zI (-9)), .int (zI (-9))] h1 K = K none h2) → (k = 0 → h2 = h1) → wp 3 272 5 [some (.ref 87), some (.int (iN i)), some (.int (iN j)), some (.int (iN 1)), some (.int (iN k))] [] h1 Q := by
        intro h2 A2 K2 f2 cd c0
        have B2 := f2.bs hB
        have oO2 := (O_facts B2).1
        have R2 := hR.fr f2 (by unfold Sc; omega) (by unfold Fc; omega)
        have m2 := R2.1
        have v2 := R2.2 k (by omega)
        have rr := B2.r (o := 87) (k := 30) (v := 104) (by decide)
        have ra : ar h2 1 104 := B2.ar (by decide) (by decide)
        have rs : (SH 104).2 = 12 := by decide
        have rq := o_quar (i := i) (j := j) B2 A2 (wf_day hW k) (by omega) (by omega)
        rw [day_qb hi hj] at rq
        have hq := qbN_b hW i j k
        have hv := hv0 k
        by_cases hc : rv k = qbN y i j k
        · have ef : ftF y rv i j k = none := if_pos hc
          have hnx := hnx [some (.ref 87), some (.int (iN i)), some (.int (iN j)), some (.int (iN 1)), some (.int (iN (k + 1)))] h2 ⟨(itx_last _ _ _).mpr ⟨h0, by rw [Nat.zero_add]; exact ef⟩, by rw [show k + 1 - 1 = k by omega]; exact A2, K2, f2, rfl⟩
          by_cases hk0 : 0 < k
          · have cd := fun K => cd K hk0
            (refine wp_go 600 ks_272_0.2.2.2.2.1 ?_; simp (disch := first | with_reducible assumption | omega | (simp only [ob_si, ar_si, ob_sl, ar_sl]; with_reducible assumption)) only [ci_0, ci_1, cm_9, inc_i, ldA_a, ldI_i, oc_212, oc_217, oc_237, r_0, r_2, r_3, r_30, r_31, r_36, r_42, r_44, r_6, r_60, r_62, r_70, r_80_1, r_80_3, r_9, r_91, wpn_S, wpn_zero, stp_h, lk_0, lk_s, st1_0, st1_1, st1_2, st2_0, st2_1, st2_2, kj_i, kj_a, kj_l, kj_n, cat_n, cat_i, cat_a, cat_u, cat_l, vc_i, vc_a, rv_s, tl_n, tl_s, Cal'_s, List.length_cons, List.length_nil, i0, i1, iNd, iN_lt, iN_le, iN_eq, iN_add, iN_mul, iN_mod, iN_sub, iN_div, iN_clamp, iN_inb, zle_N, zlt_N, zN_le, zN_lt, zN_eq, Nz_eq, mI_t, mI_f, bI_0, bI_1, bI_t, bI_f, dltT, dltF, dleT, dleF, deqT, deqF, Nat.not_lt_zero, not_true_eq_false, not_false_eq_true, true_and, and_true, false_and, and_false, or_true, true_or, false_or, or_false, and_self, if_true, if_false, Classical.not_not, Nat.add_assoc, Nat.zero_add, Nat.add_zero, bI_or, bI_True, bI_False, Bool.false_eq_true, reduceCtorEq, eq_self, gi_si, gl_si, gr_si, hn_si, hL_si, hX_si, gi_sl, gl_sl, gr_sl, hn_sl, ob_si, ar_si, ob_sl, ar_sl, ks_272_0, ks_272_1, oO, m1, cd, oO2, Cal_eq rq, rr, ra, rs, v2])
            exact hnx
          · have e0 := c0 (by omega)
            subst e0
            (refine wp_go 600 ks_272_0.2.2.2.2.1 ?_; simp (disch := first | with_reducible assumption | omega | (simp only [ob_si, ar_si, ob_sl, ar_sl]; with_reducible assumption)) only [ci_0, ci_1, cm_9, inc_i, ldA_a, ldI_i, oc_212, oc_217, oc_237, r_0, r_2, r_3, r_30, r_31, r_36, r_42, r_44, r_6, r_60, r_62, r_70, r_80_1, r_80_3, r_9, r_91, wpn_S, wpn_zero, stp_h, lk_0, lk_s, st1_0, st1_1, st1_2, st2_0, st2_1, st2_2, kj_i, kj_a, kj_l, kj_n, cat_n, cat_i, cat_a, cat_u, cat_l, vc_i, vc_a, rv_s, tl_n, tl_s, Cal'_s, List.length_cons, List.length_nil, i0, i1, iNd, iN_lt, iN_le, iN_eq, iN_add, iN_mul, iN_mod, iN_sub, iN_div, iN_clamp, iN_inb, zle_N, zlt_N, zN_le, zN_lt, zN_eq, Nz_eq, mI_t, mI_f, bI_0, bI_1, bI_t, bI_f, dltT, dltF, dleT, dleF, deqT, deqF, Nat.not_lt_zero, not_true_eq_false, not_false_eq_true, true_and, and_true, false_and, and_false, or_true, true_or, false_or, or_false, and_self, if_true, if_false, Classical.not_not, Nat.add_assoc, Nat.zero_add, Nat.add_zero, bI_or, bI_True, bI_False, Bool.false_eq_true, reduceCtorEq, eq_self, gi_si, gl_si, gr_si, hn_si, hL_si, hX_si, gi_sl, gl_sl, gr_sl, hn_sl, ob_si, ar_si, ob_sl, ar_sl, ks_272_0, ks_272_1, oO, m1, oO2, Cal_eq rq, rr, ra, rs, v2])
            exact hnx
        · have hft : ¬ ftP y rn rv i j := by
            intro e
            have := (itx_ni _ _ _).mp e k (by omega) (by omega)
            rw [show ftF y rv i j k = some () from if_neg hc] at this
            cases this
          obtain ⟨h3, r3, A3, K3, f3⟩ := wo_again B2 K2
          have hQ := hQ h3 A3 K3 (f2.tr f3)
          rw [bI_f hft] at hQ
          have nxt : wp 3 272 5 [some (.ref 87), some (.int (iN i)), some (.int (iN j)), some (.int (iN 0)), some (.int (iN (k + 1)))] [] h2 Q := by
            by_cases hk1 : k + 1 < rn
            · (refine wp_go 600 ks_272_0.2.2.2.2.1 ?_; simp (disch := first | with_reducible assumption | omega | (simp only [ob_si, ar_si, ob_sl, ar_sl]; with_reducible assumption)) only [ci_0, ci_1, cm_9, inc_i, ldA_a, ldI_i, oc_212, oc_217, oc_237, r_0, r_2, r_3, r_30, r_31, r_36, r_42, r_44, r_6, r_60, r_62, r_70, r_80_1, r_80_3, r_9, r_91, wpn_S, wpn_zero, stp_h, lk_0, lk_s, st1_0, st1_1, st1_2, st2_0, st2_1, st2_2, kj_i, kj_a, kj_l, kj_n, cat_n, cat_i, cat_a, cat_u, cat_l, vc_i, vc_a, rv_s, tl_n, tl_s, Cal'_s, List.length_cons, List.length_nil, i0, i1, iNd, iN_lt, iN_le, iN_eq, iN_add, iN_mul, iN_mod, iN_sub, iN_div, iN_clamp, iN_inb, zle_N, zlt_N, zN_le, zN_lt, zN_eq, Nz_eq, mI_t, mI_f, bI_0, bI_1, bI_t, bI_f, dltT, dltF, dleT, dleF, deqT, deqF, Nat.not_lt_zero, not_true_eq_false, not_false_eq_true, true_and, and_true, false_and, and_false, or_true, true_or, false_or, or_false, and_self, if_true, if_false, Classical.not_not, Nat.add_assoc, Nat.zero_add, Nat.add_zero, bI_or, bI_True, bI_False, Bool.false_eq_true, reduceCtorEq, eq_self, gi_si, gl_si, gr_si, hn_si, hL_si, hX_si, gi_sl, gl_sl, gr_sl, hn_sl, ob_si, ar_si, ob_sl, ar_sl, ks_272_0, ks_272_1, oO2, m2, Cal_eq r3])
              exact hQ
            · (refine wp_go 600 ks_272_0.2.2.2.2.1 ?_; simp (disch := first | with_reducible assumption | omega | (simp only [ob_si, ar_si, ob_sl, ar_sl]; with_reducible assumption)) only [ci_0, ci_1, cm_9, inc_i, ldA_a, ldI_i, oc_212, oc_217, oc_237, r_0, r_2, r_3, r_30, r_31, r_36, r_42, r_44, r_6, r_60, r_62, r_70, r_80_1, r_80_3, r_9, r_91, wpn_S, wpn_zero, stp_h, lk_0, lk_s, st1_0, st1_1, st1_2, st2_0, st2_1, st2_2, kj_i, kj_a, kj_l, kj_n, cat_n, cat_i, cat_a, cat_u, cat_l, vc_i, vc_a, rv_s, tl_n, tl_s, Cal'_s, List.length_cons, List.length_nil, i0, i1, iNd, iN_lt, iN_le, iN_eq, iN_add, iN_mul, iN_mod, iN_sub, iN_div, iN_clamp, iN_inb, zle_N, zlt_N, zN_le, zN_lt, zN_eq, Nz_eq, mI_t, mI_f, bI_0, bI_1, bI_t, bI_f, dltT, dltF, dleT, dleF, deqT, deqF, Nat.not_lt_zero, not_true_eq_false, not_false_eq_true, true_and, and_true, false_and, and_false, or_true, true_or, false_or, or_false, and_self, if_true, if_false, Classical.not_not, Nat.add_assoc, Nat.zero_add, Nat.add_zero, bI_or, bI_True, bI_False, Bool.false_eq_true, reduceCtorEq, eq_self, gi_si, gl_si, gr_si, hn_si, hL_si, hX_si, gi_sl, gl_sl, gr_sl, hn_sl, ob_si, ar_si, ob_sl, ar_sl, ks_272_0, ks_272_1, oO2, m2, Cal_eq r3])
              exact hQ
          by_cases hk0 : 0 < k
          · have cd := fun K => cd K hk0
            (refine wp_go 600 ks_272_0.2.2.2.2.1 ?_; simp (disch := first | with_reducible assumption | omega | (simp only [ob_si, ar_si, ob_sl, ar_sl]; with_reducible assumption)) only [ci_0, ci_1, cm_9, inc_i, ldA_a, ldI_i, oc_212, oc_217, oc_237, r_0, r_2, r_3, r_30, r_31, r_36, r_42, r_44, r_6, r_60, r_62, r_70, r_80_1, r_80_3, r_9, r_91, wpn_S, wpn_zero, stp_h, lk_0, lk_s, st1_0, st1_1, st1_2, st2_0, st2_1, st2_2, kj_i, kj_a, kj_l, kj_n, cat_n, cat_i, cat_a, cat_u, cat_l, vc_i, vc_a, rv_s, tl_n, tl_s, Cal'_s, List.length_cons, List.length_nil, i0, i1, iNd, iN_lt, iN_le, iN_eq, iN_add, iN_mul, iN_mod, iN_sub, iN_div, iN_clamp, iN_inb, zle_N, zlt_N, zN_le, zN_lt, zN_eq, Nz_eq, mI_t, mI_f, bI_0, bI_1, bI_t, bI_f, dltT, dltF, dleT, dleF, deqT, deqF, Nat.not_lt_zero, not_true_eq_false, not_false_eq_true, true_and, and_true, false_and, and_false, or_true, true_or, false_or, or_false, and_self, if_true, if_false, Classical.not_not, Nat.add_assoc, Nat.zero_add, Nat.add_zero, bI_or, bI_True, bI_False, Bool.false_eq_true, reduceCtorEq, eq_self, gi_si, gl_si, gr_si, hn_si, hL_si, hX_si, gi_sl, gl_sl, gr_sl, hn_sl, ob_si, ar_si, ob_sl, ar_sl, ks_272_0, ks_272_1, oO, m1, cd, oO2, Cal_eq rq, rr, ra, rs, v2, hc])
            exact nxt
          · have e0 := c0 (by omega)
            subst e0
            (refine wp_go 600 ks_272_0.2.2.2.2.1 ?_; simp (disch := first | with_reducible assumption | omega | (simp only [ob_si, ar_si, ob_sl, ar_sl]; with_reducible assumption)) only [ci_0, ci_1, cm_9, inc_i, ldA_a, ldI_i, oc_212, oc_217, oc_237, r_0, r_2, r_3, r_30, r_31, r_36, r_42, r_44, r_6, r_60, r_62, r_70, r_80_1, r_80_3, r_9, r_91, wpn_S, wpn_zero, stp_h, lk_0, lk_s, st1_0, st1_1, st1_2, st2_0, st2_1, st2_2, kj_i, kj_a, kj_l, kj_n, cat_n, cat_i, cat_a, cat_u, cat_l, vc_i, vc_a, rv_s, tl_n, tl_s, Cal'_s, List.length_cons, List.length_nil, i0, i1, iNd, iN_lt, iN_le, iN_eq, iN_add, iN_mul, iN_mod, iN_sub, iN_div, iN_clamp, iN_inb, zle_N, zlt_N, zN_le, zN_lt, zN_eq, Nz_eq, mI_t, mI_f, bI_0, bI_1, bI_t, bI_f, dltT, dltF, dleT, dleF, deqT, deqF, Nat.not_lt_zero, not_true_eq_false, not_false_eq_true, true_and, and_true, false_and, and_false, or_true, true_or, false_or, or_false, and_self, if_true, if_false, Classical.not_not, Nat.add_assoc, Nat.zero_add, Nat.add_zero, bI_or, bI_True, bI_False, Bool.false_eq_true, reduceCtorEq, eq_self, gi_si, gl_si, gr_si, hn_si, hL_si, hX_si, gi_sl, gl_sl, gr_sl, hn_sl, ob_si, ar_si, ob_sl, ar_sl, ks_272_0, ks_272_1, oO, m1, oO2, Cal_eq rq, rr, ra, rs, v2, hc])
            exact nxt
      by_cases hk0 : k = 0
      · subst hk0
        exact main h1 A1 K1 f1 (fun K e => absurd e (by omega)) (fun _ => rfl)
      · obtain ⟨h2, r2, A2, f2⟩ := wo_day1 B1 A1 (wf_day hW (k - 1))
        rw [day_day, show k - 1 + 1 = k by omega] at A2
        exact main h2 A2 (K1.fr f2 (by unfold Sq; omega) (by omega)) (f1.tr (f2.mono (fun o ho => Or.inl ho) (fun k hk => by unfold Fq at hk; unfold Fc; omega))) (fun K _ => Cal_eq r2 (by decide) K) (fun e => absurd e hk0)
    · rintro L h1 ⟨h0, A1, K1, f1, rfl⟩
      have B1 := f1.bs hB
      have oO := (O_facts B1).1
      have m1 := (hR.fr f1 (by unfold Sc; omega) (by unfold Fc; omega)).1
      obtain ⟨h3, r3, A3, K3, f3⟩ := wo_again B1 K1
      have hQ := hQ h3 A3 K3 (f1.tr f3)
      rw [bI_t (show ftP y rn rv i j from h0)] at hQ
      (refine wp_go 600 ks_272_0.2.2.2.2.1 ?_; simp (disch := first | with_reducible assumption | omega | (simp only [ob_si, ar_si, ob_sl, ar_sl]; with_reducible assumption)) only [ci_0, ci_1, cm_9, inc_i, ldA_a, ldI_i, oc_212, oc_217, oc_237, r_0, r_2, r_3, r_30, r_31, r_36, r_42, r_44, r_6, r_60, r_62, r_70, r_80_1, r_80_3, r_9, r_91, wpn_S, wpn_zero, stp_h, lk_0, lk_s, st1_0, st1_1, st1_2, st2_0, st2_1, st2_2, kj_i, kj_a, kj_l, kj_n, cat_n, cat_i, cat_a, cat_u, cat_l, vc_i, vc_a, rv_s, tl_n, tl_s, Cal'_s, List.length_cons, List.length_nil, i0, i1, iNd, iN_lt, iN_le, iN_eq, iN_add, iN_mul, iN_mod, iN_sub, iN_div, iN_clamp, iN_inb, zle_N, zlt_N, zN_le, zN_lt, zN_eq, Nz_eq, mI_t, mI_f, bI_0, bI_1, bI_t, bI_f, dltT, dltF, dleT, dleF, deqT, deqF, Nat.not_lt_zero, not_true_eq_false, not_false_eq_true, true_and, and_true, false_and, and_false, or_true, true_or, false_or, or_false, and_self, if_true, if_false, Classical.not_not, Nat.add_assoc, Nat.zero_add, Nat.add_zero, bI_or, bI_True, bI_False, Bool.false_eq_true, reduceCtorEq, eq_self, gi_si, gl_si, gr_si, hn_si, hL_si, hX_si, gi_sl, gl_sl, gr_sl, hn_sl, ob_si, ar_si, ob_sl, ar_sl, ks_272_0, ks_272_1, oO, m1, Cal_eq r3])
      exact hQ
  obtain ⟨v, h', r, rfl, A, K, f⟩ := Ret_ex (d := 3) (y := 272) (as := [.ref 87, .int (iN i), .int (iN j)]) [some (.ref 87), some (.int (iN i)), some (.int (iN j)), none, none] rfl rfl (key (fun v h' => v = some (.int (bI (ftP y rn rv i j))) ∧ Ao h' x ∧ Kx h' 98 x ∧ Fo (Sc 98) Fc h h') fun h' a b c => ⟨rfl, a, b, c⟩)
  exact ⟨h', r, A, K, f⟩
theorem fit_fb (U : Nat → Mt) (m rn : Nat) (rv : Nat → Nat) (i j : Nat) : fitN U m rn rv i j = itr (fbS (fun k => ftP (U k) rn rv i j)) 0 m 0 := rfl
noncomputable def whS (b : Bool) (P : Nat → Prop) (k : Nat) (a : Nat × Nat × Option Nat) : Nat × Nat × Option Nat := (if b = true then fbS P k a.1 else a.1, ctS P k a.2.1, orO a.2.2 (fsF P k))
theorem or_it {ρ : Type} (g : Nat → Option ρ) : ∀ (k i : Nat) (a : Option ρ), itr (fun k a => orO a (g k)) i k a = orO a (itx g i k)
  | 0, _, a => by rw [itr_0, itx_0]; cases a <;> rfl
  | k + 1, i, a => by
    rw [itr_s, or_it g k (i + 1)]
    cases a with
    | some r => rfl
    | none =>
      show orO (g i) _ = itx g i (k + 1)
      cases e : g i with
      | none => rw [itx_n e]; rfl
      | some r => rw [itx_r e]; rfl
theorem wh_eq (b : Bool) (P : Nat → Prop) (m : Nat) : itr (whS b P) 0 m (0, 0, none) = (if b = true then itr (fbS P) 0 m 0 else 0, itr (ctS P) 0 m 0, itx (fsF P) 0 m) := by
  have h1 := itr_pair (fun k a => if b = true then fbS P k a else a) (fun k (q : Nat × Option Nat) => (ctS P k q.1, orO q.2 (fsF P k))) m 0 0 (0, none)
  have h2 := itr_pair (ctS P) (fun k a => orO a (fsF P k)) m 0 0 none
  rw [or_it] at h2
  rw [h2] at h1
  refine Eq.trans h1 ?_
  cases b with
  | true => rfl
  | false =>
    have : itr (fun (k : Nat) (a : Nat) => if false = true then fbS P k a else a) 0 m 0 = 0 := itr_id m 0 0 fun j _ _ a => rfl
    rw [this]
    rfl
theorem ct_b (P : Nat → Prop) (m : Nat) : itr (ctS P) 0 m 0 ≤ m := by
  have := itr_bd (f := ctS P) (c := 1) (fun i a => by unfold ctS; split <;> omega) m 0 0
  omega
set_option maxHeartbeats 8000000 in
theorem op_who {s : Gs} (hs : GW s) (a b c : Int32) : OpOk 170 273 [.int a, .int b, .int c] s := by
  by_cases hT : isT (xN (gX s)) a b
  · obtain ⟨i, j, hi, hj, hij, rfl, rfl⟩ := hT
    by_cases hw : isP 4 c
    · obtain ⟨w, hw, rfl⟩ := hw
      rcases (show w = 0 ∨ w = 1 ∨ w = 2 ∨ w = 3 by omega) with rfl | rfl | rfl | rfl
      · refine op_query hs (v := .int (iN (fitN (fun k => uK (gX s) i k) 6 (gRn s) (gRv s) i j))) (fun h hB hI => ?_) (fun h hB hI => ?_)
        · obtain ⟨oF, g0, g1, g2, g4, g5, g6, g7, g8, g9, g10, g11, g12, g13, o21, o22, o23, o28, o29, o32, o34, o36, oM⟩ := F_facts hB; obtain ⟨hA, iI, ⟨nx, hP⟩, hR, hL, hF, hT⟩ := id hI; have hW := hs.1; have hm : isM 1 := Or.inl rfl; have wN := hW.1
          obtain ⟨h1, r1, f1⟩ := d_kinds (j := j) hB hA hW hi (by omega) hR hs.2.2.2.1
          have B1 := f1.bs hB
          refine ⟨h1, Ret.up (d := 5) ?_ (by decide), Fr_zd f1⟩
          refine Ret_L [some (.ref 0), some (.int (iN i)), some (.int (iN j)), some (.int (iN 0))] rfl rfl fun Q hQ => ?_
          (refine wp_go 600 ks_170_0.1 ?_; simp (disch := first | with_reducible assumption | omega | (simp only [ob_si, ar_si, ob_sl, ar_sl]; with_reducible assumption)) only [ci_0, ci_1, ci_2, ci_3, cm_1, cm_2, ldA_a, ldI_i, oc_191, oc_26, oc_69, oc_70, oc_71, r_0, r_2, r_32, r_6, r_62, r_80_2, r_80_3, r_80_4, r_81_1, r_90, r_99n, swk_nc, swk_nn, wpn_S, wpn_zero, stp_h, lk_0, lk_s, st1_0, st1_1, st1_2, st2_0, st2_1, st2_2, kj_i, kj_a, kj_l, kj_n, cat_n, cat_i, cat_a, cat_u, cat_l, vc_i, vc_a, rv_s, tl_n, tl_s, Cal'_s, List.length_cons, List.length_nil, i0, i1, iNd, iN_lt, iN_le, iN_eq, iN_add, iN_mul, iN_mod, iN_sub, iN_div, iN_clamp, iN_inb, zle_N, zlt_N, zN_le, zN_lt, zN_eq, Nz_eq, mI_t, mI_f, bI_0, bI_1, bI_t, bI_f, dltT, dltF, dleT, dleF, deqT, deqF, Nat.not_lt_zero, not_true_eq_false, not_false_eq_true, true_and, and_true, false_and, and_false, or_true, true_or, false_or, or_false, and_self, if_true, if_false, Classical.not_not, Nat.add_assoc, Nat.zero_add, Nat.add_zero, bI_or, bI_True, bI_False, Bool.false_eq_true, reduceCtorEq, eq_self, gi_si, gl_si, gr_si, hn_si, hL_si, hX_si, gi_sl, gl_sl, gr_sl, hn_sl, ob_si, ar_si, ob_sl, ar_sl, ks_170_0, ks_170_1, ks_170_2, oF, g0, g1, g2, g4, g5, g6, g7, g8, g9, g10, g11, g12, g13, o21, o22, o23, o28, o29, o32, o34, o36, oM, oM, c_areT_q hm hB hA hW, hij, Cal_eq r1])
          exact hQ
        · have oO := (O_facts hB).1; obtain ⟨hA, hIr, f0⟩ := IO_0 hI; replace hB := Bs.si hB 87 7 (iN 0); have hW := hs.1; obtain ⟨oO2, rO1, rO2, rO3, rO4, rO5, rO8, aO1, aO2, aO3, aO4, aO5, aO8, sO1, sO2, sO3, sO4, sO5, sO8⟩ := O_facts hB; obtain ⟨fN, fD, fK, fF, fH, fM, fQ⟩ := id hA; obtain ⟨wN, wK, wF, wH, wM, wQ, wS, wZ, wT⟩ := id hW
          generalize gX s = x at *
          have key : ∀ Q : Option Value → Hp → Prop, (∀ h', Ao h' x → Fo Sy Fy h h' → Q (some (.int (iN (fitN (fun k => uK x i k) 6 (gRn s) (gRv s) i j)))) h') → wp 4 273 0 [some (.ref 87), some (.int (iN i)), some (.int (iN j)), some (.int (iN 0)), none, none, none, none, none, none] [] h Q := by
            intro Q hQ
            obtain ⟨h1, r1, A1, K1, f1⟩ := wo_think hB hA
            have B1 := f1.bs hB
            have q1 := (O_facts B1).1
            have R1 : RoO h1 (gRn s) (gRv s) := RoO.fr hIr.2.2.1 f1 (by unfold Sc; omega) (by unfold Fc; omega)
            obtain ⟨rn, hrn⟩ : ∃ rn, rn = gRn s := ⟨_, rfl⟩
            obtain ⟨rv, hrv⟩ : ∃ rv, rv = gRv s := ⟨_, rfl⟩
            have hro : ro_ok (gRn s) (gRv s) := hs.2.2.2.1
            rw [← hrn, ← hrv] at R1 hQ hro
            obtain ⟨P, hP⟩ : ∃ P : Nat → Prop, P = fun k => ftP (uK x i k) rn rv i j := ⟨_, rfl⟩
            (refine wp_go 600 ks_273_0.1 ?_; simp (disch := first | with_reducible assumption | omega | (simp only [ob_si, ar_si, ob_sl, ar_sl]; with_reducible assumption)) only [ci_0, ci_1, ci_10, ci_2, ci_3, ci_32, ci_6, cm_1, cm_9, inc_i, ldA_a, ldI_i, oc_201, oc_203, oc_236, oc_272, r_0, r_10, r_14, r_15, r_2, r_3, r_30, r_31, r_32, r_34, r_42, r_44, r_46, r_6, r_62, r_63, r_70, r_71, r_80_1, r_80_2, r_80_3, r_81_3, r_9, r_90, wpn_S, wpn_zero, stp_h, lk_0, lk_s, st1_0, st1_1, st1_2, st2_0, st2_1, st2_2, kj_i, kj_a, kj_l, kj_n, cat_n, cat_i, cat_a, cat_u, cat_l, vc_i, vc_a, rv_s, tl_n, tl_s, Cal'_s, List.length_cons, List.length_nil, i0, i1, iNd, iN_lt, iN_le, iN_eq, iN_add, iN_mul, iN_mod, iN_sub, iN_div, iN_clamp, iN_inb, zle_N, zlt_N, zN_le, zN_lt, zN_eq, Nz_eq, mI_t, mI_f, bI_0, bI_1, bI_t, bI_f, dltT, dltF, dleT, dleF, deqT, deqF, Nat.not_lt_zero, not_true_eq_false, not_false_eq_true, true_and, and_true, false_and, and_false, or_true, true_or, false_or, or_false, and_self, if_true, if_false, Classical.not_not, Nat.add_assoc, Nat.zero_add, Nat.add_zero, bI_or, bI_True, bI_False, Bool.false_eq_true, reduceCtorEq, eq_self, gi_si, gl_si, gr_si, hn_si, hL_si, hX_si, gi_sl, gl_sl, gr_sl, hn_sl, ob_si, ar_si, ob_sl, ar_sl, ks_273_0, ks_273_1, ks_273_2, ks_273_3, ks_273_4, ks_273_5, oO, oO2, rO1, rO2, rO3, rO4, rO5, rO8, aO1, aO2, aO3, aO4, aO5, aO8, fN, fD, fK, fF, fH, fM, fQ, oO, o_two_q hB hA hW, isT_N, o_wb0_q, isP_N, isP_in, o_in_q trivial, Cal_eq r1])
            refine wp_foldH (fun k (a : Nat × Nat × Option Nat) (w : Option Value) => [some (.ref 87), some (.int (iN i)), some (.int (iN j)), some (.int (iN 0)), some (.int (iN 0)), some (.int (iN a.1)), some (.int (iN a.2.1)), some (.int (oI a.2.2)), some (.int (iN k)), w]) (whS true P) (fun k a h' => (∀ r, a.2.2 = some r → r < 100) ∧ Ao h' x ∧ Kx h' 98 x ∧ RoO h' rn rv ∧ Fo Sy Fy h h') 6 ?_ 6 0 (0, 0, none) none h1 (by omega) ⟨(fun r e => by cases e), A1, K1, R1, f0.tr (Fo_y98 f1)⟩ ?_
            · rintro k a w h1 hk ⟨ha, A1, K1, R1, F1⟩ hn
              have B1 := F1.bs hB
              obtain ⟨oO_1, t1_1, t2_1, t3_1, t4_1, t5_1, t8_1, y1_1, y2_1, y3_1, y4_1, y5_1, y8_1, z1_1, z2_1, z3_1, z4_1, z5_1, z8_1⟩ := O_facts B1; obtain ⟨eN_1, eD_1, eK_1, eF_1, eH_1, eM_1, eQ_1⟩ := id A1
              have k1 := eK_1 i (by omega)
              have k2 := eF_1 i (by omega)
              have k3 := eH_1 i (by omega)
              have A2 : Ao (si (si (si h1 88 i (iN k)) 89 i (iN (xF x i))) 90 i (iN (xH x i))) (uK x i k) := Ao_H' (Ao_F' (Ao_K A1))
              have W2 : Wf (uK x i k) := wf_K hW (by omega)
              have f2 : Fo Sq Fq h1 (si (si (si h1 88 i (iN k)) 89 i (iN (xF x i))) 90 i (iN (xH x i))) := (((Fo.rf _ _ h1).sa (by unfold Sq; omega) (by omega) _ _).sa (by unfold Sq; omega) (by omega) _ _).sa (by unfold Sq; omega) (by omega) _ _
              have B2 := f2.bs B1
              obtain ⟨h3, r3, A3, K3, f3⟩ := wo_row (i := i) (j := j) B2 A2 W2 (K1.fr f2 (by unfold Sq; omega) (by omega)) (R1.fr f2 (by unfold Sq; omega) (by unfold Fq; omega)) hro hi hj
              have R3 := (R1.fr f2 (by unfold Sq; omega) (by unfold Fq; omega)).fr f3 (by unfold Sc; omega) (by unfold Fc; omega)
              have F3 := (F1.tr (Fo_yq f2)).tr (Fo_y98 f3)
              rw [show ftP (uK x i k) rn rv i j = P k by rw [hP]] at r3
              obtain ⟨a1, a2, a3⟩ := a
              simp only at ha
              by_cases hp : P k
              · cases a3 with
                | none =>
                  have hn := hn (some (.int (iN 1))) h3 ⟨fun r e => by unfold whS fsF at e; rw [if_pos hp] at e; cases e; omega, A3, K3, R3, F3⟩
                  unfold whS fbS ctS fsF at hn
                  simp only [if_pos hp, orO] at hn
                  simp only [oI] at hn ⊢
                  (refine wp_go 600 ks_273_1.2.2.2.2.2.2.2.1 ?_; simp (disch := first | with_reducible assumption | omega | (simp only [ob_si, ar_si, ob_sl, ar_sl]; with_reducible assumption)) only [ci_0, ci_1, ci_10, ci_2, ci_3, ci_32, ci_6, cm_1, cm_9, inc_i, ldA_a, ldI_i, oc_201, oc_203, oc_236, oc_272, r_0, r_10, r_14, r_15, r_2, r_3, r_30, r_31, r_32, r_34, r_42, r_44, r_46, r_6, r_62, r_63, r_70, r_71, r_80_1, r_80_2, r_80_3, r_81_3, r_9, r_90, wpn_S, wpn_zero, stp_h, lk_0, lk_s, st1_0, st1_1, st1_2, st2_0, st2_1, st2_2, kj_i, kj_a, kj_l, kj_n, cat_n, cat_i, cat_a, cat_u, cat_l, vc_i, vc_a, rv_s, tl_n, tl_s, Cal'_s, List.length_cons, List.length_nil, i0, i1, iNd, iN_lt, iN_le, iN_eq, iN_add, iN_mul, iN_mod, iN_sub, iN_div, iN_clamp, iN_inb, zle_N, zlt_N, zN_le, zN_lt, zN_eq, Nz_eq, mI_t, mI_f, bI_0, bI_1, bI_t, bI_f, dltT, dltF, dleT, dleF, deqT, deqF, Nat.not_lt_zero, not_true_eq_false, not_false_eq_true, true_and, and_true, false_and, and_false, or_true, true_or, false_or, or_false, and_self, if_true, if_false, Classical.not_not, Nat.add_assoc, Nat.zero_add, Nat.add_zero, bI_or, bI_True, bI_False, Bool.false_eq_true, reduceCtorEq, eq_self, gi_si, gl_si, gr_si, hn_si, hL_si, hX_si, gi_sl, gl_sl, gr_sl, hn_sl, ob_si, ar_si, ob_sl, ar_sl, ks_273_0, ks_273_1, ks_273_2, ks_273_3, ks_273_4, ks_273_5, oO_1, t1_1, t2_1, t3_1, t4_1, t5_1, t8_1, y1_1, y2_1, y3_1, y4_1, y5_1, y8_1, eN_1, eD_1, eK_1, eF_1, eH_1, eM_1, eQ_1, k1, k2, k3, up_t, up_f, Cal_eq r3, hp, shl_eq32, iN_or, Nat.or_zero])
                  exact hn
                | some r =>
                  have hr := ha r rfl
                  have hn := hn (some (.int (iN 1))) h3 ⟨fun r2 e => by unfold whS at e; simp only [orO] at e; cases e; exact hr, A3, K3, R3, F3⟩
                  unfold whS fbS ctS fsF at hn
                  simp only [if_pos hp, orO] at hn
                  simp only [oI] at hn ⊢
                  (refine wp_go 600 ks_273_1.2.2.2.2.2.2.2.1 ?_; simp (disch := first | with_reducible assumption | omega | (simp only [ob_si, ar_si, ob_sl, ar_sl]; with_reducible assumption)) only [ci_0, ci_1, ci_10, ci_2, ci_3, ci_32, ci_6, cm_1, cm_9, inc_i, ldA_a, ldI_i, oc_201, oc_203, oc_236, oc_272, r_0, r_10, r_14, r_15, r_2, r_3, r_30, r_31, r_32, r_34, r_42, r_44, r_46, r_6, r_62, r_63, r_70, r_71, r_80_1, r_80_2, r_80_3, r_81_3, r_9, r_90, wpn_S, wpn_zero, stp_h, lk_0, lk_s, st1_0, st1_1, st1_2, st2_0, st2_1, st2_2, kj_i, kj_a, kj_l, kj_n, cat_n, cat_i, cat_a, cat_u, cat_l, vc_i, vc_a, rv_s, tl_n, tl_s, Cal'_s, List.length_cons, List.length_nil, i0, i1, iNd, iN_lt, iN_le, iN_eq, iN_add, iN_mul, iN_mod, iN_sub, iN_div, iN_clamp, iN_inb, zle_N, zlt_N, zN_le, zN_lt, zN_eq, Nz_eq, mI_t, mI_f, bI_0, bI_1, bI_t, bI_f, dltT, dltF, dleT, dleF, deqT, deqF, Nat.not_lt_zero, not_true_eq_false, not_false_eq_true, true_and, and_true, false_and, and_false, or_true, true_or, false_or, or_false, and_self, if_true, if_false, Classical.not_not, Nat.add_assoc, Nat.zero_add, Nat.add_zero, bI_or, bI_True, bI_False, Bool.false_eq_true, reduceCtorEq, eq_self, gi_si, gl_si, gr_si, hn_si, hL_si, hX_si, gi_sl, gl_sl, gr_sl, hn_sl, ob_si, ar_si, ob_sl, ar_sl, ks_273_0, ks_273_1, ks_273_2, ks_273_3, ks_273_4, ks_273_5, oO_1, t1_1, t2_1, t3_1, t4_1, t5_1, t8_1, y1_1, y2_1, y3_1, y4_1, y5_1, y8_1, eN_1, eD_1, eK_1, eF_1, eH_1, eM_1, eQ_1, k1, k2, k3, up_t, up_f, Cal_eq r3, hp, shl_eq32, iN_or, Nat.or_zero])
                  exact hn
              · have hn := hn (some (.int (iN 0))) h3 ⟨fun r e => by unfold whS fsF at e; rw [if_neg hp] at e; simp only [orO_n] at e; exact ha r e, A3, K3, R3, F3⟩
                unfold whS fbS ctS fsF at hn
                simp only [if_neg hp, orO_n, ite_self] at hn
                (refine wp_go 600 ks_273_1.2.2.2.2.2.2.2.1 ?_; simp (disch := first | with_reducible assumption | omega | (simp only [ob_si, ar_si, ob_sl, ar_sl]; with_reducible assumption)) only [ci_0, ci_1, ci_10, ci_2, ci_3, ci_32, ci_6, cm_1, cm_9, inc_i, ldA_a, ldI_i, oc_201, oc_203, oc_236, oc_272, r_0, r_10, r_14, r_15, r_2, r_3, r_30, r_31, r_32, r_34, r_42, r_44, r_46, r_6, r_62, r_63, r_70, r_71, r_80_1, r_80_2, r_80_3, r_81_3, r_9, r_90, wpn_S, wpn_zero, stp_h, lk_0, lk_s, st1_0, st1_1, st1_2, st2_0, st2_1, st2_2, kj_i, kj_a, kj_l, kj_n, cat_n, cat_i, cat_a, cat_u, cat_l, vc_i, vc_a, rv_s, tl_n, tl_s, Cal'_s, List.length_cons, List.length_nil, i0, i1, iNd, iN_lt, iN_le, iN_eq, iN_add, iN_mul, iN_mod, iN_sub, iN_div, iN_clamp, iN_inb, zle_N, zlt_N, zN_le, zN_lt, zN_eq, Nz_eq, mI_t, mI_f, bI_0, bI_1, bI_t, bI_f, dltT, dltF, dleT, dleF, deqT, deqF, Nat.not_lt_zero, not_true_eq_false, not_false_eq_true, true_and, and_true, false_and, and_false, or_true, true_or, false_or, or_false, and_self, if_true, if_false, Classical.not_not, Nat.add_assoc, Nat.zero_add, Nat.add_zero, bI_or, bI_True, bI_False, Bool.false_eq_true, reduceCtorEq, eq_self, gi_si, gl_si, gr_si, hn_si, hL_si, hX_si, gi_sl, gl_sl, gr_sl, hn_sl, ob_si, ar_si, ob_sl, ar_sl, ks_273_0, ks_273_1, ks_273_2, ks_273_3, ks_273_4, ks_273_5, oO_1, t1_1, t2_1, t3_1, t4_1, t5_1, t8_1, y1_1, y2_1, y3_1, y4_1, y5_1, y8_1, eN_1, eD_1, eK_1, eF_1, eH_1, eM_1, eQ_1, k1, k2, k3, up_t, up_f, Cal_eq r3, hp, iN_or, Nat.or_zero])
                exact hn
            · rintro w h1 ⟨ha, A1, K1, R1, F1⟩
              have hQ := hQ h1 A1 F1
              rw [wh_eq]
              subst hP
              (refine wp_go 600 ks_273_1.2.2.2.2.2.2.2.1 ?_; simp (disch := first | with_reducible assumption | omega | (simp only [ob_si, ar_si, ob_sl, ar_sl]; with_reducible assumption)) only [ci_0, ci_1, ci_10, ci_2, ci_3, ci_32, ci_6, cm_1, cm_9, inc_i, ldA_a, ldI_i, oc_201, oc_203, oc_236, oc_272, r_0, r_10, r_14, r_15, r_2, r_3, r_30, r_31, r_32, r_34, r_42, r_44, r_46, r_6, r_62, r_63, r_70, r_71, r_80_1, r_80_2, r_80_3, r_81_3, r_9, r_90, wpn_S, wpn_zero, stp_h, lk_0, lk_s, st1_0, st1_1, st1_2, st2_0, st2_1, st2_2, kj_i, kj_a, kj_l, kj_n, cat_n, cat_i, cat_a, cat_u, cat_l, vc_i, vc_a, rv_s, tl_n, tl_s, Cal'_s, List.length_cons, List.length_nil, i0, i1, iNd, iN_lt, iN_le, iN_eq, iN_add, iN_mul, iN_mod, iN_sub, iN_div, iN_clamp, iN_inb, zle_N, zlt_N, zN_le, zN_lt, zN_eq, Nz_eq, mI_t, mI_f, bI_0, bI_1, bI_t, bI_f, dltT, dltF, dleT, dleF, deqT, deqF, Nat.not_lt_zero, not_true_eq_false, not_false_eq_true, true_and, and_true, false_and, and_false, or_true, true_or, false_or, or_false, and_self, if_true, if_false, Classical.not_not, Nat.add_assoc, Nat.zero_add, Nat.add_zero, bI_or, bI_True, bI_False, Bool.false_eq_true, reduceCtorEq, eq_self, gi_si, gl_si, gr_si, hn_si, hL_si, hX_si, gi_sl, gl_sl, gr_sl, hn_sl, ob_si, ar_si, ob_sl, ar_sl, ks_273_0, ks_273_1, ks_273_2, ks_273_3, ks_273_4, ks_273_5])
              exact hQ
          obtain ⟨v, h', r, rfl, A, f⟩ := Ret_ex (d := 4) (y := 273) (as := [.ref 87, .int (iN i), .int (iN j), .int (iN 0)]) [some (.ref 87), some (.int (iN i)), some (.int (iN j)), some (.int (iN 0)), none, none, none, none, none, none] rfl rfl (key (fun v h' => v = some (.int (iN (fitN (fun k => uK x i k) 6 (gRn s) (gRv s) i j))) ∧ Ao h' x ∧ Fo Sy Fy h h') fun h' a b => ⟨rfl, a, b⟩)
          exact ⟨h', Ret.up (d := 4) r (by decide), A, f⟩
      · refine op_query hs (v := .int (iN (fitN (fun k => uF (gX s) i k) 10 (gRn s) (gRv s) i j))) (fun h hB hI => ?_) (fun h hB hI => ?_)
        · obtain ⟨oF, g0, g1, g2, g4, g5, g6, g7, g8, g9, g10, g11, g12, g13, o21, o22, o23, o28, o29, o32, o34, o36, oM⟩ := F_facts hB; obtain ⟨hA, iI, ⟨nx, hP⟩, hR, hL, hF, hT⟩ := id hI; have hW := hs.1; have hm : isM 1 := Or.inl rfl; have wN := hW.1
          obtain ⟨h1, r1, f1⟩ := d_figs (j := j) hB hA hW hi (by omega) hR hs.2.2.2.1
          have B1 := f1.bs hB
          refine ⟨h1, Ret.up (d := 5) ?_ (by decide), Fr_zd f1⟩
          refine Ret_L [some (.ref 0), some (.int (iN i)), some (.int (iN j)), some (.int (iN 1))] rfl rfl fun Q hQ => ?_
          (refine wp_go 600 ks_170_0.1 ?_; simp (disch := first | with_reducible assumption | omega | (simp only [ob_si, ar_si, ob_sl, ar_sl]; with_reducible assumption)) only [ci_0, ci_1, ci_2, ci_3, cm_1, cm_2, ldA_a, ldI_i, oc_191, oc_26, oc_69, oc_70, oc_71, r_0, r_2, r_32, r_6, r_62, r_80_2, r_80_3, r_80_4, r_81_1, r_90, r_99n, swk_nc, swk_nn, wpn_S, wpn_zero, stp_h, lk_0, lk_s, st1_0, st1_1, st1_2, st2_0, st2_1, st2_2, kj_i, kj_a, kj_l, kj_n, cat_n, cat_i, cat_a, cat_u, cat_l, vc_i, vc_a, rv_s, tl_n, tl_s, Cal'_s, List.length_cons, List.length_nil, i0, i1, iNd, iN_lt, iN_le, iN_eq, iN_add, iN_mul, iN_mod, iN_sub, iN_div, iN_clamp, iN_inb, zle_N, zlt_N, zN_le, zN_lt, zN_eq, Nz_eq, mI_t, mI_f, bI_0, bI_1, bI_t, bI_f, dltT, dltF, dleT, dleF, deqT, deqF, Nat.not_lt_zero, not_true_eq_false, not_false_eq_true, true_and, and_true, false_and, and_false, or_true, true_or, false_or, or_false, and_self, if_true, if_false, Classical.not_not, Nat.add_assoc, Nat.zero_add, Nat.add_zero, bI_or, bI_True, bI_False, Bool.false_eq_true, reduceCtorEq, eq_self, gi_si, gl_si, gr_si, hn_si, hL_si, hX_si, gi_sl, gl_sl, gr_sl, hn_sl, ob_si, ar_si, ob_sl, ar_sl, ks_170_0, ks_170_1, ks_170_2, oF, g0, g1, g2, g4, g5, g6, g7, g8, g9, g10, g11, g12, g13, o21, o22, o23, o28, o29, o32, o34, o36, oM, oM, c_areT_q hm hB hA hW, hij, Cal_eq r1])
          exact hQ
        · have oO := (O_facts hB).1; obtain ⟨hA, hIr, f0⟩ := IO_0 hI; replace hB := Bs.si hB 87 7 (iN 0); have hW := hs.1; obtain ⟨oO2, rO1, rO2, rO3, rO4, rO5, rO8, aO1, aO2, aO3, aO4, aO5, aO8, sO1, sO2, sO3, sO4, sO5, sO8⟩ := O_facts hB; obtain ⟨fN, fD, fK, fF, fH, fM, fQ⟩ := id hA; obtain ⟨wN, wK, wF, wH, wM, wQ, wS, wZ, wT⟩ := id hW
          generalize gX s = x at *
          have key : ∀ Q : Option Value → Hp → Prop, (∀ h', Ao h' x → Fo Sy Fy h h' → Q (some (.int (iN (fitN (fun k => uF x i k) 10 (gRn s) (gRv s) i j)))) h') → wp 4 273 0 [some (.ref 87), some (.int (iN i)), some (.int (iN j)), some (.int (iN 1)), none, none, none, none, none, none] [] h Q := by
            intro Q hQ
            obtain ⟨h1, r1, A1, K1, f1⟩ := wo_think hB hA
            have B1 := f1.bs hB
            have q1 := (O_facts B1).1
            have R1 : RoO h1 (gRn s) (gRv s) := RoO.fr hIr.2.2.1 f1 (by unfold Sc; omega) (by unfold Fc; omega)
            obtain ⟨rn, hrn⟩ : ∃ rn, rn = gRn s := ⟨_, rfl⟩
            obtain ⟨rv, hrv⟩ : ∃ rv, rv = gRv s := ⟨_, rfl⟩
            have hro : ro_ok (gRn s) (gRv s) := hs.2.2.2.1
            rw [← hrn, ← hrv] at R1 hQ hro
            obtain ⟨P, hP⟩ : ∃ P : Nat → Prop, P = fun k => ftP (uF x i k) rn rv i j := ⟨_, rfl⟩
            (refine wp_go 600 ks_273_0.1 ?_; simp (disch := first | with_reducible assumption | omega | (simp only [ob_si, ar_si, ob_sl, ar_sl]; with_reducible assumption)) only [ci_0, ci_1, ci_10, ci_2, ci_3, ci_32, ci_6, cm_1, cm_9, inc_i, ldA_a, ldI_i, oc_201, oc_203, oc_236, oc_272, r_0, r_10, r_14, r_15, r_2, r_3, r_30, r_31, r_32, r_34, r_42, r_44, r_46, r_6, r_62, r_63, r_70, r_71, r_80_1, r_80_2, r_80_3, r_81_3, r_9, r_90, wpn_S, wpn_zero, stp_h, lk_0, lk_s, st1_0, st1_1, st1_2, st2_0, st2_1, st2_2, kj_i, kj_a, kj_l, kj_n, cat_n, cat_i, cat_a, cat_u, cat_l, vc_i, vc_a, rv_s, tl_n, tl_s, Cal'_s, List.length_cons, List.length_nil, i0, i1, iNd, iN_lt, iN_le, iN_eq, iN_add, iN_mul, iN_mod, iN_sub, iN_div, iN_clamp, iN_inb, zle_N, zlt_N, zN_le, zN_lt, zN_eq, Nz_eq, mI_t, mI_f, bI_0, bI_1, bI_t, bI_f, dltT, dltF, dleT, dleF, deqT, deqF, Nat.not_lt_zero, not_true_eq_false, not_false_eq_true, true_and, and_true, false_and, and_false, or_true, true_or, false_or, or_false, and_self, if_true, if_false, Classical.not_not, Nat.add_assoc, Nat.zero_add, Nat.add_zero, bI_or, bI_True, bI_False, Bool.false_eq_true, reduceCtorEq, eq_self, gi_si, gl_si, gr_si, hn_si, hL_si, hX_si, gi_sl, gl_sl, gr_sl, hn_sl, ob_si, ar_si, ob_sl, ar_sl, ks_273_0, ks_273_1, ks_273_2, ks_273_3, ks_273_4, ks_273_5, oO, oO2, rO1, rO2, rO3, rO4, rO5, rO8, aO1, aO2, aO3, aO4, aO5, aO8, fN, fD, fK, fF, fH, fM, fQ, oO, o_two_q hB hA hW, isT_N, o_wb0_q, isP_N, isP_in, o_in_q trivial, Cal_eq r1])
            refine wp_foldH (fun k (a : Nat × Nat × Option Nat) (w : Option Value) => [some (.ref 87), some (.int (iN i)), some (.int (iN j)), some (.int (iN 1)), some (.int (iN 0)), some (.int (iN a.1)), some (.int (iN a.2.1)), some (.int (oI a.2.2)), some (.int (iN k)), w]) (whS true P) (fun k a h' => (∀ r, a.2.2 = some r → r < 100) ∧ Ao h' x ∧ Kx h' 98 x ∧ RoO h' rn rv ∧ Fo Sy Fy h h') 10 ?_ 10 0 (0, 0, none) none h1 (by omega) ⟨(fun r e => by cases e), A1, K1, R1, f0.tr (Fo_y98 f1)⟩ ?_
            · rintro k a w h1 hk ⟨ha, A1, K1, R1, F1⟩ hn
              have B1 := F1.bs hB
              obtain ⟨oO_1, t1_1, t2_1, t3_1, t4_1, t5_1, t8_1, y1_1, y2_1, y3_1, y4_1, y5_1, y8_1, z1_1, z2_1, z3_1, z4_1, z5_1, z8_1⟩ := O_facts B1; obtain ⟨eN_1, eD_1, eK_1, eF_1, eH_1, eM_1, eQ_1⟩ := id A1
              have k1 := eK_1 i (by omega)
              have k2 := eF_1 i (by omega)
              have k3 := eH_1 i (by omega)
              have A2 : Ao (si (si (si h1 88 i (iN (xK x i))) 89 i (iN k)) 90 i (iN (xH x i))) (uF x i k) := Ao_H' (Ao_F (Ao_K' A1))
              have W2 : Wf (uF x i k) := wf_F hW (by omega)
              have f2 : Fo Sq Fq h1 (si (si (si h1 88 i (iN (xK x i))) 89 i (iN k)) 90 i (iN (xH x i))) := (((Fo.rf _ _ h1).sa (by unfold Sq; omega) (by omega) _ _).sa (by unfold Sq; omega) (by omega) _ _).sa (by unfold Sq; omega) (by omega) _ _
              have B2 := f2.bs B1
              obtain ⟨h3, r3, A3, K3, f3⟩ := wo_row (i := i) (j := j) B2 A2 W2 (K1.fr f2 (by unfold Sq; omega) (by omega)) (R1.fr f2 (by unfold Sq; omega) (by unfold Fq; omega)) hro hi hj
              have R3 := (R1.fr f2 (by unfold Sq; omega) (by unfold Fq; omega)).fr f3 (by unfold Sc; omega) (by unfold Fc; omega)
              have F3 := (F1.tr (Fo_yq f2)).tr (Fo_y98 f3)
              rw [show ftP (uF x i k) rn rv i j = P k by rw [hP]] at r3
              obtain ⟨a1, a2, a3⟩ := a
              simp only at ha
              by_cases hp : P k
              · cases a3 with
                | none =>
                  have hn := hn (some (.int (iN 1))) h3 ⟨fun r e => by unfold whS fsF at e; rw [if_pos hp] at e; cases e; omega, A3, K3, R3, F3⟩
                  unfold whS fbS ctS fsF at hn
                  simp only [if_pos hp, orO] at hn
                  simp only [oI] at hn ⊢
                  (refine wp_go 600 ks_273_1.2.2.2.2.2.2.2.1 ?_; simp (disch := first | with_reducible assumption | omega | (simp only [ob_si, ar_si, ob_sl, ar_sl]; with_reducible assumption)) only [ci_0, ci_1, ci_10, ci_2, ci_3, ci_32, ci_6, cm_1, cm_9, inc_i, ldA_a, ldI_i, oc_201, oc_203, oc_236, oc_272, r_0, r_10, r_14, r_15, r_2, r_3, r_30, r_31, r_32, r_34, r_42, r_44, r_46, r_6, r_62, r_63, r_70, r_71, r_80_1, r_80_2, r_80_3, r_81_3, r_9, r_90, wpn_S, wpn_zero, stp_h, lk_0, lk_s, st1_0, st1_1, st1_2, st2_0, st2_1, st2_2, kj_i, kj_a, kj_l, kj_n, cat_n, cat_i, cat_a, cat_u, cat_l, vc_i, vc_a, rv_s, tl_n, tl_s, Cal'_s, List.length_cons, List.length_nil, i0, i1, iNd, iN_lt, iN_le, iN_eq, iN_add, iN_mul, iN_mod, iN_sub, iN_div, iN_clamp, iN_inb, zle_N, zlt_N, zN_le, zN_lt, zN_eq, Nz_eq, mI_t, mI_f, bI_0, bI_1, bI_t, bI_f, dltT, dltF, dleT, dleF, deqT, deqF, Nat.not_lt_zero, not_true_eq_false, not_false_eq_true, true_and, and_true, false_and, and_false, or_true, true_or, false_or, or_false, and_self, if_true, if_false, Classical.not_not, Nat.add_assoc, Nat.zero_add, Nat.add_zero, bI_or, bI_True, bI_False, Bool.false_eq_true, reduceCtorEq, eq_self, gi_si, gl_si, gr_si, hn_si, hL_si, hX_si, gi_sl, gl_sl, gr_sl, hn_sl, ob_si, ar_si, ob_sl, ar_sl, ks_273_0, ks_273_1, ks_273_2, ks_273_3, ks_273_4, ks_273_5, oO_1, t1_1, t2_1, t3_1, t4_1, t5_1, t8_1, y1_1, y2_1, y3_1, y4_1, y5_1, y8_1, eN_1, eD_1, eK_1, eF_1, eH_1, eM_1, eQ_1, k1, k2, k3, up_t, up_f, Cal_eq r3, hp, shl_eq32, iN_or, Nat.or_zero])
                  exact hn
                | some r =>
                  have hr := ha r rfl
                  have hn := hn (some (.int (iN 1))) h3 ⟨fun r2 e => by unfold whS at e; simp only [orO] at e; cases e; exact hr, A3, K3, R3, F3⟩
                  unfold whS fbS ctS fsF at hn
                  simp only [if_pos hp, orO] at hn
                  simp only [oI] at hn ⊢
                  (refine wp_go 600 ks_273_1.2.2.2.2.2.2.2.1 ?_; simp (disch := first | with_reducible assumption | omega | (simp only [ob_si, ar_si, ob_sl, ar_sl]; with_reducible assumption)) only [ci_0, ci_1, ci_10, ci_2, ci_3, ci_32, ci_6, cm_1, cm_9, inc_i, ldA_a, ldI_i, oc_201, oc_203, oc_236, oc_272, r_0, r_10, r_14, r_15, r_2, r_3, r_30, r_31, r_32, r_34, r_42, r_44, r_46, r_6, r_62, r_63, r_70, r_71, r_80_1, r_80_2, r_80_3, r_81_3, r_9, r_90, wpn_S, wpn_zero, stp_h, lk_0, lk_s, st1_0, st1_1, st1_2, st2_0, st2_1, st2_2, kj_i, kj_a, kj_l, kj_n, cat_n, cat_i, cat_a, cat_u, cat_l, vc_i, vc_a, rv_s, tl_n, tl_s, Cal'_s, List.length_cons, List.length_nil, i0, i1, iNd, iN_lt, iN_le, iN_eq, iN_add, iN_mul, iN_mod, iN_sub, iN_div, iN_clamp, iN_inb, zle_N, zlt_N, zN_le, zN_lt, zN_eq, Nz_eq, mI_t, mI_f, bI_0, bI_1, bI_t, bI_f, dltT, dltF, dleT, dleF, deqT, deqF, Nat.not_lt_zero, not_true_eq_false, not_false_eq_true, true_and, and_true, false_and, and_false, or_true, true_or, false_or, or_false, and_self, if_true, if_false, Classical.not_not, Nat.add_assoc, Nat.zero_add, Nat.add_zero, bI_or, bI_True, bI_False, Bool.false_eq_true, reduceCtorEq, eq_self, gi_si, gl_si, gr_si, hn_si, hL_si, hX_si, gi_sl, gl_sl, gr_sl, hn_sl, ob_si, ar_si, ob_sl, ar_sl, ks_273_0, ks_273_1, ks_273_2, ks_273_3, ks_273_4, ks_273_5, oO_1, t1_1, t2_1, t3_1, t4_1, t5_1, t8_1, y1_1, y2_1, y3_1, y4_1, y5_1, y8_1, eN_1, eD_1, eK_1, eF_1, eH_1, eM_1, eQ_1, k1, k2, k3, up_t, up_f, Cal_eq r3, hp, shl_eq32, iN_or, Nat.or_zero])
                  exact hn
              · have hn := hn (some (.int (iN 0))) h3 ⟨fun r e => by unfold whS fsF at e; rw [if_neg hp] at e; simp only [orO_n] at e; exact ha r e, A3, K3, R3, F3⟩
                unfold whS fbS ctS fsF at hn
                simp only [if_neg hp, orO_n, ite_self] at hn
                (refine wp_go 600 ks_273_1.2.2.2.2.2.2.2.1 ?_; simp (disch := first | with_reducible assumption | omega | (simp only [ob_si, ar_si, ob_sl, ar_sl]; with_reducible assumption)) only [ci_0, ci_1, ci_10, ci_2, ci_3, ci_32, ci_6, cm_1, cm_9, inc_i, ldA_a, ldI_i, oc_201, oc_203, oc_236, oc_272, r_0, r_10, r_14, r_15, r_2, r_3, r_30, r_31, r_32, r_34, r_42, r_44, r_46, r_6, r_62, r_63, r_70, r_71, r_80_1, r_80_2, r_80_3, r_81_3, r_9, r_90, wpn_S, wpn_zero, stp_h, lk_0, lk_s, st1_0, st1_1, st1_2, st2_0, st2_1, st2_2, kj_i, kj_a, kj_l, kj_n, cat_n, cat_i, cat_a, cat_u, cat_l, vc_i, vc_a, rv_s, tl_n, tl_s, Cal'_s, List.length_cons, List.length_nil, i0, i1, iNd, iN_lt, iN_le, iN_eq, iN_add, iN_mul, iN_mod, iN_sub, iN_div, iN_clamp, iN_inb, zle_N, zlt_N, zN_le, zN_lt, zN_eq, Nz_eq, mI_t, mI_f, bI_0, bI_1, bI_t, bI_f, dltT, dltF, dleT, dleF, deqT, deqF, Nat.not_lt_zero, not_true_eq_false, not_false_eq_true, true_and, and_true, false_and, and_false, or_true, true_or, false_or, or_false, and_self, if_true, if_false, Classical.not_not, Nat.add_assoc, Nat.zero_add, Nat.add_zero, bI_or, bI_True, bI_False, Bool.false_eq_true, reduceCtorEq, eq_self, gi_si, gl_si, gr_si, hn_si, hL_si, hX_si, gi_sl, gl_sl, gr_sl, hn_sl, ob_si, ar_si, ob_sl, ar_sl, ks_273_0, ks_273_1, ks_273_2, ks_273_3, ks_273_4, ks_273_5, oO_1, t1_1, t2_1, t3_1, t4_1, t5_1, t8_1, y1_1, y2_1, y3_1, y4_1, y5_1, y8_1, eN_1, eD_1, eK_1, eF_1, eH_1, eM_1, eQ_1, k1, k2, k3, up_t, up_f, Cal_eq r3, hp, iN_or, Nat.or_zero])
                exact hn
            · rintro w h1 ⟨ha, A1, K1, R1, F1⟩
              have hQ := hQ h1 A1 F1
              rw [wh_eq]
              subst hP
              (refine wp_go 600 ks_273_1.2.2.2.2.2.2.2.1 ?_; simp (disch := first | with_reducible assumption | omega | (simp only [ob_si, ar_si, ob_sl, ar_sl]; with_reducible assumption)) only [ci_0, ci_1, ci_10, ci_2, ci_3, ci_32, ci_6, cm_1, cm_9, inc_i, ldA_a, ldI_i, oc_201, oc_203, oc_236, oc_272, r_0, r_10, r_14, r_15, r_2, r_3, r_30, r_31, r_32, r_34, r_42, r_44, r_46, r_6, r_62, r_63, r_70, r_71, r_80_1, r_80_2, r_80_3, r_81_3, r_9, r_90, wpn_S, wpn_zero, stp_h, lk_0, lk_s, st1_0, st1_1, st1_2, st2_0, st2_1, st2_2, kj_i, kj_a, kj_l, kj_n, cat_n, cat_i, cat_a, cat_u, cat_l, vc_i, vc_a, rv_s, tl_n, tl_s, Cal'_s, List.length_cons, List.length_nil, i0, i1, iNd, iN_lt, iN_le, iN_eq, iN_add, iN_mul, iN_mod, iN_sub, iN_div, iN_clamp, iN_inb, zle_N, zlt_N, zN_le, zN_lt, zN_eq, Nz_eq, mI_t, mI_f, bI_0, bI_1, bI_t, bI_f, dltT, dltF, dleT, dleF, deqT, deqF, Nat.not_lt_zero, not_true_eq_false, not_false_eq_true, true_and, and_true, false_and, and_false, or_true, true_or, false_or, or_false, and_self, if_true, if_false, Classical.not_not, Nat.add_assoc, Nat.zero_add, Nat.add_zero, bI_or, bI_True, bI_False, Bool.false_eq_true, reduceCtorEq, eq_self, gi_si, gl_si, gr_si, hn_si, hL_si, hX_si, gi_sl, gl_sl, gr_sl, hn_sl, ob_si, ar_si, ob_sl, ar_sl, ks_273_0, ks_273_1, ks_273_2, ks_273_3, ks_273_4, ks_273_5])
              exact hQ
          obtain ⟨v, h', r, rfl, A, f⟩ := Ret_ex (d := 4) (y := 273) (as := [.ref 87, .int (iN i), .int (iN j), .int (iN 1)]) [some (.ref 87), some (.int (iN i)), some (.int (iN j)), some (.int (iN 1)), none, none, none, none, none, none] rfl rfl (key (fun v h' => v = some (.int (iN (fitN (fun k => uF x i k) 10 (gRn s) (gRv s) i j))) ∧ Ao h' x ∧ Fo Sy Fy h h') fun h' a b => ⟨rfl, a, b⟩)
          exact ⟨h', Ret.up (d := 4) r (by decide), A, f⟩
      · refine op_query hs (v := .int (iN (itr (ctS (fun k => ftP (uH (gX s) i k) (gRn s) (gRv s) i j)) 0 32 0))) (fun h hB hI => ?_) (fun h hB hI => ?_)
        · obtain ⟨oF, g0, g1, g2, g4, g5, g6, g7, g8, g9, g10, g11, g12, g13, o21, o22, o23, o28, o29, o32, o34, o36, oM⟩ := F_facts hB; obtain ⟨hA, iI, ⟨nx, hP⟩, hR, hL, hF, hT⟩ := id hI; have hW := hs.1; have hm : isM 1 := Or.inl rfl; have wN := hW.1
          obtain ⟨h1, r1, f1⟩ := d_hours (j := j) hB hA hW hi (by omega) hR hs.2.2.2.1
          have B1 := f1.bs hB
          rw [fit_fb] at r1
          have hlt := fb_lt (fun k => ftP (uH (gX s) i k) (gRn s) (gRv s) i j) 32
          have r2 := j_bc32 (h := h1) hlt
          rw [fb_cnt] at r2
          refine ⟨h1, Ret.up (d := 5) ?_ (by decide), Fr_zd f1⟩
          refine Ret_L [some (.ref 0), some (.int (iN i)), some (.int (iN j)), some (.int (iN 2))] rfl rfl fun Q hQ => ?_
          (refine wp_go 600 ks_170_0.1 ?_; simp (disch := first | with_reducible assumption | omega | (simp only [ob_si, ar_si, ob_sl, ar_sl]; with_reducible assumption)) only [ci_0, ci_1, ci_2, ci_3, cm_1, cm_2, ldA_a, ldI_i, oc_191, oc_26, oc_69, oc_70, oc_71, r_0, r_2, r_32, r_6, r_62, r_80_2, r_80_3, r_80_4, r_81_1, r_90, r_99n, swk_nc, swk_nn, wpn_S, wpn_zero, stp_h, lk_0, lk_s, st1_0, st1_1, st1_2, st2_0, st2_1, st2_2, kj_i, kj_a, kj_l, kj_n, cat_n, cat_i, cat_a, cat_u, cat_l, vc_i, vc_a, rv_s, tl_n, tl_s, Cal'_s, List.length_cons, List.length_nil, i0, i1, iNd, iN_lt, iN_le, iN_eq, iN_add, iN_mul, iN_mod, iN_sub, iN_div, iN_clamp, iN_inb, zle_N, zlt_N, zN_le, zN_lt, zN_eq, Nz_eq, mI_t, mI_f, bI_0, bI_1, bI_t, bI_f, dltT, dltF, dleT, dleF, deqT, deqF, Nat.not_lt_zero, not_true_eq_false, not_false_eq_true, true_and, and_true, false_and, and_false, or_true, true_or, false_or, or_false, and_self, if_true, if_false, Classical.not_not, Nat.add_assoc, Nat.zero_add, Nat.add_zero, bI_or, bI_True, bI_False, Bool.false_eq_true, reduceCtorEq, eq_self, gi_si, gl_si, gr_si, hn_si, hL_si, hX_si, gi_sl, gl_sl, gr_sl, hn_sl, ob_si, ar_si, ob_sl, ar_sl, ks_170_0, ks_170_1, ks_170_2, oF, g0, g1, g2, g4, g5, g6, g7, g8, g9, g10, g11, g12, g13, o21, o22, o23, o28, o29, o32, o34, o36, oM, oM, c_areT_q hm hB hA hW, hij, Cal_eq r1, Cal_eq r2])
          exact hQ
        · have oO := (O_facts hB).1; obtain ⟨hA, hIr, f0⟩ := IO_0 hI; replace hB := Bs.si hB 87 7 (iN 0); have hW := hs.1; obtain ⟨oO2, rO1, rO2, rO3, rO4, rO5, rO8, aO1, aO2, aO3, aO4, aO5, aO8, sO1, sO2, sO3, sO4, sO5, sO8⟩ := O_facts hB; obtain ⟨fN, fD, fK, fF, fH, fM, fQ⟩ := id hA; obtain ⟨wN, wK, wF, wH, wM, wQ, wS, wZ, wT⟩ := id hW
          generalize gX s = x at *
          have key : ∀ Q : Option Value → Hp → Prop, (∀ h', Ao h' x → Fo Sy Fy h h' → Q (some (.int (iN (itr (ctS (fun k => ftP (uH x i k) (gRn s) (gRv s) i j)) 0 32 0)))) h') → wp 4 273 0 [some (.ref 87), some (.int (iN i)), some (.int (iN j)), some (.int (iN 2)), none, none, none, none, none, none] [] h Q := by
            intro Q hQ
            obtain ⟨h1, r1, A1, K1, f1⟩ := wo_think hB hA
            have B1 := f1.bs hB
            have q1 := (O_facts B1).1
            have R1 : RoO h1 (gRn s) (gRv s) := RoO.fr hIr.2.2.1 f1 (by unfold Sc; omega) (by unfold Fc; omega)
            obtain ⟨rn, hrn⟩ : ∃ rn, rn = gRn s := ⟨_, rfl⟩
            obtain ⟨rv, hrv⟩ : ∃ rv, rv = gRv s := ⟨_, rfl⟩
            have hro : ro_ok (gRn s) (gRv s) := hs.2.2.2.1
            rw [← hrn, ← hrv] at R1 hQ hro
            obtain ⟨P, hP⟩ : ∃ P : Nat → Prop, P = fun k => ftP (uH x i k) rn rv i j := ⟨_, rfl⟩
            (refine wp_go 600 ks_273_0.1 ?_; simp (disch := first | with_reducible assumption | omega | (simp only [ob_si, ar_si, ob_sl, ar_sl]; with_reducible assumption)) only [ci_0, ci_1, ci_10, ci_2, ci_3, ci_32, ci_6, cm_1, cm_9, inc_i, ldA_a, ldI_i, oc_201, oc_203, oc_236, oc_272, r_0, r_10, r_14, r_15, r_2, r_3, r_30, r_31, r_32, r_34, r_42, r_44, r_46, r_6, r_62, r_63, r_70, r_71, r_80_1, r_80_2, r_80_3, r_81_3, r_9, r_90, wpn_S, wpn_zero, stp_h, lk_0, lk_s, st1_0, st1_1, st1_2, st2_0, st2_1, st2_2, kj_i, kj_a, kj_l, kj_n, cat_n, cat_i, cat_a, cat_u, cat_l, vc_i, vc_a, rv_s, tl_n, tl_s, Cal'_s, List.length_cons, List.length_nil, i0, i1, iNd, iN_lt, iN_le, iN_eq, iN_add, iN_mul, iN_mod, iN_sub, iN_div, iN_clamp, iN_inb, zle_N, zlt_N, zN_le, zN_lt, zN_eq, Nz_eq, mI_t, mI_f, bI_0, bI_1, bI_t, bI_f, dltT, dltF, dleT, dleF, deqT, deqF, Nat.not_lt_zero, not_true_eq_false, not_false_eq_true, true_and, and_true, false_and, and_false, or_true, true_or, false_or, or_false, and_self, if_true, if_false, Classical.not_not, Nat.add_assoc, Nat.zero_add, Nat.add_zero, bI_or, bI_True, bI_False, Bool.false_eq_true, reduceCtorEq, eq_self, gi_si, gl_si, gr_si, hn_si, hL_si, hX_si, gi_sl, gl_sl, gr_sl, hn_sl, ob_si, ar_si, ob_sl, ar_sl, ks_273_0, ks_273_1, ks_273_2, ks_273_3, ks_273_4, ks_273_5, oO, oO2, rO1, rO2, rO3, rO4, rO5, rO8, aO1, aO2, aO3, aO4, aO5, aO8, fN, fD, fK, fF, fH, fM, fQ, oO, o_two_q hB hA hW, isT_N, o_wb0_q, isP_N, isP_in, o_in_q trivial, Cal_eq r1])
            refine wp_foldH (fun k (a : Nat × Nat × Option Nat) (w : Option Value) => [some (.ref 87), some (.int (iN i)), some (.int (iN j)), some (.int (iN 2)), some (.int (iN 0)), some (.int (iN a.1)), some (.int (iN a.2.1)), some (.int (oI a.2.2)), some (.int (iN k)), w]) (whS false P) (fun k a h' => (∀ r, a.2.2 = some r → r < 100) ∧ Ao h' x ∧ Kx h' 98 x ∧ RoO h' rn rv ∧ Fo Sy Fy h h') 32 ?_ 32 0 (0, 0, none) none h1 (by omega) ⟨(fun r e => by cases e), A1, K1, R1, f0.tr (Fo_y98 f1)⟩ ?_
            · rintro k a w h1 hk ⟨ha, A1, K1, R1, F1⟩ hn
              have B1 := F1.bs hB
              obtain ⟨oO_1, t1_1, t2_1, t3_1, t4_1, t5_1, t8_1, y1_1, y2_1, y3_1, y4_1, y5_1, y8_1, z1_1, z2_1, z3_1, z4_1, z5_1, z8_1⟩ := O_facts B1; obtain ⟨eN_1, eD_1, eK_1, eF_1, eH_1, eM_1, eQ_1⟩ := id A1
              have k1 := eK_1 i (by omega)
              have k2 := eF_1 i (by omega)
              have k3 := eH_1 i (by omega)
              have A2 : Ao (si (si (si h1 88 i (iN (xK x i))) 89 i (iN (xF x i))) 90 i (iN k)) (uH x i k) := Ao_H (Ao_F' (Ao_K' A1))
              have W2 : Wf (uH x i k) := wf_H hW (by omega)
              have f2 : Fo Sq Fq h1 (si (si (si h1 88 i (iN (xK x i))) 89 i (iN (xF x i))) 90 i (iN k)) := (((Fo.rf _ _ h1).sa (by unfold Sq; omega) (by omega) _ _).sa (by unfold Sq; omega) (by omega) _ _).sa (by unfold Sq; omega) (by omega) _ _
              have B2 := f2.bs B1
              obtain ⟨h3, r3, A3, K3, f3⟩ := wo_row (i := i) (j := j) B2 A2 W2 (K1.fr f2 (by unfold Sq; omega) (by omega)) (R1.fr f2 (by unfold Sq; omega) (by unfold Fq; omega)) hro hi hj
              have R3 := (R1.fr f2 (by unfold Sq; omega) (by unfold Fq; omega)).fr f3 (by unfold Sc; omega) (by unfold Fc; omega)
              have F3 := (F1.tr (Fo_yq f2)).tr (Fo_y98 f3)
              rw [show ftP (uH x i k) rn rv i j = P k by rw [hP]] at r3
              obtain ⟨a1, a2, a3⟩ := a
              simp only at ha
              by_cases hp : P k
              · cases a3 with
                | none =>
                  have hn := hn (some (.int (iN 1))) h3 ⟨fun r e => by unfold whS fsF at e; rw [if_pos hp] at e; cases e; omega, A3, K3, R3, F3⟩
                  unfold whS fbS ctS fsF at hn
                  simp only [if_pos hp, orO] at hn
                  simp only [oI] at hn ⊢
                  (refine wp_go 600 ks_273_1.2.2.2.2.2.2.2.1 ?_; simp (disch := first | with_reducible assumption | omega | (simp only [ob_si, ar_si, ob_sl, ar_sl]; with_reducible assumption)) only [ci_0, ci_1, ci_10, ci_2, ci_3, ci_32, ci_6, cm_1, cm_9, inc_i, ldA_a, ldI_i, oc_201, oc_203, oc_236, oc_272, r_0, r_10, r_14, r_15, r_2, r_3, r_30, r_31, r_32, r_34, r_42, r_44, r_46, r_6, r_62, r_63, r_70, r_71, r_80_1, r_80_2, r_80_3, r_81_3, r_9, r_90, wpn_S, wpn_zero, stp_h, lk_0, lk_s, st1_0, st1_1, st1_2, st2_0, st2_1, st2_2, kj_i, kj_a, kj_l, kj_n, cat_n, cat_i, cat_a, cat_u, cat_l, vc_i, vc_a, rv_s, tl_n, tl_s, Cal'_s, List.length_cons, List.length_nil, i0, i1, iNd, iN_lt, iN_le, iN_eq, iN_add, iN_mul, iN_mod, iN_sub, iN_div, iN_clamp, iN_inb, zle_N, zlt_N, zN_le, zN_lt, zN_eq, Nz_eq, mI_t, mI_f, bI_0, bI_1, bI_t, bI_f, dltT, dltF, dleT, dleF, deqT, deqF, Nat.not_lt_zero, not_true_eq_false, not_false_eq_true, true_and, and_true, false_and, and_false, or_true, true_or, false_or, or_false, and_self, if_true, if_false, Classical.not_not, Nat.add_assoc, Nat.zero_add, Nat.add_zero, bI_or, bI_True, bI_False, Bool.false_eq_true, reduceCtorEq, eq_self, gi_si, gl_si, gr_si, hn_si, hL_si, hX_si, gi_sl, gl_sl, gr_sl, hn_sl, ob_si, ar_si, ob_sl, ar_sl, ks_273_0, ks_273_1, ks_273_2, ks_273_3, ks_273_4, ks_273_5, oO_1, t1_1, t2_1, t3_1, t4_1, t5_1, t8_1, y1_1, y2_1, y3_1, y4_1, y5_1, y8_1, eN_1, eD_1, eK_1, eF_1, eH_1, eM_1, eQ_1, k1, k2, k3, up_t, up_f, Cal_eq r3, hp, shl_eq32, iN_or, Nat.or_zero])
                  exact hn
                | some r =>
                  have hr := ha r rfl
                  have hn := hn (some (.int (iN 1))) h3 ⟨fun r2 e => by unfold whS at e; simp only [orO] at e; cases e; exact hr, A3, K3, R3, F3⟩
                  unfold whS fbS ctS fsF at hn
                  simp only [if_pos hp, orO] at hn
                  simp only [oI] at hn ⊢
                  (refine wp_go 600 ks_273_1.2.2.2.2.2.2.2.1 ?_; simp (disch := first | with_reducible assumption | omega | (simp only [ob_si, ar_si, ob_sl, ar_sl]; with_reducible assumption)) only [ci_0, ci_1, ci_10, ci_2, ci_3, ci_32, ci_6, cm_1, cm_9, inc_i, ldA_a, ldI_i, oc_201, oc_203, oc_236, oc_272, r_0, r_10, r_14, r_15, r_2, r_3, r_30, r_31, r_32, r_34, r_42, r_44, r_46, r_6, r_62, r_63, r_70, r_71, r_80_1, r_80_2, r_80_3, r_81_3, r_9, r_90, wpn_S, wpn_zero, stp_h, lk_0, lk_s, st1_0, st1_1, st1_2, st2_0, st2_1, st2_2, kj_i, kj_a, kj_l, kj_n, cat_n, cat_i, cat_a, cat_u, cat_l, vc_i, vc_a, rv_s, tl_n, tl_s, Cal'_s, List.length_cons, List.length_nil, i0, i1, iNd, iN_lt, iN_le, iN_eq, iN_add, iN_mul, iN_mod, iN_sub, iN_div, iN_clamp, iN_inb, zle_N, zlt_N, zN_le, zN_lt, zN_eq, Nz_eq, mI_t, mI_f, bI_0, bI_1, bI_t, bI_f, dltT, dltF, dleT, dleF, deqT, deqF, Nat.not_lt_zero, not_true_eq_false, not_false_eq_true, true_and, and_true, false_and, and_false, or_true, true_or, false_or, or_false, and_self, if_true, if_false, Classical.not_not, Nat.add_assoc, Nat.zero_add, Nat.add_zero, bI_or, bI_True, bI_False, Bool.false_eq_true, reduceCtorEq, eq_self, gi_si, gl_si, gr_si, hn_si, hL_si, hX_si, gi_sl, gl_sl, gr_sl, hn_sl, ob_si, ar_si, ob_sl, ar_sl, ks_273_0, ks_273_1, ks_273_2, ks_273_3, ks_273_4, ks_273_5, oO_1, t1_1, t2_1, t3_1, t4_1, t5_1, t8_1, y1_1, y2_1, y3_1, y4_1, y5_1, y8_1, eN_1, eD_1, eK_1, eF_1, eH_1, eM_1, eQ_1, k1, k2, k3, up_t, up_f, Cal_eq r3, hp, shl_eq32, iN_or, Nat.or_zero])
                  exact hn
              · have hn := hn (some (.int (iN 0))) h3 ⟨fun r e => by unfold whS fsF at e; rw [if_neg hp] at e; simp only [orO_n] at e; exact ha r e, A3, K3, R3, F3⟩
                unfold whS fbS ctS fsF at hn
                simp only [if_neg hp, orO_n, ite_self] at hn
                (refine wp_go 600 ks_273_1.2.2.2.2.2.2.2.1 ?_; simp (disch := first | with_reducible assumption | omega | (simp only [ob_si, ar_si, ob_sl, ar_sl]; with_reducible assumption)) only [ci_0, ci_1, ci_10, ci_2, ci_3, ci_32, ci_6, cm_1, cm_9, inc_i, ldA_a, ldI_i, oc_201, oc_203, oc_236, oc_272, r_0, r_10, r_14, r_15, r_2, r_3, r_30, r_31, r_32, r_34, r_42, r_44, r_46, r_6, r_62, r_63, r_70, r_71, r_80_1, r_80_2, r_80_3, r_81_3, r_9, r_90, wpn_S, wpn_zero, stp_h, lk_0, lk_s, st1_0, st1_1, st1_2, st2_0, st2_1, st2_2, kj_i, kj_a, kj_l, kj_n, cat_n, cat_i, cat_a, cat_u, cat_l, vc_i, vc_a, rv_s, tl_n, tl_s, Cal'_s, List.length_cons, List.length_nil, i0, i1, iNd, iN_lt, iN_le, iN_eq, iN_add, iN_mul, iN_mod, iN_sub, iN_div, iN_clamp, iN_inb, zle_N, zlt_N, zN_le, zN_lt, zN_eq, Nz_eq, mI_t, mI_f, bI_0, bI_1, bI_t, bI_f, dltT, dltF, dleT, dleF, deqT, deqF, Nat.not_lt_zero, not_true_eq_false, not_false_eq_true, true_and, and_true, false_and, and_false, or_true, true_or, false_or, or_false, and_self, if_true, if_false, Classical.not_not, Nat.add_assoc, Nat.zero_add, Nat.add_zero, bI_or, bI_True, bI_False, Bool.false_eq_true, reduceCtorEq, eq_self, gi_si, gl_si, gr_si, hn_si, hL_si, hX_si, gi_sl, gl_sl, gr_sl, hn_sl, ob_si, ar_si, ob_sl, ar_sl, ks_273_0, ks_273_1, ks_273_2, ks_273_3, ks_273_4, ks_273_5, oO_1, t1_1, t2_1, t3_1, t4_1, t5_1, t8_1, y1_1, y2_1, y3_1, y4_1, y5_1, y8_1, eN_1, eD_1, eK_1, eF_1, eH_1, eM_1, eQ_1, k1, k2, k3, up_t, up_f, Cal_eq r3, hp, iN_or, Nat.or_zero])
                exact hn
            · rintro w h1 ⟨ha, A1, K1, R1, F1⟩
              have hQ := hQ h1 A1 F1
              rw [wh_eq]
              subst hP
              (refine wp_go 600 ks_273_1.2.2.2.2.2.2.2.1 ?_; simp (disch := first | with_reducible assumption | omega | (simp only [ob_si, ar_si, ob_sl, ar_sl]; with_reducible assumption)) only [ci_0, ci_1, ci_10, ci_2, ci_3, ci_32, ci_6, cm_1, cm_9, inc_i, ldA_a, ldI_i, oc_201, oc_203, oc_236, oc_272, r_0, r_10, r_14, r_15, r_2, r_3, r_30, r_31, r_32, r_34, r_42, r_44, r_46, r_6, r_62, r_63, r_70, r_71, r_80_1, r_80_2, r_80_3, r_81_3, r_9, r_90, wpn_S, wpn_zero, stp_h, lk_0, lk_s, st1_0, st1_1, st1_2, st2_0, st2_1, st2_2, kj_i, kj_a, kj_l, kj_n, cat_n, cat_i, cat_a, cat_u, cat_l, vc_i, vc_a, rv_s, tl_n, tl_s, Cal'_s, List.length_cons, List.length_nil, i0, i1, iNd, iN_lt, iN_le, iN_eq, iN_add, iN_mul, iN_mod, iN_sub, iN_div, iN_clamp, iN_inb, zle_N, zlt_N, zN_le, zN_lt, zN_eq, Nz_eq, mI_t, mI_f, bI_0, bI_1, bI_t, bI_f, dltT, dltF, dleT, dleF, deqT, deqF, Nat.not_lt_zero, not_true_eq_false, not_false_eq_true, true_and, and_true, false_and, and_false, or_true, true_or, false_or, or_false, and_self, if_true, if_false, Classical.not_not, Nat.add_assoc, Nat.zero_add, Nat.add_zero, bI_or, bI_True, bI_False, Bool.false_eq_true, reduceCtorEq, eq_self, gi_si, gl_si, gr_si, hn_si, hL_si, hX_si, gi_sl, gl_sl, gr_sl, hn_sl, ob_si, ar_si, ob_sl, ar_sl, ks_273_0, ks_273_1, ks_273_2, ks_273_3, ks_273_4, ks_273_5])
              exact hQ
          obtain ⟨v, h', r, rfl, A, f⟩ := Ret_ex (d := 4) (y := 273) (as := [.ref 87, .int (iN i), .int (iN j), .int (iN 2)]) [some (.ref 87), some (.int (iN i)), some (.int (iN j)), some (.int (iN 2)), none, none, none, none, none, none] rfl rfl (key (fun v h' => v = some (.int (iN (itr (ctS (fun k => ftP (uH x i k) (gRn s) (gRv s) i j)) 0 32 0))) ∧ Ao h' x ∧ Fo Sy Fy h h') fun h' a b => ⟨rfl, a, b⟩)
          exact ⟨h', Ret.up (d := 4) r (by decide), A, f⟩
      · refine op_query hs (v := .int (oI (itx (fsF (fun k => ftP (uH (gX s) i k) (gRn s) (gRv s) i j)) 0 32))) (fun h hB hI => ?_) (fun h hB hI => ?_)
        · obtain ⟨oF, g0, g1, g2, g4, g5, g6, g7, g8, g9, g10, g11, g12, g13, o21, o22, o23, o28, o29, o32, o34, o36, oM⟩ := F_facts hB; obtain ⟨hA, iI, ⟨nx, hP⟩, hR, hL, hF, hT⟩ := id hI; have hW := hs.1; have hm : isM 1 := Or.inl rfl; have wN := hW.1
          obtain ⟨h1, r1, f1⟩ := d_hours (j := j) hB hA hW hi (by omega) hR hs.2.2.2.1
          have B1 := f1.bs hB
          rw [fit_fb] at r1
          have hlt := fb_lt (fun k => ftP (uH (gX s) i k) (gRn s) (gRv s) i j) 32
          have r2 := c_low (h := h1) (v := itr (fbS (fun k => ftP (uH (gX s) i k) (gRn s) (gRv s) i j)) 0 32 0) trivial
          rw [fb_low] at r2
          refine ⟨h1, Ret.up (d := 5) ?_ (by decide), Fr_zd f1⟩
          refine Ret_L [some (.ref 0), some (.int (iN i)), some (.int (iN j)), some (.int (iN 3))] rfl rfl fun Q hQ => ?_
          (refine wp_go 600 ks_170_0.1 ?_; simp (disch := first | with_reducible assumption | omega | (simp only [ob_si, ar_si, ob_sl, ar_sl]; with_reducible assumption)) only [ci_0, ci_1, ci_2, ci_3, cm_1, cm_2, ldA_a, ldI_i, oc_191, oc_26, oc_69, oc_70, oc_71, r_0, r_2, r_32, r_6, r_62, r_80_2, r_80_3, r_80_4, r_81_1, r_90, r_99n, swk_nc, swk_nn, wpn_S, wpn_zero, stp_h, lk_0, lk_s, st1_0, st1_1, st1_2, st2_0, st2_1, st2_2, kj_i, kj_a, kj_l, kj_n, cat_n, cat_i, cat_a, cat_u, cat_l, vc_i, vc_a, rv_s, tl_n, tl_s, Cal'_s, List.length_cons, List.length_nil, i0, i1, iNd, iN_lt, iN_le, iN_eq, iN_add, iN_mul, iN_mod, iN_sub, iN_div, iN_clamp, iN_inb, zle_N, zlt_N, zN_le, zN_lt, zN_eq, Nz_eq, mI_t, mI_f, bI_0, bI_1, bI_t, bI_f, dltT, dltF, dleT, dleF, deqT, deqF, Nat.not_lt_zero, not_true_eq_false, not_false_eq_true, true_and, and_true, false_and, and_false, or_true, true_or, false_or, or_false, and_self, if_true, if_false, Classical.not_not, Nat.add_assoc, Nat.zero_add, Nat.add_zero, bI_or, bI_True, bI_False, Bool.false_eq_true, reduceCtorEq, eq_self, gi_si, gl_si, gr_si, hn_si, hL_si, hX_si, gi_sl, gl_sl, gr_sl, hn_sl, ob_si, ar_si, ob_sl, ar_sl, ks_170_0, ks_170_1, ks_170_2, oF, g0, g1, g2, g4, g5, g6, g7, g8, g9, g10, g11, g12, g13, o21, o22, o23, o28, o29, o32, o34, o36, oM, oM, c_areT_q hm hB hA hW, hij, Cal_eq r1, Cal_eq r2])
          exact hQ
        · have oO := (O_facts hB).1; obtain ⟨hA, hIr, f0⟩ := IO_0 hI; replace hB := Bs.si hB 87 7 (iN 0); have hW := hs.1; obtain ⟨oO2, rO1, rO2, rO3, rO4, rO5, rO8, aO1, aO2, aO3, aO4, aO5, aO8, sO1, sO2, sO3, sO4, sO5, sO8⟩ := O_facts hB; obtain ⟨fN, fD, fK, fF, fH, fM, fQ⟩ := id hA; obtain ⟨wN, wK, wF, wH, wM, wQ, wS, wZ, wT⟩ := id hW
          generalize gX s = x at *
          have key : ∀ Q : Option Value → Hp → Prop, (∀ h', Ao h' x → Fo Sy Fy h h' → Q (some (.int (oI (itx (fsF (fun k => ftP (uH x i k) (gRn s) (gRv s) i j)) 0 32)))) h') → wp 4 273 0 [some (.ref 87), some (.int (iN i)), some (.int (iN j)), some (.int (iN 3)), none, none, none, none, none, none] [] h Q := by
            intro Q hQ
            obtain ⟨h1, r1, A1, K1, f1⟩ := wo_think hB hA
            have B1 := f1.bs hB
            have q1 := (O_facts B1).1
            have R1 : RoO h1 (gRn s) (gRv s) := RoO.fr hIr.2.2.1 f1 (by unfold Sc; omega) (by unfold Fc; omega)
            obtain ⟨rn, hrn⟩ : ∃ rn, rn = gRn s := ⟨_, rfl⟩
            obtain ⟨rv, hrv⟩ : ∃ rv, rv = gRv s := ⟨_, rfl⟩
            have hro : ro_ok (gRn s) (gRv s) := hs.2.2.2.1
            rw [← hrn, ← hrv] at R1 hQ hro
            obtain ⟨P, hP⟩ : ∃ P : Nat → Prop, P = fun k => ftP (uH x i k) rn rv i j := ⟨_, rfl⟩
            (refine wp_go 600 ks_273_0.1 ?_; simp (disch := first | with_reducible assumption | omega | (simp only [ob_si, ar_si, ob_sl, ar_sl]; with_reducible assumption)) only [ci_0, ci_1, ci_10, ci_2, ci_3, ci_32, ci_6, cm_1, cm_9, inc_i, ldA_a, ldI_i, oc_201, oc_203, oc_236, oc_272, r_0, r_10, r_14, r_15, r_2, r_3, r_30, r_31, r_32, r_34, r_42, r_44, r_46, r_6, r_62, r_63, r_70, r_71, r_80_1, r_80_2, r_80_3, r_81_3, r_9, r_90, wpn_S, wpn_zero, stp_h, lk_0, lk_s, st1_0, st1_1, st1_2, st2_0, st2_1, st2_2, kj_i, kj_a, kj_l, kj_n, cat_n, cat_i, cat_a, cat_u, cat_l, vc_i, vc_a, rv_s, tl_n, tl_s, Cal'_s, List.length_cons, List.length_nil, i0, i1, iNd, iN_lt, iN_le, iN_eq, iN_add, iN_mul, iN_mod, iN_sub, iN_div, iN_clamp, iN_inb, zle_N, zlt_N, zN_le, zN_lt, zN_eq, Nz_eq, mI_t, mI_f, bI_0, bI_1, bI_t, bI_f, dltT, dltF, dleT, dleF, deqT, deqF, Nat.not_lt_zero, not_true_eq_false, not_false_eq_true, true_and, and_true, false_and, and_false, or_true, true_or, false_or, or_false, and_self, if_true, if_false, Classical.not_not, Nat.add_assoc, Nat.zero_add, Nat.add_zero, bI_or, bI_True, bI_False, Bool.false_eq_true, reduceCtorEq, eq_self, gi_si, gl_si, gr_si, hn_si, hL_si, hX_si, gi_sl, gl_sl, gr_sl, hn_sl, ob_si, ar_si, ob_sl, ar_sl, ks_273_0, ks_273_1, ks_273_2, ks_273_3, ks_273_4, ks_273_5, oO, oO2, rO1, rO2, rO3, rO4, rO5, rO8, aO1, aO2, aO3, aO4, aO5, aO8, fN, fD, fK, fF, fH, fM, fQ, oO, o_two_q hB hA hW, isT_N, o_wb0_q, isP_N, isP_in, o_in_q trivial, Cal_eq r1])
            refine wp_foldH (fun k (a : Nat × Nat × Option Nat) (w : Option Value) => [some (.ref 87), some (.int (iN i)), some (.int (iN j)), some (.int (iN 3)), some (.int (iN 0)), some (.int (iN a.1)), some (.int (iN a.2.1)), some (.int (oI a.2.2)), some (.int (iN k)), w]) (whS false P) (fun k a h' => (∀ r, a.2.2 = some r → r < 100) ∧ Ao h' x ∧ Kx h' 98 x ∧ RoO h' rn rv ∧ Fo Sy Fy h h') 32 ?_ 32 0 (0, 0, none) none h1 (by omega) ⟨(fun r e => by cases e), A1, K1, R1, f0.tr (Fo_y98 f1)⟩ ?_
            · rintro k a w h1 hk ⟨ha, A1, K1, R1, F1⟩ hn
              have B1 := F1.bs hB
              obtain ⟨oO_1, t1_1, t2_1, t3_1, t4_1, t5_1, t8_1, y1_1, y2_1, y3_1, y4_1, y5_1, y8_1, z1_1, z2_1, z3_1, z4_1, z5_1, z8_1⟩ := O_facts B1; obtain ⟨eN_1, eD_1, eK_1, eF_1, eH_1, eM_1, eQ_1⟩ := id A1
              have k1 := eK_1 i (by omega)
              have k2 := eF_1 i (by omega)
              have k3 := eH_1 i (by omega)
              have A2 : Ao (si (si (si h1 88 i (iN (xK x i))) 89 i (iN (xF x i))) 90 i (iN k)) (uH x i k) := Ao_H (Ao_F' (Ao_K' A1))
              have W2 : Wf (uH x i k) := wf_H hW (by omega)
              have f2 : Fo Sq Fq h1 (si (si (si h1 88 i (iN (xK x i))) 89 i (iN (xF x i))) 90 i (iN k)) := (((Fo.rf _ _ h1).sa (by unfold Sq; omega) (by omega) _ _).sa (by unfold Sq; omega) (by omega) _ _).sa (by unfold Sq; omega) (by omega) _ _
              have B2 := f2.bs B1
              obtain ⟨h3, r3, A3, K3, f3⟩ := wo_row (i := i) (j := j) B2 A2 W2 (K1.fr f2 (by unfold Sq; omega) (by omega)) (R1.fr f2 (by unfold Sq; omega) (by unfold Fq; omega)) hro hi hj
              have R3 := (R1.fr f2 (by unfold Sq; omega) (by unfold Fq; omega)).fr f3 (by unfold Sc; omega) (by unfold Fc; omega)
              have F3 := (F1.tr (Fo_yq f2)).tr (Fo_y98 f3)
              rw [show ftP (uH x i k) rn rv i j = P k by rw [hP]] at r3
              obtain ⟨a1, a2, a3⟩ := a
              simp only at ha
              by_cases hp : P k
              · cases a3 with
                | none =>
                  have hn := hn (some (.int (iN 1))) h3 ⟨fun r e => by unfold whS fsF at e; rw [if_pos hp] at e; cases e; omega, A3, K3, R3, F3⟩
                  unfold whS fbS ctS fsF at hn
                  simp only [if_pos hp, orO] at hn
                  simp only [oI] at hn ⊢
                  (refine wp_go 600 ks_273_1.2.2.2.2.2.2.2.1 ?_; simp (disch := first | with_reducible assumption | omega | (simp only [ob_si, ar_si, ob_sl, ar_sl]; with_reducible assumption)) only [ci_0, ci_1, ci_10, ci_2, ci_3, ci_32, ci_6, cm_1, cm_9, inc_i, ldA_a, ldI_i, oc_201, oc_203, oc_236, oc_272, r_0, r_10, r_14, r_15, r_2, r_3, r_30, r_31, r_32, r_34, r_42, r_44, r_46, r_6, r_62, r_63, r_70, r_71, r_80_1, r_80_2, r_80_3, r_81_3, r_9, r_90, wpn_S, wpn_zero, stp_h, lk_0, lk_s, st1_0, st1_1, st1_2, st2_0, st2_1, st2_2, kj_i, kj_a, kj_l, kj_n, cat_n, cat_i, cat_a, cat_u, cat_l, vc_i, vc_a, rv_s, tl_n, tl_s, Cal'_s, List.length_cons, List.length_nil, i0, i1, iNd, iN_lt, iN_le, iN_eq, iN_add, iN_mul, iN_mod, iN_sub, iN_div, iN_clamp, iN_inb, zle_N, zlt_N, zN_le, zN_lt, zN_eq, Nz_eq, mI_t, mI_f, bI_0, bI_1, bI_t, bI_f, dltT, dltF, dleT, dleF, deqT, deqF, Nat.not_lt_zero, not_true_eq_false, not_false_eq_true, true_and, and_true, false_and, and_false, or_true, true_or, false_or, or_false, and_self, if_true, if_false, Classical.not_not, Nat.add_assoc, Nat.zero_add, Nat.add_zero, bI_or, bI_True, bI_False, Bool.false_eq_true, reduceCtorEq, eq_self, gi_si, gl_si, gr_si, hn_si, hL_si, hX_si, gi_sl, gl_sl, gr_sl, hn_sl, ob_si, ar_si, ob_sl, ar_sl, ks_273_0, ks_273_1, ks_273_2, ks_273_3, ks_273_4, ks_273_5, oO_1, t1_1, t2_1, t3_1, t4_1, t5_1, t8_1, y1_1, y2_1, y3_1, y4_1, y5_1, y8_1, eN_1, eD_1, eK_1, eF_1, eH_1, eM_1, eQ_1, k1, k2, k3, up_t, up_f, Cal_eq r3, hp, shl_eq32, iN_or, Nat.or_zero])
                  exact hn
                | some r =>
                  have hr := ha r rfl
                  have hn := hn (some (.int (iN 1))) h3 ⟨fun r2 e => by unfold whS at e; simp only [orO] at e; cases e; exact hr, A3, K3, R3, F3⟩
                  unfold whS fbS ctS fsF at hn
                  simp only [if_pos hp, orO] at hn
                  simp only [oI] at hn ⊢
                  (refine wp_go 600 ks_273_1.2.2.2.2.2.2.2.1 ?_; simp (disch := first | with_reducible assumption | omega | (simp only [ob_si, ar_si, ob_sl, ar_sl]; with_reducible assumption)) only [ci_0, ci_1, ci_10, ci_2, ci_3, ci_32, ci_6, cm_1, cm_9, inc_i, ldA_a, ldI_i, oc_201, oc_203, oc_236, oc_272, r_0, r_10, r_14, r_15, r_2, r_3, r_30, r_31, r_32, r_34, r_42, r_44, r_46, r_6, r_62, r_63, r_70, r_71, r_80_1, r_80_2, r_80_3, r_81_3, r_9, r_90, wpn_S, wpn_zero, stp_h, lk_0, lk_s, st1_0, st1_1, st1_2, st2_0, st2_1, st2_2, kj_i, kj_a, kj_l, kj_n, cat_n, cat_i, cat_a, cat_u, cat_l, vc_i, vc_a, rv_s, tl_n, tl_s, Cal'_s, List.length_cons, List.length_nil, i0, i1, iNd, iN_lt, iN_le, iN_eq, iN_add, iN_mul, iN_mod, iN_sub, iN_div, iN_clamp, iN_inb, zle_N, zlt_N, zN_le, zN_lt, zN_eq, Nz_eq, mI_t, mI_f, bI_0, bI_1, bI_t, bI_f, dltT, dltF, dleT, dleF, deqT, deqF, Nat.not_lt_zero, not_true_eq_false, not_false_eq_true, true_and, and_true, false_and, and_false, or_true, true_or, false_or, or_false, and_self, if_true, if_false, Classical.not_not, Nat.add_assoc, Nat.zero_add, Nat.add_zero, bI_or, bI_True, bI_False, Bool.false_eq_true, reduceCtorEq, eq_self, gi_si, gl_si, gr_si, hn_si, hL_si, hX_si, gi_sl, gl_sl, gr_sl, hn_sl, ob_si, ar_si, ob_sl, ar_sl, ks_273_0, ks_273_1, ks_273_2, ks_273_3, ks_273_4, ks_273_5, oO_1, t1_1, t2_1, t3_1, t4_1, t5_1, t8_1, y1_1, y2_1, y3_1, y4_1, y5_1, y8_1, eN_1, eD_1, eK_1, eF_1, eH_1, eM_1, eQ_1, k1, k2, k3, up_t, up_f, Cal_eq r3, hp, shl_eq32, iN_or, Nat.or_zero])
                  exact hn
              · have hn := hn (some (.int (iN 0))) h3 ⟨fun r e => by unfold whS fsF at e; rw [if_neg hp] at e; simp only [orO_n] at e; exact ha r e, A3, K3, R3, F3⟩
                unfold whS fbS ctS fsF at hn
                simp only [if_neg hp, orO_n, ite_self] at hn
                (refine wp_go 600 ks_273_1.2.2.2.2.2.2.2.1 ?_; simp (disch := first | with_reducible assumption | omega | (simp only [ob_si, ar_si, ob_sl, ar_sl]; with_reducible assumption)) only [ci_0, ci_1, ci_10, ci_2, ci_3, ci_32, ci_6, cm_1, cm_9, inc_i, ldA_a, ldI_i, oc_201, oc_203, oc_236, oc_272, r_0, r_10, r_14, r_15, r_2, r_3, r_30, r_31, r_32, r_34, r_42, r_44, r_46, r_6, r_62, r_63, r_70, r_71, r_80_1, r_80_2, r_80_3, r_81_3, r_9, r_90, wpn_S, wpn_zero, stp_h, lk_0, lk_s, st1_0, st1_1, st1_2, st2_0, st2_1, st2_2, kj_i, kj_a, kj_l, kj_n, cat_n, cat_i, cat_a, cat_u, cat_l, vc_i, vc_a, rv_s, tl_n, tl_s, Cal'_s, List.length_cons, List.length_nil, i0, i1, iNd, iN_lt, iN_le, iN_eq, iN_add, iN_mul, iN_mod, iN_sub, iN_div, iN_clamp, iN_inb, zle_N, zlt_N, zN_le, zN_lt, zN_eq, Nz_eq, mI_t, mI_f, bI_0, bI_1, bI_t, bI_f, dltT, dltF, dleT, dleF, deqT, deqF, Nat.not_lt_zero, not_true_eq_false, not_false_eq_true, true_and, and_true, false_and, and_false, or_true, true_or, false_or, or_false, and_self, if_true, if_false, Classical.not_not, Nat.add_assoc, Nat.zero_add, Nat.add_zero, bI_or, bI_True, bI_False, Bool.false_eq_true, reduceCtorEq, eq_self, gi_si, gl_si, gr_si, hn_si, hL_si, hX_si, gi_sl, gl_sl, gr_sl, hn_sl, ob_si, ar_si, ob_sl, ar_sl, ks_273_0, ks_273_1, ks_273_2, ks_273_3, ks_273_4, ks_273_5, oO_1, t1_1, t2_1, t3_1, t4_1, t5_1, t8_1, y1_1, y2_1, y3_1, y4_1, y5_1, y8_1, eN_1, eD_1, eK_1, eF_1, eH_1, eM_1, eQ_1, k1, k2, k3, up_t, up_f, Cal_eq r3, hp, iN_or, Nat.or_zero])
                exact hn
            · rintro w h1 ⟨ha, A1, K1, R1, F1⟩
              have hQ := hQ h1 A1 F1
              rw [wh_eq]
              subst hP
              (refine wp_go 600 ks_273_1.2.2.2.2.2.2.2.1 ?_; simp (disch := first | with_reducible assumption | omega | (simp only [ob_si, ar_si, ob_sl, ar_sl]; with_reducible assumption)) only [ci_0, ci_1, ci_10, ci_2, ci_3, ci_32, ci_6, cm_1, cm_9, inc_i, ldA_a, ldI_i, oc_201, oc_203, oc_236, oc_272, r_0, r_10, r_14, r_15, r_2, r_3, r_30, r_31, r_32, r_34, r_42, r_44, r_46, r_6, r_62, r_63, r_70, r_71, r_80_1, r_80_2, r_80_3, r_81_3, r_9, r_90, wpn_S, wpn_zero, stp_h, lk_0, lk_s, st1_0, st1_1, st1_2, st2_0, st2_1, st2_2, kj_i, kj_a, kj_l, kj_n, cat_n, cat_i, cat_a, cat_u, cat_l, vc_i, vc_a, rv_s, tl_n, tl_s, Cal'_s, List.length_cons, List.length_nil, i0, i1, iNd, iN_lt, iN_le, iN_eq, iN_add, iN_mul, iN_mod, iN_sub, iN_div, iN_clamp, iN_inb, zle_N, zlt_N, zN_le, zN_lt, zN_eq, Nz_eq, mI_t, mI_f, bI_0, bI_1, bI_t, bI_f, dltT, dltF, dleT, dleF, deqT, deqF, Nat.not_lt_zero, not_true_eq_false, not_false_eq_true, true_and, and_true, false_and, and_false, or_true, true_or, false_or, or_false, and_self, if_true, if_false, Classical.not_not, Nat.add_assoc, Nat.zero_add, Nat.add_zero, bI_or, bI_True, bI_False, Bool.false_eq_true, reduceCtorEq, eq_self, gi_si, gl_si, gr_si, hn_si, hL_si, hX_si, gi_sl, gl_sl, gr_sl, hn_sl, ob_si, ar_si, ob_sl, ar_sl, ks_273_0, ks_273_1, ks_273_2, ks_273_3, ks_273_4, ks_273_5])
              exact hQ
          obtain ⟨v, h', r, rfl, A, f⟩ := Ret_ex (d := 4) (y := 273) (as := [.ref 87, .int (iN i), .int (iN j), .int (iN 3)]) [some (.ref 87), some (.int (iN i)), some (.int (iN j)), some (.int (iN 3)), none, none, none, none, none, none] rfl rfl (key (fun v h' => v = some (.int (oI (itx (fsF (fun k => ftP (uH x i k) (gRn s) (gRv s) i j)) 0 32))) ∧ Ao h' x ∧ Fo Sy Fy h h') fun h' a b => ⟨rfl, a, b⟩)
          exact ⟨h', Ret.up (d := 4) r (by decide), A, f⟩
    · obtain ⟨w0, w1, w2, w3⟩ : ¬ c = iN 0 ∧ ¬ c = iN 1 ∧ ¬ c = iN 2 ∧ ¬ c = iN 3 := ⟨fun e => hw ⟨0, by omega, e⟩, fun e => hw ⟨1, by omega, e⟩, fun e => hw ⟨2, by omega, e⟩, fun e => hw ⟨3, by omega, e⟩⟩
      refine op_refuse hs (k := 2) (by decide) (v := .int (zI (-2))) (fun h hB hI => Ret.up (d := 5) ?_ (by decide)) (fun h hB hI => Ret.up (d := 4) ?_ (by decide))
      · obtain ⟨oF, g0, g1, g2, g4, g5, g6, g7, g8, g9, g10, g11, g12, g13, o21, o22, o23, o28, o29, o32, o34, o36, oM⟩ := F_facts hB; obtain ⟨hA, iI, ⟨nx, hP⟩, hR, hL, hF, hT⟩ := id hI; have hW := hs.1; have hm : isM 1 := Or.inl rfl; have wN := hW.1
        refine Ret_L [some (.ref 0), some (.int (iN i)), some (.int (iN j)), some (.int c)] rfl rfl fun Q hQ => ?_
        (refine wp_go 600 ks_170_0.1 ?_; simp (disch := first | with_reducible assumption | omega | (simp only [ob_si, ar_si, ob_sl, ar_sl]; with_reducible assumption)) only [ci_0, ci_1, ci_2, ci_3, cm_1, cm_2, ldA_a, ldI_i, oc_191, oc_26, oc_69, oc_70, oc_71, r_0, r_2, r_32, r_6, r_62, r_80_2, r_80_3, r_80_4, r_81_1, r_90, r_99n, swk_nc, swk_nn, wpn_S, wpn_zero, stp_h, lk_0, lk_s, st1_0, st1_1, st1_2, st2_0, st2_1, st2_2, kj_i, kj_a, kj_l, kj_n, cat_n, cat_i, cat_a, cat_u, cat_l, vc_i, vc_a, rv_s, tl_n, tl_s, Cal'_s, List.length_cons, List.length_nil, i0, i1, iNd, iN_lt, iN_le, iN_eq, iN_add, iN_mul, iN_mod, iN_sub, iN_div, iN_clamp, iN_inb, zle_N, zlt_N, zN_le, zN_lt, zN_eq, Nz_eq, mI_t, mI_f, bI_0, bI_1, bI_t, bI_f, dltT, dltF, dleT, dleF, deqT, deqF, Nat.not_lt_zero, not_true_eq_false, not_false_eq_true, true_and, and_true, false_and, and_false, or_true, true_or, false_or, or_false, and_self, if_true, if_false, Classical.not_not, Nat.add_assoc, Nat.zero_add, Nat.add_zero, bI_or, bI_True, bI_False, Bool.false_eq_true, reduceCtorEq, eq_self, gi_si, gl_si, gr_si, hn_si, hL_si, hX_si, gi_sl, gl_sl, gr_sl, hn_sl, ob_si, ar_si, ob_sl, ar_sl, ks_170_0, ks_170_1, ks_170_2, oF, g0, g1, g2, g4, g5, g6, g7, g8, g9, g10, g11, g12, g13, o21, o22, o23, o28, o29, o32, o34, o36, oM, oM, c_areT_q hm hB hA hW, hij, w0, w1, w2, w3, c_ref2_q hB])
        exact hQ
      · have oO := (O_facts hB).1; obtain ⟨hA, hIr, f0⟩ := IO_0 hI; replace hB := Bs.si hB 87 7 (iN 0); have hW := hs.1; obtain ⟨oO2, rO1, rO2, rO3, rO4, rO5, rO8, aO1, aO2, aO3, aO4, aO5, aO8, sO1, sO2, sO3, sO4, sO5, sO8⟩ := O_facts hB; obtain ⟨fN, fD, fK, fF, fH, fM, fQ⟩ := id hA; obtain ⟨wN, wK, wF, wH, wM, wQ, wS, wZ, wT⟩ := id hW
        refine Ret_L [some (.ref 87), some (.int (iN i)), some (.int (iN j)), some (.int c), none, none, none, none, none, none] rfl rfl fun Q hQ => ?_
        (refine wp_go 600 ks_273_0.1 ?_; simp (disch := first | with_reducible assumption | omega | (simp only [ob_si, ar_si, ob_sl, ar_sl]; with_reducible assumption)) only [ci_0, ci_1, ci_10, ci_2, ci_3, ci_32, ci_6, cm_1, cm_9, inc_i, ldA_a, ldI_i, oc_201, oc_203, oc_236, oc_272, r_0, r_10, r_14, r_15, r_2, r_3, r_30, r_31, r_32, r_34, r_42, r_44, r_46, r_6, r_62, r_63, r_70, r_71, r_80_1, r_80_2, r_80_3, r_81_3, r_9, r_90, wpn_S, wpn_zero, stp_h, lk_0, lk_s, st1_0, st1_1, st1_2, st2_0, st2_1, st2_2, kj_i, kj_a, kj_l, kj_n, cat_n, cat_i, cat_a, cat_u, cat_l, vc_i, vc_a, rv_s, tl_n, tl_s, Cal'_s, List.length_cons, List.length_nil, i0, i1, iNd, iN_lt, iN_le, iN_eq, iN_add, iN_mul, iN_mod, iN_sub, iN_div, iN_clamp, iN_inb, zle_N, zlt_N, zN_le, zN_lt, zN_eq, Nz_eq, mI_t, mI_f, bI_0, bI_1, bI_t, bI_f, dltT, dltF, dleT, dleF, deqT, deqF, Nat.not_lt_zero, not_true_eq_false, not_false_eq_true, true_and, and_true, false_and, and_false, or_true, true_or, false_or, or_false, and_self, if_true, if_false, Classical.not_not, Nat.add_assoc, Nat.zero_add, Nat.add_zero, bI_or, bI_True, bI_False, Bool.false_eq_true, reduceCtorEq, eq_self, gi_si, gl_si, gr_si, hn_si, hL_si, hX_si, gi_sl, gl_sl, gr_sl, hn_sl, ob_si, ar_si, ob_sl, ar_sl, ks_273_0, ks_273_1, ks_273_2, ks_273_3, ks_273_4, ks_273_5, oO, oO, o_two_q hB hA hW, isT_N, o_wb0_q, o_in_q trivial, isP_in, hw, o_ref2_q hB, o_wb_q])
        exact hQ
  · refine op_refuse hs (k := 1) (by decide) (v := .int (zI (-1))) (fun h hB hI => Ret.up (d := 5) ?_ (by decide)) (fun h hB hI => Ret.up (d := 4) ?_ (by decide))
    · obtain ⟨oF, g0, g1, g2, g4, g5, g6, g7, g8, g9, g10, g11, g12, g13, o21, o22, o23, o28, o29, o32, o34, o36, oM⟩ := F_facts hB; obtain ⟨hA, iI, ⟨nx, hP⟩, hR, hL, hF, hT⟩ := id hI; have hW := hs.1; have hm : isM 1 := Or.inl rfl; have wN := hW.1
      refine Ret_L [some (.ref 0), some (.int a), some (.int b), some (.int c)] rfl rfl fun Q hQ => ?_
      (refine wp_go 600 ks_170_0.1 ?_; simp (disch := first | with_reducible assumption | omega | (simp only [ob_si, ar_si, ob_sl, ar_sl]; with_reducible assumption)) only [ci_0, ci_1, ci_2, ci_3, cm_1, cm_2, ldA_a, ldI_i, oc_191, oc_26, oc_69, oc_70, oc_71, r_0, r_2, r_32, r_6, r_62, r_80_2, r_80_3, r_80_4, r_81_1, r_90, r_99n, swk_nc, swk_nn, wpn_S, wpn_zero, stp_h, lk_0, lk_s, st1_0, st1_1, st1_2, st2_0, st2_1, st2_2, kj_i, kj_a, kj_l, kj_n, cat_n, cat_i, cat_a, cat_u, cat_l, vc_i, vc_a, rv_s, tl_n, tl_s, Cal'_s, List.length_cons, List.length_nil, i0, i1, iNd, iN_lt, iN_le, iN_eq, iN_add, iN_mul, iN_mod, iN_sub, iN_div, iN_clamp, iN_inb, zle_N, zlt_N, zN_le, zN_lt, zN_eq, Nz_eq, mI_t, mI_f, bI_0, bI_1, bI_t, bI_f, dltT, dltF, dleT, dleF, deqT, deqF, Nat.not_lt_zero, not_true_eq_false, not_false_eq_true, true_and, and_true, false_and, and_false, or_true, true_or, false_or, or_false, and_self, if_true, if_false, Classical.not_not, Nat.add_assoc, Nat.zero_add, Nat.add_zero, bI_or, bI_True, bI_False, Bool.false_eq_true, reduceCtorEq, eq_self, gi_si, gl_si, gr_si, hn_si, hL_si, hX_si, gi_sl, gl_sl, gr_sl, hn_sl, ob_si, ar_si, ob_sl, ar_sl, ks_170_0, ks_170_1, ks_170_2, oF, g0, g1, g2, g4, g5, g6, g7, g8, g9, g10, g11, g12, g13, o21, o22, o23, o28, o29, o32, o34, o36, oM, oM, c_areF_q hm hB hA hW, hT, c_ref1_q hB])
      exact hQ
    · have oO := (O_facts hB).1; obtain ⟨hA, hIr, f0⟩ := IO_0 hI; replace hB := Bs.si hB 87 7 (iN 0); have hW := hs.1; obtain ⟨oO2, rO1, rO2, rO3, rO4, rO5, rO8, aO1, aO2, aO3, aO4, aO5, aO8, sO1, sO2, sO3, sO4, sO5, sO8⟩ := O_facts hB; obtain ⟨fN, fD, fK, fF, fH, fM, fQ⟩ := id hA; obtain ⟨wN, wK, wF, wH, wM, wQ, wS, wZ, wT⟩ := id hW
      refine Ret_L [some (.ref 87), some (.int a), some (.int b), some (.int c), none, none, none, none, none, none] rfl rfl fun Q hQ => ?_
      (refine wp_go 600 ks_273_0.1 ?_; simp (disch := first | with_reducible assumption | omega | (simp only [ob_si, ar_si, ob_sl, ar_sl]; with_reducible assumption)) only [ci_0, ci_1, ci_10, ci_2, ci_3, ci_32, ci_6, cm_1, cm_9, inc_i, ldA_a, ldI_i, oc_201, oc_203, oc_236, oc_272, r_0, r_10, r_14, r_15, r_2, r_3, r_30, r_31, r_32, r_34, r_42, r_44, r_46, r_6, r_62, r_63, r_70, r_71, r_80_1, r_80_2, r_80_3, r_81_3, r_9, r_90, wpn_S, wpn_zero, stp_h, lk_0, lk_s, st1_0, st1_1, st1_2, st2_0, st2_1, st2_2, kj_i, kj_a, kj_l, kj_n, cat_n, cat_i, cat_a, cat_u, cat_l, vc_i, vc_a, rv_s, tl_n, tl_s, Cal'_s, List.length_cons, List.length_nil, i0, i1, iNd, iN_lt, iN_le, iN_eq, iN_add, iN_mul, iN_mod, iN_sub, iN_div, iN_clamp, iN_inb, zle_N, zlt_N, zN_le, zN_lt, zN_eq, Nz_eq, mI_t, mI_f, bI_0, bI_1, bI_t, bI_f, dltT, dltF, dleT, dleF, deqT, deqF, Nat.not_lt_zero, not_true_eq_false, not_false_eq_true, true_and, and_true, false_and, and_false, or_true, true_or, false_or, or_false, and_self, if_true, if_false, Classical.not_not, Nat.add_assoc, Nat.zero_add, Nat.add_zero, bI_or, bI_True, bI_False, Bool.false_eq_true, reduceCtorEq, eq_self, gi_si, gl_si, gr_si, hn_si, hL_si, hX_si, gi_sl, gl_sl, gr_sl, hn_sl, ob_si, ar_si, ob_sl, ar_sl, ks_273_0, ks_273_1, ks_273_2, ks_273_3, ks_273_4, ks_273_5, oO, oO, o_two_q hB hA hW, hT, o_ref1_q hB, o_wb_q])
      exact hQ
