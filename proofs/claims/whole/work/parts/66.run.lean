/-! the law's run -/
theorem and_63 (x : Int32) : ∃ w, w < 64 ∧ x &&& iN 63 = iN w := by
  refine ⟨x.toBitVec.toNat % 64, Nat.mod_lt _ (by decide), ?_⟩
  rw [← Int32.toBitVec_inj, Int32.toBitVec_and, iN_bv, iN_bv]
  apply BitVec.eq_of_toNat_eq
  rw [BitVec.toNat_and, BitVec.toNat_ofNat, BitVec.toNat_ofNat]
  rw [show 63 % 2 ^ 32 = 2 ^ 6 - 1 from rfl, Nat.and_two_pow_sub_one_eq_mod]
  have : x.toBitVec.toNat % 64 < 64 := Nat.mod_lt _ (by decide)
  rw [Nat.mod_eq_of_lt (show x.toBitVec.toNat % 64 < 2 ^ 32 by omega)]
set_option maxRecDepth 20000 in
set_option maxHeartbeats 8000000 in
theorem law_no {h : Hp} {k L w : Nat} {X : Nat → Int32} {Q : Option Value → Hp → Prop} (hI : LwI L X h) (hk : 7 * k + 7 ≤ L) (hl : L ≤ 3584) (hw : 44 ≤ w) (hw2 : w < 64) (hc : X (7 * k) &&& iN 63 = iN w) (hn : ∀ h', LwI L X h' → wp 40 301 18 (LwL (k + 1)) [] h' Q) : wp 40 301 18 (LwL k) [] h Q := by
  have hn := hn h hI
  obtain ⟨s, hG, hB, hC, hO, e1, x1⟩ := hI
  rw [show LwL (k + 1) = [some (.ref 999), some (.ref 0), some (.ref 87), some (.int (iN (7 * k + 7)))] from rfl] at hn
  change wp 40 301 18 [some (.ref 999), some (.ref 0), some (.ref 87), some (.int (iN (7 * k)))] [] h Q
  (refine wp_go 600 ks_301_0.2.2.2.2.2.2.2.2.2.2.1 ?_; simp (disch := first | with_reducible assumption | omega | (simp only [ob_si, ar_si, ob_sl, ar_sl]; with_reducible assumption)) only [ci_0, ci_1, ci_10, ci_11, ci_12, ci_13, ci_14, ci_15, ci_16, ci_17, ci_18, ci_19, ci_2, ci_20, ci_21, ci_22, ci_23, ci_24, ci_25, ci_26, ci_27, ci_28, ci_29, ci_3, ci_30, ci_31, ci_32, ci_33, ci_34, ci_35, ci_36, ci_37, ci_38, ci_39, ci_4, ci_40, ci_41, ci_42, ci_43, ci_5, ci_6, ci_63, ci_7, ci_8, ci_9, iN_l, inc_i, jN_add, jN_div, jN_eq, jN_le, jN_lt, jN_mod, jN_mul, jN_sub, l0, lc_eq, lc_ge, lc_gt, lc_le, lc_lt, ldA_a, ldI_i, oc_147, oc_148, oc_149, oc_150, oc_151, oc_152, oc_153, oc_154, oc_155, oc_156, oc_157, oc_158, oc_159, oc_160, oc_161, oc_162, oc_163, oc_164, oc_165, oc_166, oc_167, oc_168, oc_169, oc_170, oc_171, oc_172, oc_173, oc_174, oc_175, oc_176, oc_177, oc_178, oc_179, oc_180, oc_181, oc_182, oc_183, oc_184, oc_185, oc_186, oc_187, oc_188, oc_189, oc_190, oc_225, oc_233, oc_238, oc_239, oc_241, oc_242, oc_243, oc_244, oc_245, oc_246, oc_247, oc_248, oc_249, oc_251, oc_253, oc_254, oc_255, oc_259, oc_263, oc_264, oc_265, oc_267, oc_268, oc_270, oc_271, oc_273, oc_275, oc_278, oc_280, oc_281, oc_282, oc_283, oc_284, oc_285, oc_286, oc_287, oc_289, oc_290, oc_291, oc_292, oc_293, oc_294, oc_296, oc_297, r_0, r_10, r_11, r_13, r_2, r_26, r_3, r_30, r_31, r_41, r_45, r_5, r_50, r_6, r_77, r_78, r_80_1, r_80_2, r_80_3, r_80_4, r_80_7, r_82_1, r_9, r_91, r_95, r_99n, wpn_S, wpn_zero, stp_h, lk_0, lk_s, st1_0, st1_1, st1_2, st2_0, st2_1, st2_2, kj_i, kj_a, kj_l, kj_n, cat_n, cat_i, cat_a, cat_u, cat_l, vc_i, vc_a, rv_s, tl_n, tl_s, Cal'_s, List.length_cons, List.length_nil, i0, i1, iNd, iN_lt, iN_le, iN_eq, iN_add, iN_mul, iN_mod, iN_sub, iN_div, iN_clamp, iN_inb, zle_N, zlt_N, zN_le, zN_lt, zN_eq, Nz_eq, mI_t, mI_f, bI_0, bI_1, bI_t, bI_f, dltT, dltF, dleT, dleF, deqT, deqF, Nat.not_lt_zero, not_true_eq_false, not_false_eq_true, true_and, and_true, false_and, and_false, or_true, true_or, false_or, or_false, and_self, if_true, if_false, Classical.not_not, Nat.add_assoc, Nat.zero_add, Nat.add_zero, bI_or, bI_True, bI_False, Bool.false_eq_true, reduceCtorEq, eq_self, gi_si, gl_si, gr_si, hn_si, hL_si, hX_si, gi_sl, gl_sl, gr_sl, hn_sl, ob_si, ar_si, ob_sl, ar_sl, ks_301_0, ks_301_1, ks_301_2, ks_301_3, ks_301_4, ks_301_5, ks_301_6, ks_301_7, ks_301_8, ks_301_9, ks_301_10, ks_301_11, ks_301_12, ks_301_13, ks_301_14, ks_301_15, ks_301_16, ks_301_17, ks_301_18, ks_301_19, ks_301_20, ks_301_21, ks_301_22, ks_301_23, ks_301_24, ks_301_25, ks_301_26, ks_301_27, ks_301_28, ks_301_29, ks_301_30, ks_301_31, ks_301_32, ks_301_33, ks_301_34, ks_301_35, ks_301_36, ks_301_37, ks_301_38, ks_301_39, e1, x1, hc, iN_inb, iNd, swl_no])
  exact hn
theorem law_all {h : Hp} {k L : Nat} {X : Nat → Int32} {Q : Option Value → Hp → Prop} (hI : LwI L X h) (hk : 7 * k + 7 ≤ L) (hl : L ≤ 3584) (hn : ∀ h', LwI L X h' → wp 40 301 18 (LwL (k + 1)) [] h' Q) : wp 40 301 18 (LwL k) [] h Q := by
  obtain ⟨w, hw, hc⟩ := and_63 (X (7 * k))
  by_cases h44 : 44 ≤ w
  · exact law_no hI hk hl h44 hw hc hn
  · rcases (show w = 0 ∨ w = 1 ∨ w = 2 ∨ w = 3 ∨ w = 4 ∨ w = 5 ∨ w = 6 ∨ w = 7 ∨ w = 8 ∨ w = 9 ∨ w = 10 ∨ w = 11 ∨ w = 12 ∨ w = 13 ∨ w = 14 ∨ w = 15 ∨ w = 16 ∨ w = 17 ∨ w = 18 ∨ w = 19 ∨ w = 20 ∨ w = 21 ∨ w = 22 ∨ w = 23 ∨ w = 24 ∨ w = 25 ∨ w = 26 ∨ w = 27 ∨ w = 28 ∨ w = 29 ∨ w = 30 ∨ w = 31 ∨ w = 32 ∨ w = 33 ∨ w = 34 ∨ w = 35 ∨ w = 36 ∨ w = 37 ∨ w = 38 ∨ w = 39 ∨ w = 40 ∨ w = 41 ∨ w = 42 ∨ w = 43 by omega) with rfl | rfl | rfl | rfl | rfl | rfl | rfl | rfl | rfl | rfl | rfl | rfl | rfl | rfl | rfl | rfl | rfl | rfl | rfl | rfl | rfl | rfl | rfl | rfl | rfl | rfl | rfl | rfl | rfl | rfl | rfl | rfl | rfl | rfl | rfl | rfl | rfl | rfl | rfl | rfl | rfl | rfl | rfl | rfl
    · exact law_0 hI hk hl hc hn
    · exact law_1 hI hk hl hc hn
    · exact law_2 hI hk hl hc hn
    · exact law_3 hI hk hl hc hn
    · exact law_4 hI hk hl hc hn
    · exact law_5 hI hk hl hc hn
    · exact law_6 hI hk hl hc hn
    · exact law_7 hI hk hl hc hn
    · exact law_8 hI hk hl hc hn
    · exact law_9 hI hk hl hc hn
    · exact law_10 hI hk hl hc hn
    · exact law_11 hI hk hl hc hn
    · exact law_12 hI hk hl hc hn
    · exact law_13 hI hk hl hc hn
    · exact law_14 hI hk hl hc hn
    · exact law_15 hI hk hl hc hn
    · exact law_16 hI hk hl hc hn
    · exact law_17 hI hk hl hc hn
    · exact law_18 hI hk hl hc hn
    · exact law_19 hI hk hl hc hn
    · exact law_20 hI hk hl hc hn
    · exact law_21 hI hk hl hc hn
    · exact law_22 hI hk hl hc hn
    · exact law_23 hI hk hl hc hn
    · exact law_24 hI hk hl hc hn
    · exact law_25 hI hk hl hc hn
    · exact law_26 hI hk hl hc hn
    · exact law_27 hI hk hl hc hn
    · exact law_28 hI hk hl hc hn
    · exact law_29 hI hk hl hc hn
    · exact law_30 hI hk hl hc hn
    · exact law_31 hI hk hl hc hn
    · exact law_32 hI hk hl hc hn
    · exact law_33 hI hk hl hc hn
    · exact law_34 hI hk hl hc hn
    · exact law_35 hI hk hl hc hn
    · exact law_36 hI hk hl hc hn
    · exact law_37 hI hk hl hc hn
    · exact law_38 hI hk hl hc hn
    · exact law_39 hI hk hl hc hn
    · exact law_40 hI hk hl hc hn
    · exact law_41 hI hk hl hc hn
    · exact law_42 hI hk hl hc hn
    · exact law_43 hI hk hl hc hn
noncomputable def xm0 : Mt := (0, iN 0, fun _ => 0, fun _ => 0, fun _ => 0, fun _ => 0, fun _ _ => 0)
noncomputable def gs0 : Gs := (xm0, none, [], (0, fun _ => 0), (0, fun _ => 0), fun _ => iN 0)
theorem wf_0 : Wf xm0 := ⟨by decide, fun _ => by show 0 < 6; decide, fun _ => by show 0 < 10; decide, fun _ => by show 0 < 32; decide, fun _ => by show 0 ≤ 6; decide, fun _ _ => by show 0 ≤ 99; decide, fun _ _ => rfl, fun _ _ _ => rfl, fun i hi => absurd hi (Nat.not_lt_zero i)⟩
theorem gw_0 : GW gs0 := by
  refine ⟨wf_0, fun y e => ?_, fun y e => ?_, ⟨by decide, fun _ => by show 0 ≤ 99; decide⟩, by decide, fun _ => by show 0 ≤ 255; decide⟩
  · have e : (none : Option Mt) = some y := e
    cases e
  · have e : y ∈ ([] : List Mt) := e
    cases e
theorem OL_all : ∀ q ∈ grT, ¬ q.1 < 87 → q ∈ OL := by decide +kernel
theorem law_0s {L : Nat} (X : Nat → Int32) : ∃ h1 h2, Ret 14 146 [.ref 0] (hnew (h00 L X)) none h1 ∧ hn h1 = 87 ∧ Ret 14 199 [.ref 87] (hnew h1) none h2 ∧ LwI L X h2 := by
  have Z0 : ZR (h00 L X) 0 [] L X := ⟨⟨rfl, fun o k _ => i0, fun o k => l0, rfl, rfl⟩, fun q hq => by cases hq⟩
  obtain ⟨h1, l, r1, Z1, hl, hg⟩ := i_F Z0.new
  obtain ⟨h2, r2, Z2, e28⟩ := i_O Z1.new hl
  obtain ⟨⟨z1, z2, z3, z4, z5⟩, z6⟩ := Z2
  have hB : Bs h2 := by
    refine ⟨z1, fun q hq => ?_⟩
    have hm : q ∈ OL ++ l := by
      by_cases h87 : q.1 < 87
      · exact List.mem_append.mpr (Or.inr (hg q hq h87))
      · exact List.mem_append.mpr (Or.inl (OL_all q hq h87))
    exact (z6 q hm).1
  have zi : ∀ o k, ¬ o = 87 → gi h2 o k = iN 0 := fun o k e => z2 o k (fun q => e q.1)
  have zf : ∀ k, ¬ k = 28 → gi h2 87 k = iN 0 := fun k e => z2 87 k (fun q => e q.2)
  have zA : ∀ m, isM m → At h2 m xm0 := fun m hm => by
    have hne : m + 5 < 87 := by unfold isM at hm; omega
    refine ⟨zi _ _ (by omega), zi _ _ (by omega), fun i _ => zi _ _ (by omega), fun i _ => zi _ _ (by omega), fun i _ => zi _ _ (by omega), fun i _ => ?_, fun i j _ _ => zi _ _ (by omega)⟩
    rw [zi _ _ (by omega)]
    exact (mI_t (by decide)).symm
  refine ⟨h1, h2, Ret.up r1 (by decide), Z1.n, Ret.up r2 (by decide), gs0, gw_0, hB, ?_, ?_, z4, z5⟩
  · refine ⟨zA 1 (Or.inl rfl), zi _ _ (by omega), ⟨0, zi _ _ (by omega), zi _ _ (by omega), by omega, Nat.zero_le _, fun k hk => absurd hk (Nat.not_lt_zero k)⟩, ⟨zi _ _ (by omega), fun k _ => zi _ _ (by omega)⟩, ⟨zi _ _ (by omega), fun k _ => zi _ _ (by omega)⟩, fun k _ => zi _ _ (by omega), fun r _ => z3 31 r⟩
  · refine ⟨⟨zf _ (by omega), zf _ (by omega), fun i _ => zi _ _ (by omega), fun i _ => zi _ _ (by omega), fun i _ => zi _ _ (by omega), fun i _ => ?_, fun i j _ _ => zi _ _ (by omega)⟩, zf _ (by omega), ⟨zf _ (by omega), Nat.zero_le _, fun k hk => absurd hk (Nat.not_lt_zero k)⟩, ⟨zf _ (by omega), fun k _ => zi _ _ (by omega)⟩, ⟨zf _ (by omega), fun k _ => zi _ _ (by omega)⟩, fun k _ => zi _ _ (by omega), Or.inl e28⟩
    rw [zi _ _ (by omega)]
    exact (mI_t (by decide)).symm
set_option maxRecDepth 20000 in
set_option maxHeartbeats 8000000 in
theorem law_run : LawRun := by
  intro L X hl
  obtain ⟨h1, h2, r1, n1, r2, hI⟩ := law_0s (L := L) X
  have key : ∀ Q : Option Value → Hp → Prop, (∀ h', hn h' = 105 → Q (some (.int (iN 1))) h') → wp 40 301 0 [some (.ref 999), none, none, none] [] (h00 L X) Q := by
    intro Q hQ
    have n0 : hn (h00 L X) = 0 := rfl
    have s0 : SH 0 = (0, 11) := by decide
    have s87 : SH 87 = (0, 12) := by decide
    have main : wp 40 301 18 (LwL 0) [] h2 Q := by
      refine wp_loop (fun k L1 h' => LwI L X h' ∧ L1 = LwL k) (L / 7) ?_ ?_ (L / 7) 0 _ h2 (by omega) ⟨hI, rfl⟩
      · rintro k L1 h' hk ⟨hI, rfl⟩ hnx
        exact law_all hI (by omega) hl fun h3 hI3 => hnx _ h3 ⟨hI3, rfl⟩
      · rintro L1 h' ⟨⟨s, hG, hB, hC, hO, e1, x1⟩, rfl⟩
        have hQ := hQ h' hB.1
        change wp 40 301 18 [some (.ref 999), some (.ref 0), some (.ref 87), some (.int (iN (7 * (L / 7))))] [] h' Q
        by_cases h7 : 7 ≤ L
        · have hlt : (iN (L - 7) < iN (7 * (L / 7))) = True := by
            rw [iN_lt (by omega) (by omega)]
            exact eq_true (by omega)
          (refine wp_go 600 ks_301_0.2.2.2.2.2.2.2.2.2.2.1 ?_; simp (disch := first | with_reducible assumption | omega | (simp only [ob_si, ar_si, ob_sl, ar_sl]; with_reducible assumption)) only [ci_0, ci_1, ci_10, ci_11, ci_12, ci_13, ci_14, ci_15, ci_16, ci_17, ci_18, ci_19, ci_2, ci_20, ci_21, ci_22, ci_23, ci_24, ci_25, ci_26, ci_27, ci_28, ci_29, ci_3, ci_30, ci_31, ci_32, ci_33, ci_34, ci_35, ci_36, ci_37, ci_38, ci_39, ci_4, ci_40, ci_41, ci_42, ci_43, ci_5, ci_6, ci_63, ci_7, ci_8, ci_9, iN_l, inc_i, jN_add, jN_div, jN_eq, jN_le, jN_lt, jN_mod, jN_mul, jN_sub, l0, lc_eq, lc_ge, lc_gt, lc_le, lc_lt, ldA_a, ldI_i, oc_147, oc_148, oc_149, oc_150, oc_151, oc_152, oc_153, oc_154, oc_155, oc_156, oc_157, oc_158, oc_159, oc_160, oc_161, oc_162, oc_163, oc_164, oc_165, oc_166, oc_167, oc_168, oc_169, oc_170, oc_171, oc_172, oc_173, oc_174, oc_175, oc_176, oc_177, oc_178, oc_179, oc_180, oc_181, oc_182, oc_183, oc_184, oc_185, oc_186, oc_187, oc_188, oc_189, oc_190, oc_225, oc_233, oc_238, oc_239, oc_241, oc_242, oc_243, oc_244, oc_245, oc_246, oc_247, oc_248, oc_249, oc_251, oc_253, oc_254, oc_255, oc_259, oc_263, oc_264, oc_265, oc_267, oc_268, oc_270, oc_271, oc_273, oc_275, oc_278, oc_280, oc_281, oc_282, oc_283, oc_284, oc_285, oc_286, oc_287, oc_289, oc_290, oc_291, oc_292, oc_293, oc_294, oc_296, oc_297, r_0, r_10, r_11, r_13, r_2, r_26, r_3, r_30, r_31, r_41, r_45, r_5, r_50, r_6, r_77, r_78, r_80_1, r_80_2, r_80_3, r_80_4, r_80_7, r_82_1, r_9, r_91, r_95, wpn_S, wpn_zero, stp_h, lk_0, lk_s, st1_0, st1_1, st1_2, st2_0, st2_1, st2_2, kj_i, kj_a, kj_l, kj_n, cat_n, cat_i, cat_a, cat_u, cat_l, vc_i, vc_a, rv_s, tl_n, tl_s, Cal'_s, List.length_cons, List.length_nil, i0, i1, iNd, iN_le, iN_eq, iN_add, iN_mul, iN_mod, iN_sub, iN_div, iN_clamp, iN_inb, zle_N, zlt_N, zN_le, zN_lt, zN_eq, Nz_eq, mI_t, mI_f, bI_0, bI_1, bI_t, bI_f, dltT, dltF, dleT, dleF, deqT, deqF, Nat.not_lt_zero, not_true_eq_false, not_false_eq_true, true_and, and_true, false_and, and_false, or_true, true_or, false_or, or_false, and_self, if_true, if_false, Classical.not_not, Nat.add_assoc, Nat.zero_add, Nat.add_zero, bI_or, bI_True, bI_False, Bool.false_eq_true, reduceCtorEq, eq_self, gi_si, gl_si, gr_si, hn_si, hL_si, hX_si, gi_sl, gl_sl, gr_sl, hn_sl, ob_si, ar_si, ob_sl, ar_sl, ks_301_0, ks_301_1, ks_301_2, ks_301_3, ks_301_4, ks_301_5, ks_301_6, ks_301_7, ks_301_8, ks_301_9, ks_301_10, ks_301_11, ks_301_12, ks_301_13, ks_301_14, ks_301_15, ks_301_16, ks_301_17, ks_301_18, ks_301_19, ks_301_20, ks_301_21, ks_301_22, ks_301_23, ks_301_24, ks_301_25, ks_301_26, ks_301_27, ks_301_28, ks_301_29, ks_301_30, ks_301_31, ks_301_32, ks_301_33, ks_301_34, ks_301_35, ks_301_36, ks_301_37, ks_301_38, ks_301_39, e1, hlt, iNd])
          exact hQ
        · have hlt : (zI ((L : Int) - ((7 : Nat) : Int)) < iN (7 * (L / 7))) = True := zlt_N (by omega) (by omega) (by omega)
          (refine wp_go 600 ks_301_0.2.2.2.2.2.2.2.2.2.2.1 ?_; simp (disch := first | with_reducible assumption | omega | (simp only [ob_si, ar_si, ob_sl, ar_sl]; with_reducible assumption)) only [ci_0, ci_1, ci_10, ci_11, ci_12, ci_13, ci_14, ci_15, ci_16, ci_17, ci_18, ci_19, ci_2, ci_20, ci_21, ci_22, ci_23, ci_24, ci_25, ci_26, ci_27, ci_28, ci_29, ci_3, ci_30, ci_31, ci_32, ci_33, ci_34, ci_35, ci_36, ci_37, ci_38, ci_39, ci_4, ci_40, ci_41, ci_42, ci_43, ci_5, ci_6, ci_63, ci_7, ci_8, ci_9, iN_l, inc_i, jN_add, jN_div, jN_eq, jN_le, jN_lt, jN_mod, jN_mul, jN_sub, l0, lc_eq, lc_ge, lc_gt, lc_le, lc_lt, ldA_a, ldI_i, oc_147, oc_148, oc_149, oc_150, oc_151, oc_152, oc_153, oc_154, oc_155, oc_156, oc_157, oc_158, oc_159, oc_160, oc_161, oc_162, oc_163, oc_164, oc_165, oc_166, oc_167, oc_168, oc_169, oc_170, oc_171, oc_172, oc_173, oc_174, oc_175, oc_176, oc_177, oc_178, oc_179, oc_180, oc_181, oc_182, oc_183, oc_184, oc_185, oc_186, oc_187, oc_188, oc_189, oc_190, oc_225, oc_233, oc_238, oc_239, oc_241, oc_242, oc_243, oc_244, oc_245, oc_246, oc_247, oc_248, oc_249, oc_251, oc_253, oc_254, oc_255, oc_259, oc_263, oc_264, oc_265, oc_267, oc_268, oc_270, oc_271, oc_273, oc_275, oc_278, oc_280, oc_281, oc_282, oc_283, oc_284, oc_285, oc_286, oc_287, oc_289, oc_290, oc_291, oc_292, oc_293, oc_294, oc_296, oc_297, r_0, r_10, r_11, r_13, r_2, r_26, r_3, r_30, r_31, r_41, r_45, r_5, r_50, r_6, r_77, r_78, r_80_1, r_80_2, r_80_3, r_80_4, r_80_7, r_82_1, r_9, r_91, r_95, wpn_S, wpn_zero, stp_h, lk_0, lk_s, st1_0, st1_1, st1_2, st2_0, st2_1, st2_2, kj_i, kj_a, kj_l, kj_n, cat_n, cat_i, cat_a, cat_u, cat_l, vc_i, vc_a, rv_s, tl_n, tl_s, Cal'_s, List.length_cons, List.length_nil, i0, i1, iNd, iN_le, iN_eq, iN_add, iN_mul, iN_mod, iN_div, iN_clamp, iN_inb, zle_N, zN_le, zN_lt, zN_eq, Nz_eq, mI_t, mI_f, bI_0, bI_1, bI_t, bI_f, dltT, dltF, dleT, dleF, deqT, deqF, Nat.not_lt_zero, not_true_eq_false, not_false_eq_true, true_and, and_true, false_and, and_false, or_true, true_or, false_or, or_false, and_self, if_true, if_false, Classical.not_not, Nat.add_assoc, Nat.zero_add, Nat.add_zero, bI_or, bI_True, bI_False, Bool.false_eq_true, reduceCtorEq, eq_self, gi_si, gl_si, gr_si, hn_si, hL_si, hX_si, gi_sl, gl_sl, gr_sl, hn_sl, ob_si, ar_si, ob_sl, ar_sl, ks_301_0, ks_301_1, ks_301_2, ks_301_3, ks_301_4, ks_301_5, ks_301_6, ks_301_7, ks_301_8, ks_301_9, ks_301_10, ks_301_11, ks_301_12, ks_301_13, ks_301_14, ks_301_15, ks_301_16, ks_301_17, ks_301_18, ks_301_19, ks_301_20, ks_301_21, ks_301_22, ks_301_23, ks_301_24, ks_301_25, ks_301_26, ks_301_27, ks_301_28, ks_301_29, ks_301_30, ks_301_31, ks_301_32, ks_301_33, ks_301_34, ks_301_35, ks_301_36, ks_301_37, ks_301_38, ks_301_39, e1, hlt, NN_sub, iNd])
          exact hQ
    rw [show LwL 0 = [some (.ref 999), some (.ref 0), some (.ref 87), some (.int (iN 0))] from rfl] at main
    (refine wp_go 600 ks_301_0.1 ?_; simp (disch := first | with_reducible assumption | omega | (simp only [ob_si, ar_si, ob_sl, ar_sl]; with_reducible assumption)) only [ci_0, ci_1, ci_10, ci_11, ci_12, ci_13, ci_14, ci_15, ci_16, ci_17, ci_18, ci_19, ci_2, ci_20, ci_21, ci_22, ci_23, ci_24, ci_25, ci_26, ci_27, ci_28, ci_29, ci_3, ci_30, ci_31, ci_32, ci_33, ci_34, ci_35, ci_36, ci_37, ci_38, ci_39, ci_4, ci_40, ci_41, ci_42, ci_43, ci_5, ci_6, ci_63, ci_7, ci_8, ci_9, iN_l, inc_i, jN_add, jN_div, jN_eq, jN_le, jN_lt, jN_mod, jN_mul, jN_sub, l0, lc_eq, lc_ge, lc_gt, lc_le, lc_lt, ldA_a, ldI_i, oc_147, oc_148, oc_149, oc_150, oc_151, oc_152, oc_153, oc_154, oc_155, oc_156, oc_157, oc_158, oc_159, oc_160, oc_161, oc_162, oc_163, oc_164, oc_165, oc_166, oc_167, oc_168, oc_169, oc_170, oc_171, oc_172, oc_173, oc_174, oc_175, oc_176, oc_177, oc_178, oc_179, oc_180, oc_181, oc_182, oc_183, oc_184, oc_185, oc_186, oc_187, oc_188, oc_189, oc_190, oc_225, oc_233, oc_238, oc_239, oc_241, oc_242, oc_243, oc_244, oc_245, oc_246, oc_247, oc_248, oc_249, oc_251, oc_253, oc_254, oc_255, oc_259, oc_263, oc_264, oc_265, oc_267, oc_268, oc_270, oc_271, oc_273, oc_275, oc_278, oc_280, oc_281, oc_282, oc_283, oc_284, oc_285, oc_286, oc_287, oc_289, oc_290, oc_291, oc_292, oc_293, oc_294, oc_296, oc_297, r_0, r_10, r_11, r_13, r_2, r_26, r_3, r_30, r_31, r_41, r_45, r_5, r_50, r_6, r_77, r_78, r_80_1, r_80_2, r_80_3, r_80_4, r_80_7, r_82_1, r_9, r_91, r_95, r_99n, swk_nc, swk_nn, wpn_S, wpn_zero, stp_h, lk_0, lk_s, st1_0, st1_1, st1_2, st2_0, st2_1, st2_2, kj_i, kj_a, kj_l, kj_n, cat_n, cat_i, cat_a, cat_u, cat_l, vc_i, vc_a, rv_s, tl_n, tl_s, Cal'_s, List.length_cons, List.length_nil, i0, i1, iNd, iN_lt, iN_le, iN_eq, iN_add, iN_mul, iN_mod, iN_sub, iN_div, iN_clamp, iN_inb, zle_N, zlt_N, zN_le, zN_lt, zN_eq, Nz_eq, mI_t, mI_f, bI_0, bI_1, bI_t, bI_f, dltT, dltF, dleT, dleF, deqT, deqF, Nat.not_lt_zero, not_true_eq_false, not_false_eq_true, true_and, and_true, false_and, and_false, or_true, true_or, false_or, or_false, and_self, if_true, if_false, Classical.not_not, Nat.add_assoc, Nat.zero_add, Nat.add_zero, bI_or, bI_True, bI_False, Bool.false_eq_true, reduceCtorEq, eq_self, gi_si, gl_si, gr_si, hn_si, hL_si, hX_si, gi_sl, gl_sl, gr_sl, hn_sl, ob_si, ar_si, ob_sl, ar_sl, ks_301_0, ks_301_1, ks_301_2, ks_301_3, ks_301_4, ks_301_5, ks_301_6, ks_301_7, ks_301_8, ks_301_9, ks_301_10, ks_301_11, ks_301_12, ks_301_13, ks_301_14, ks_301_15, ks_301_16, ks_301_17, ks_301_18, ks_301_19, ks_301_20, ks_301_21, ks_301_22, ks_301_23, ks_301_24, ks_301_25, ks_301_26, ks_301_27, ks_301_28, ks_301_29, ks_301_30, ks_301_31, ks_301_32, ks_301_33, ks_301_34, ks_301_35, ks_301_36, ks_301_37, ks_301_38, ks_301_39, n0, n1, hn_new, s0, s87, Cal_eq r1, Cal_eq r2])
    exact main
  obtain ⟨v, h', r, rfl, e⟩ := Ret_ex (d := 40) (y := 301) (as := [.ref 999]) [some (.ref 999), none, none, none] rfl rfl (key (fun v h' => v = some (.int (iN 1)) ∧ hn h' = 105) fun h' a => ⟨rfl, a⟩)
  refine ⟨h', ?_, e⟩
  rw [← i1] at r
  exact r
