/-! what can be taken back: the class -/
noncomputable def Pc (h : Hp) (nx : Nat) (ps : List Mt) : Prop := gi h 36 1 = iN nx ∧ gi h 36 2 = iN ps.length ∧ nx < 8 ∧ ps.length ≤ 8 ∧ ∀ k, (hk : k < ps.length) → At h (38 + 6 * ((nx + 7 - k) % 8)) ps[k]
theorem isM_p {p : Nat} (hp : p < 8) : isM (38 + 6 * p) := by unfold isM; omega
theorem mem_37 : ∀ p < 8, (37, p, 38 + 6 * p) ∈ grT := by decide
theorem P_facts {h : Hp} (hB : Bs h) : ob h 36 6 ∧ gr h 36 0 = some 37 ∧ ar h 3 37 ∧ (SH 37).2 = 8 ∧ ∀ p, p < 8 → gr h 37 p = some (38 + 6 * p) := ⟨hB.ob (by decide) (by decide), hB.r (by decide), hB.ar (by decide) (by decide), by decide, fun p hp => hB.r (mem_37 p hp)⟩
theorem t_at {h : Hp} {p : Nat} (hB : Bs h) (hp : p < 8) : Ret 0 93 [.ref 36, .int (iN p)] h (some (.ref (38 + 6 * p))) h := by
  obtain ⟨oT, rT, aT, sT, pT⟩ := P_facts hB
  have e := pT p hp
  refine Ret_L [some (.ref 36), some (.int (iN p))] rfl rfl fun Q hQ => ?_
  (refine wp_go 600 ks_93_0.1 ?_; simp (disch := first | assumption | (simp only [ob_si, ar_si, ob_sl, ar_sl]; assumption) | omega) only [ldA_a, ldI_i, r_0, r_2, r_30, r_33, r_44, r_62, r_74, r_76, r_8, r_93a, r_93b, wpn_S, wpn_zero, stp_h, lk_0, lk_s, st1_0, st1_1, st1_2, st2_0, st2_1, st2_2, kj_i, kj_a, kj_l, kj_n, cat_n, cat_i, cat_a, cat_u, cat_l, vc_i, vc_a, rv_s, tl_n, tl_s, Cal'_s, List.length_cons, List.length_nil, i0, i1, iNd, iN_lt, iN_le, iN_eq, iN_add, iN_mul, iN_mod, iN_sub, iN_div, iN_clamp, iN_inb, zle_N, zlt_N, zN_le, zN_lt, zN_eq, Nz_eq, mI_t, mI_f, bI_0, bI_1, bI_t, bI_f, dltT, dltF, dleT, dleF, deqT, deqF, Nat.not_lt_zero, not_true_eq_false, not_false_eq_true, true_and, and_true, false_and, and_false, or_true, true_or, false_or, or_false, and_self, if_true, if_false, Classical.not_not, Nat.add_assoc, Nat.zero_add, Nat.add_zero, bI_or, bI_True, bI_False, Bool.false_eq_true, reduceCtorEq, eq_self, gi_si, gl_si, gr_si, hn_si, hL_si, hX_si, gi_sl, gl_sl, gr_sl, hn_sl, ob_si, ar_si, ob_sl, ar_sl, ks_93_0, oT, rT, aT, aT.1, aT.2, sT, e])
  exact hQ
theorem t_copy {h : Hp} {m p : Nat} {x : Mt} (hm : isM m) (hp : isM p) (hd : m + 5 < p ∨ p + 5 < m) (hB : Bs h) (hA : At h p x) : ∃ h', Ret 2 94 [.ref p, .ref m] h none h' ∧ At h' m x ∧ Fr (Sm m) h h' := by
  obtain ⟨h1, r1, A1, f1⟩ := w_copy hm hp hd hB hA
  have oM := (M_facts hm hB).1
  refine ⟨h1, ?_, A1, f1⟩
  refine Ret_L [some (.ref p), some (.ref m)] rfl rfl fun Q hQ => ?_
  (refine wp_go 600 ks_94_0.1 ?_; simp (disch := first | assumption | (simp only [ob_si, ar_si, ob_sl, ar_sl]; assumption) | omega) only [ldA_a, oc_21, r_2, r_47a, r_47b, r_80_2, r_94, wpn_S, wpn_zero, stp_h, lk_0, lk_s, st1_0, st1_1, st1_2, st2_0, st2_1, st2_2, kj_i, kj_a, kj_l, kj_n, cat_n, cat_i, cat_a, cat_u, cat_l, vc_i, vc_a, rv_s, tl_n, tl_s, Cal'_s, List.length_cons, List.length_nil, i0, i1, iNd, iN_lt, iN_le, iN_eq, iN_add, iN_mul, iN_mod, iN_sub, iN_div, iN_clamp, iN_inb, zle_N, zlt_N, zN_le, zN_lt, zN_eq, Nz_eq, mI_t, mI_f, bI_0, bI_1, bI_t, bI_f, dltT, dltF, dleT, dleF, deqT, deqF, Nat.not_lt_zero, not_true_eq_false, not_false_eq_true, true_and, and_true, false_and, and_false, or_true, true_or, false_or, or_false, and_self, if_true, if_false, Classical.not_not, Nat.add_assoc, Nat.zero_add, Nat.add_zero, bI_or, bI_True, bI_False, Bool.false_eq_true, reduceCtorEq, eq_self, gi_si, gl_si, gr_si, hn_si, hL_si, hX_si, gi_sl, gl_sl, gr_sl, hn_sl, ob_si, ar_si, ob_sl, ar_sl, ks_94_0, oM, Cal_eq r1])
  exact hQ
noncomputable def Sx : Nat → Prop := fun o => 36 ≤ o ∧ o ≤ 85
theorem t_keep {h : Hp} {nx : Nat} {ps : List Mt} {x : Mt} (hB : Bs h) (hA : At h 1 x) (hP : Pc h nx ps) : ∃ h', Ret 3 88 [.ref 36, .ref 1] h none h' ∧ Pc h' ((nx + 1) % 8) ((x :: ps).take 8) ∧ Fr Sx h h' := by
  obtain ⟨p1, p2, p3, p4, p5⟩ := hP
  obtain ⟨oT, rT, aT, sT, pT⟩ := P_facts hB
  have r1 := t_at hB p3
  obtain ⟨h2, r2, A2, f2⟩ := t_copy (m := 38 + 6 * nx) (p := 1) (isM_p p3) (Or.inl rfl) (by omega) hB hA
  have B2 := f2.bs hB
  have oT2 := (P_facts B2).1
  have e36 := f2.i (o := 36) (by unfold Sm; omega)
  have g1 : gi h2 36 1 = iN nx := by rw [e36]; exact p1
  have g2 : gi h2 36 2 = iN ps.length := by rw [e36]; exact p2
  have fS : Fr Sx h h2 := f2.mono fun o ho => by unfold Sm at ho; unfold Sx; omega
  have hlen : ((x :: ps).take 8).length = min 8 (ps.length + 1) := by rw [List.length_take, List.length_cons]
  refine ⟨si (si h2 36 1 (iN ((nx + 1) % 8))) 36 2 (iN ((x :: ps).take 8).length), ?_, ⟨?_, ?_, Nat.mod_lt _ (by decide), by omega, ?_⟩, (fS.si (by unfold Sx; omega) _ _).si (by unfold Sx; omega) _ _⟩
  · refine Ret_L [some (.ref 36), some (.ref 1)] rfl rfl fun Q hQ => ?_
    rw [hlen] at hQ
    by_cases hc : ps.length + 1 < 8
    · rw [show min 8 (ps.length + 1) = ps.length + 1 by omega] at hQ
      (refine wp_go 600 ks_88_0.1 ?_; simp (disch := first | assumption | (simp only [ob_si, ar_si, ob_sl, ar_sl]; assumption) | omega) only [ci_1, ci_8, ldA_a, oc_93, r_10, r_2, r_20, r_54, r_6, r_60, r_63, r_80_2, r_81_2, r_94, wpn_S, wpn_zero, stp_h, lk_0, lk_s, st1_0, st1_1, st1_2, st2_0, st2_1, st2_2, kj_i, kj_a, kj_l, kj_n, cat_n, cat_i, cat_a, cat_u, cat_l, vc_i, vc_a, rv_s, tl_n, tl_s, Cal'_s, List.length_cons, List.length_nil, i0, i1, iNd, iN_lt, iN_le, iN_eq, iN_add, iN_mul, iN_mod, iN_div, iN_clamp, iN_inb, zle_N, zlt_N, zN_le, zN_lt, zN_eq, Nz_eq, mI_t, mI_f, bI_0, bI_1, bI_t, bI_f, dltT, dltF, dleT, dleF, deqT, deqF, Nat.not_lt_zero, not_true_eq_false, not_false_eq_true, true_and, and_true, false_and, and_false, or_true, true_or, false_or, or_false, and_self, if_true, if_false, Classical.not_not, Nat.add_assoc, Nat.zero_add, Nat.add_zero, bI_or, bI_True, bI_False, Bool.false_eq_true, reduceCtorEq, eq_self, gi_si, gl_si, gr_si, hn_si, hL_si, hX_si, gi_sl, gl_sl, gr_sl, hn_sl, ob_si, ar_si, ob_sl, ar_sl, ks_88_0, oT, p1, Cal_eq r1, Cal_eq r2, oT2, g1, g2, up_f, up_t])
      exact hQ
    · rw [show min 8 (ps.length + 1) = 8 by omega] at hQ
      have en : (if 8 < ps.length + 1 then iN 8 else iN (ps.length + 1)) = iN 8 := by
        split
        · rfl
        · rw [show ps.length + 1 = 8 by omega]
      (refine wp_go 600 ks_88_0.1 ?_; simp (disch := first | assumption | (simp only [ob_si, ar_si, ob_sl, ar_sl]; assumption) | omega) only [ci_1, ci_8, ldA_a, oc_93, r_10, r_2, r_20, r_54, r_6, r_60, r_63, r_80_2, r_81_2, r_94, wpn_S, wpn_zero, stp_h, lk_0, lk_s, st1_0, st1_1, st1_2, st2_0, st2_1, st2_2, kj_i, kj_a, kj_l, kj_n, cat_n, cat_i, cat_a, cat_u, cat_l, vc_i, vc_a, rv_s, tl_n, tl_s, Cal'_s, List.length_cons, List.length_nil, i0, i1, iNd, iN_lt, iN_le, iN_eq, iN_add, iN_mul, iN_mod, iN_div, iN_clamp, iN_inb, zle_N, zlt_N, zN_le, zN_lt, zN_eq, Nz_eq, mI_t, mI_f, bI_0, bI_1, bI_t, bI_f, dltT, dltF, dleT, dleF, deqT, deqF, Nat.not_lt_zero, not_true_eq_false, not_false_eq_true, true_and, and_true, false_and, and_false, or_true, true_or, false_or, or_false, and_self, if_true, if_false, Classical.not_not, Nat.add_assoc, Nat.zero_add, Nat.add_zero, bI_or, bI_True, bI_False, Bool.false_eq_true, reduceCtorEq, eq_self, gi_si, gl_si, gr_si, hn_si, hL_si, hX_si, gi_sl, gl_sl, gr_sl, hn_sl, ob_si, ar_si, ob_sl, ar_sl, ks_88_0, oT, p1, Cal_eq r1, Cal_eq r2, oT2, g1, g2, up_f, up_t, en])
      exact hQ
  · simp (disch := omega) only [gi_si, up_f, up_s]
  · simp only [gi_si, up_s]
  · intro k hk
    have hk2 : k < ps.length + 1 := by rw [hlen] at hk; omega
    have hk8 : k < 8 := by rw [hlen] at hk; omega
    have fin : ∀ {q : Nat} {y : Mt}, q < 8 → At h2 (38 + 6 * q) y → At (si (si h2 36 1 (iN ((nx + 1) % 8))) 36 2 (iN ((x :: ps).take 8).length)) (38 + 6 * q) y := fun {q y} hq hy => hy.fr (((Fr.rf (fun o => o = 36) h2).si rfl 1 _).si rfl 2 _) (by intro o h1 h2; omega)
    rw [List.getElem_take]
    refine fin (Nat.mod_lt _ (by decide)) ?_
    cases k with
    | zero =>
      rw [show ((nx + 1) % 8 + 7 - 0) % 8 = nx by omega]
      exact A2
    | succ k =>
      rw [show ((nx + 1) % 8 + 7 - (k + 1)) % 8 = (nx + 7 - k) % 8 by omega]
      exact (p5 k (by omega)).fr f2 (by intro o h1 h2; unfold Sm; omega)
noncomputable def Sb : Nat → Prop := fun o => (1 ≤ o ∧ o ≤ 6) ∨ o = 36
theorem t_back {h : Hp} {nx : Nat} {x : Mt} {ps : List Mt} (hB : Bs h) (hP : Pc h nx (x :: ps)) : ∃ h', Ret 3 89 [.ref 36, .ref 1] h none h' ∧ At h' 1 x ∧ Pc h' ((nx + 7) % 8) ps ∧ Fr Sb h h' := by
  obtain ⟨p1, p2, p3, p4, p5⟩ := hP
  rw [List.length_cons] at p2 p4
  have A0 := p5 0 (by rw [List.length_cons]; omega)
  rw [show (nx + 7 - 0) % 8 = (nx + 7) % 8 by omega] at A0
  change At h _ x at A0
  have hm8 : (nx + 7) % 8 < 8 := Nat.mod_lt _ (by decide)
  obtain ⟨oT, rT, aT, sT, pT⟩ := P_facts hB
  have B1 := hB.si 36 1 (iN ((nx + 7) % 8))
  have r1 := t_at B1 hm8
  have A1 : At (si h 36 1 (iN ((nx + 7) % 8))) (38 + 6 * ((nx + 7) % 8)) x := A0.fr ((Fr.rf (fun o => o = 36) h).si rfl 1 _) (by intro o h1 h2; omega)
  obtain ⟨h2, r2, A2, f2⟩ := t_copy (m := 1) (p := 38 + 6 * ((nx + 7) % 8)) (Or.inl rfl) (isM_p hm8) (by omega) B1 A1
  have B2 := f2.bs B1
  have oT2 := (P_facts B2).1
  have e36 := f2.i (o := 36) (by unfold Sm; omega)
  have g2 : gi h2 36 2 = iN (ps.length + 1) := by rw [e36, gi_si, up_s, up_f (by omega)]; exact p2
  have g1 : gi h2 36 1 = iN ((nx + 7) % 8) := by rw [e36, gi_si, up_s, up_s]
  have e1 : iN (nx + 8) - iN 1 = iN (nx + 7) := iN_sub (by omega)
  have e2 : iN (ps.length + 1) - iN 1 = iN ps.length := iN_sub (by omega)
  have fS : Fr Sb h h2 := ((Fr.rf Sb h).si (by unfold Sb; omega) _ _).tr (f2.mono fun o ho => by unfold Sm at ho; unfold Sb; omega)
  refine ⟨si h2 36 2 (iN ps.length), ?_, A2.fr ((Fr.rf (fun o => o = 36) h2).si rfl 2 _) (by intro o h1 h2; omega), ⟨?_, by rw [gi_si, up_s, up_s], hm8, by omega, ?_⟩, fS.si (by unfold Sb; omega) _ _⟩
  · refine Ret_L [some (.ref 36), some (.ref 1)] rfl rfl fun Q hQ => ?_
    (refine wp_go 600 ks_89_0.1 ?_; simp (disch := first | assumption | (simp only [ob_si, ar_si, ob_sl, ar_sl]; assumption) | omega) only [ci_1, ci_8, ldA_a, oc_93, r_10, r_11, r_2, r_20, r_32, r_50, r_6, r_60, r_63, r_80_2, r_81_2, r_94, wpn_S, wpn_zero, stp_h, lk_0, lk_s, st1_0, st1_1, st1_2, st2_0, st2_1, st2_2, kj_i, kj_a, kj_l, kj_n, cat_n, cat_i, cat_a, cat_u, cat_l, vc_i, vc_a, rv_s, tl_n, tl_s, Cal'_s, List.length_cons, List.length_nil, i0, i1, iNd, iN_lt, iN_le, iN_eq, iN_add, iN_mul, iN_mod, iN_div, iN_clamp, iN_inb, zle_N, zlt_N, zN_le, zN_lt, zN_eq, Nz_eq, mI_t, mI_f, bI_0, bI_1, bI_t, bI_f, dltT, dltF, dleT, dleF, deqT, deqF, Nat.not_lt_zero, not_true_eq_false, not_false_eq_true, true_and, and_true, false_and, and_false, or_true, true_or, false_or, or_false, and_self, if_true, if_false, Classical.not_not, Nat.add_assoc, Nat.zero_add, Nat.add_zero, bI_or, bI_True, bI_False, Bool.false_eq_true, reduceCtorEq, eq_self, gi_si, gl_si, gr_si, hn_si, hL_si, hX_si, gi_sl, gl_sl, gr_sl, hn_sl, ob_si, ar_si, ob_sl, ar_sl, ks_89_0, ks_89_1, oT, p1, p2, e1, up_f, up_t, Cal_eq r1, Cal_eq r2, oT2, g2, e2])
    exact hQ
  · simp (disch := omega) only [gi_si, up_f, up_s]; exact g1
  · intro k hk
    have h3 := p5 (k + 1) (by rw [List.length_cons]; omega)
    rw [show (nx + 7 - (k + 1)) % 8 = ((nx + 7) % 8 + 7 - k) % 8 by omega] at h3
    change At h _ ps[k] at h3
    exact ((h3.fr ((Fr.rf (fun o => o = 36) h).si rfl 1 _) (by intro o h1 h2; omega)).fr f2 (by intro o h1 h2; unfold Sm; omega)).fr ((Fr.rf (fun o => o = 36) h2).si rfl 2 _) (by intro o h1 h2; omega)
theorem t_empty {h : Hp} {nx : Nat} {ps : List Mt} (hB : Bs h) (hP : Pc h nx ps) : Ret 0 90 [.ref 36] h (some (.int (bI (ps.length = 0)))) (h) := by
  refine Ret_L [some (.ref 36)] rfl rfl fun Q hQ => ?_
  have oT := (P_facts hB).1
  obtain ⟨p1, p2, p3, p4, p5⟩ := hP
  by_cases hc : ps.length = 0
  · rw [bI_t hc] at hQ
    (refine wp_go 600 ks_90_0.1 ?_; simp (disch := first | assumption | (simp only [ob_si, ar_si, ob_sl, ar_sl]; assumption) | omega) only [ci_0, ci_1, ldA_a, r_2, r_30, r_32, r_6, r_60, r_91, wpn_S, wpn_zero, stp_h, lk_0, lk_s, st1_0, st1_1, st1_2, st2_0, st2_1, st2_2, kj_i, kj_a, kj_l, kj_n, cat_n, cat_i, cat_a, cat_u, cat_l, vc_i, vc_a, rv_s, tl_n, tl_s, Cal'_s, List.length_cons, List.length_nil, i0, i1, iNd, iN_lt, iN_le, iN_eq, iN_add, iN_mul, iN_mod, iN_sub, iN_div, iN_clamp, iN_inb, zle_N, zlt_N, zN_le, zN_lt, zN_eq, Nz_eq, mI_t, mI_f, bI_0, bI_1, bI_t, bI_f, dltT, dltF, dleT, dleF, deqT, deqF, Nat.not_lt_zero, not_true_eq_false, not_false_eq_true, true_and, and_true, false_and, and_false, or_true, true_or, false_or, or_false, and_self, if_true, if_false, Classical.not_not, Nat.add_assoc, Nat.zero_add, Nat.add_zero, bI_or, bI_True, bI_False, Bool.false_eq_true, reduceCtorEq, eq_self, gi_si, gl_si, gr_si, hn_si, hL_si, hX_si, gi_sl, gl_sl, gr_sl, hn_sl, ob_si, ar_si, ob_sl, ar_sl, ks_90_0, oT, p2, hc])
    exact hQ
  · rw [bI_f hc] at hQ
    (refine wp_go 600 ks_90_0.1 ?_; simp (disch := first | assumption | (simp only [ob_si, ar_si, ob_sl, ar_sl]; assumption) | omega) only [ci_0, ci_1, ldA_a, r_2, r_30, r_32, r_6, r_60, r_91, wpn_S, wpn_zero, stp_h, lk_0, lk_s, st1_0, st1_1, st1_2, st2_0, st2_1, st2_2, kj_i, kj_a, kj_l, kj_n, cat_n, cat_i, cat_a, cat_u, cat_l, vc_i, vc_a, rv_s, tl_n, tl_s, Cal'_s, List.length_cons, List.length_nil, i0, i1, iNd, iN_lt, iN_le, iN_eq, iN_add, iN_mul, iN_mod, iN_sub, iN_div, iN_clamp, iN_inb, zle_N, zlt_N, zN_le, zN_lt, zN_eq, Nz_eq, mI_t, mI_f, bI_0, bI_1, bI_t, bI_f, dltT, dltF, dleT, dleF, deqT, deqF, Nat.not_lt_zero, not_true_eq_false, not_false_eq_true, true_and, and_true, false_and, and_false, or_true, true_or, false_or, or_false, and_self, if_true, if_false, Classical.not_not, Nat.add_assoc, Nat.zero_add, Nat.add_zero, bI_or, bI_True, bI_False, Bool.false_eq_true, reduceCtorEq, eq_self, gi_si, gl_si, gr_si, hn_si, hL_si, hX_si, gi_sl, gl_sl, gr_sl, hn_sl, ob_si, ar_si, ob_sl, ar_sl, ks_90_0, oT, p2, hc])
    exact hQ
theorem t_empty_q {h : Hp} {nx : Nat} {ps : List Mt} (hB : Bs h) (hP : Pc h nx ps) {e : Nat} (hd : 0 ≤ e) (K : Option Value → Hp → Prop) : Cal e 90 [.ref 36] h K = K (some (.int (bI (ps.length = 0)))) (h) := Cal_eq (t_empty (hB := hB) (hP := hP)) hd K
theorem t_num {h : Hp} {nx : Nat} {ps : List Mt} (hB : Bs h) (hP : Pc h nx ps) : Ret 0 91 [.ref 36] h (some (.int (iN ps.length))) (h) := by
  refine Ret_L [some (.ref 36)] rfl rfl fun Q hQ => ?_
  have oT := (P_facts hB).1
  obtain ⟨p1, p2, p3, p4, p5⟩ := hP
  (refine wp_go 600 ks_91_0.1 ?_; simp (disch := first | assumption | (simp only [ob_si, ar_si, ob_sl, ar_sl]; assumption) | omega) only [ldA_a, r_2, r_60, r_90, wpn_S, wpn_zero, stp_h, lk_0, lk_s, st1_0, st1_1, st1_2, st2_0, st2_1, st2_2, kj_i, kj_a, kj_l, kj_n, cat_n, cat_i, cat_a, cat_u, cat_l, vc_i, vc_a, rv_s, tl_n, tl_s, Cal'_s, List.length_cons, List.length_nil, i0, i1, iNd, iN_lt, iN_le, iN_eq, iN_add, iN_mul, iN_mod, iN_sub, iN_div, iN_clamp, iN_inb, zle_N, zlt_N, zN_le, zN_lt, zN_eq, Nz_eq, mI_t, mI_f, bI_0, bI_1, bI_t, bI_f, dltT, dltF, dleT, dleF, deqT, deqF, Nat.not_lt_zero, not_true_eq_false, not_false_eq_true, true_and, and_true, false_and, and_false, or_true, true_or, false_or, or_false, and_self, if_true, if_false, Classical.not_not, Nat.add_assoc, Nat.zero_add, Nat.add_zero, bI_or, bI_True, bI_False, Bool.false_eq_true, reduceCtorEq, eq_self, gi_si, gl_si, gr_si, hn_si, hL_si, hX_si, gi_sl, gl_sl, gr_sl, hn_sl, ob_si, ar_si, ob_sl, ar_sl, ks_91_0, oT, p2])
  exact hQ
theorem t_num_q {h : Hp} {nx : Nat} {ps : List Mt} (hB : Bs h) (hP : Pc h nx ps) {e : Nat} (hd : 0 ≤ e) (K : Option Value → Hp → Prop) : Cal e 91 [.ref 36] h K = K (some (.int (iN ps.length))) (h) := Cal_eq (t_num (hB := hB) (hP := hP)) hd K
theorem t_forget {h : Hp} (hB : Bs h) : Ret 0 92 [.ref 36] h none (si h 36 2 (iN 0)) := by
  refine Ret_L [some (.ref 36)] rfl rfl fun Q hQ => ?_
  have oT := (P_facts hB).1
  (refine wp_go 600 ks_92_0.1 ?_; simp (disch := first | assumption | (simp only [ob_si, ar_si, ob_sl, ar_sl]; assumption) | omega) only [ci_0, ldA_a, r_2, r_6, r_63, r_94, wpn_S, wpn_zero, stp_h, lk_0, lk_s, st1_0, st1_1, st1_2, st2_0, st2_1, st2_2, kj_i, kj_a, kj_l, kj_n, cat_n, cat_i, cat_a, cat_u, cat_l, vc_i, vc_a, rv_s, tl_n, tl_s, Cal'_s, List.length_cons, List.length_nil, i0, i1, iNd, iN_lt, iN_le, iN_eq, iN_add, iN_mul, iN_mod, iN_sub, iN_div, iN_clamp, iN_inb, zle_N, zlt_N, zN_le, zN_lt, zN_eq, Nz_eq, mI_t, mI_f, bI_0, bI_1, bI_t, bI_f, dltT, dltF, dleT, dleF, deqT, deqF, Nat.not_lt_zero, not_true_eq_false, not_false_eq_true, true_and, and_true, false_and, and_false, or_true, true_or, false_or, or_false, and_self, if_true, if_false, Classical.not_not, Nat.add_assoc, Nat.zero_add, Nat.add_zero, bI_or, bI_True, bI_False, Bool.false_eq_true, reduceCtorEq, eq_self, gi_si, gl_si, gr_si, hn_si, hL_si, hX_si, gi_sl, gl_sl, gr_sl, hn_sl, ob_si, ar_si, ob_sl, ar_sl, ks_92_0, oT])
  exact hQ
theorem t_forget_q {h : Hp} (hB : Bs h) {e : Nat} (hd : 0 ≤ e) (K : Option Value → Hp → Prop) : Cal e 92 [.ref 36] h K = K none (si h 36 2 (iN 0)) := Cal_eq (t_forget (hB := hB)) hd K
/-! what can be taken back: the model -/
noncomputable def Po (h : Hp) (ps : List Mt) : Prop := gi h 87 25 = iN ps.length ∧ ps.length ≤ 8 ∧ ∀ k, (hk : k < ps.length) → ∀ i, i < 62 → gi h 100 (62 * (ps.length - 1 - k) + i) = lay ps[k] i
theorem U_facts {h : Hp} (hB : Bs h) : ob h 87 12 ∧ gr h 87 23 = some 100 ∧ gr h 87 24 = some 101 ∧ ar h 1 100 ∧ ar h 1 101 ∧ (SH 100).2 = 496 ∧ (SH 101).2 = 62 := ⟨hB.ob (by decide) (by decide), hB.r (by decide), hB.r (by decide), hB.ar (by decide) (by decide), hB.ar (by decide) (by decide), by decide, by decide⟩
noncomputable def So : Nat → Prop := fun o => (88 ≤ o ∧ o ≤ 92) ∨ o = 100 ∨ o = 101
noncomputable def Fp : Nat → Prop := fun k => k = 0 ∨ k = 6 ∨ k = 20 ∨ k = 21 ∨ k = 25
/-- behind the making of room: at most 7, in the order as before -/
theorem u_room {h : Hp} {x : Mt} {ps : List Mt} (hB : Bs h) (hA : Ao h x) (hP : Po h ps) {Q : Option Value → Hp → Prop} (hQ : ∀ h' L, Ao h' x → Po h' (ps.take 7) → Fo So Fp h h' → (∃ w, L = [some (.ref 87), w]) → wp 2 240 50 L [] h' Q) : wp 2 240 0 [some (.ref 87), none] [] h Q := by
  obtain ⟨oU, rU1, rU2, aU1, aU2, sU1, sU2⟩ := U_facts hB
  obtain ⟨p1, p2, p3⟩ := id hP
  by_cases h8 : ps.length = 8
  · have e50 : ∀ h' L, wp 2 240 50 L [] h' Q → wpn 0 2 240 Q 50 L [] h' := fun _ _ q => q
    (refine wp_go 600 ks_240_0.1 ?_; simp (disch := first | assumption | (simp only [ob_si, ar_si, ob_sl, ar_sl]; assumption) | omega) only [ci_0, ci_1, ci_496, ci_62, ci_8, inc_i, ldA_a, ldI_i, oc_235, r_0, r_10, r_11, r_12, r_2, r_3, r_30, r_42, r_44, r_50, r_6, r_60, r_62, r_63, r_70, r_71, r_80_3, r_9, r_94, wpn_S, wpn_zero, stp_h, lk_0, lk_s, st1_0, st1_1, st1_2, st2_0, st2_1, st2_2, kj_i, kj_a, kj_l, kj_n, cat_n, cat_i, cat_a, cat_u, cat_l, vc_i, vc_a, rv_s, tl_n, tl_s, Cal'_s, List.length_cons, List.length_nil, i0, i1, iNd, iN_lt, iN_le, iN_eq, iN_add, iN_mul, iN_mod, iN_sub, iN_div, iN_clamp, iN_inb, zle_N, zlt_N, zN_le, zN_lt, zN_eq, Nz_eq, mI_t, mI_f, bI_0, bI_1, bI_t, bI_f, dltT, dltF, dleT, dleF, deqT, deqF, Nat.not_lt_zero, not_true_eq_false, not_false_eq_true, true_and, and_true, false_and, and_false, or_true, true_or, false_or, or_false, and_self, if_true, if_false, Classical.not_not, Nat.add_assoc, Nat.zero_add, Nat.add_zero, bI_or, bI_True, bI_False, Bool.false_eq_true, reduceCtorEq, eq_self, gi_si, gl_si, gr_si, hn_si, hL_si, hX_si, gi_sl, gl_sl, gr_sl, hn_sl, ob_si, ar_si, ob_sl, ar_sl, ks_240_0, ks_240_1, ks_240_2, oU, p1, h8])
    refine wp_loop (fun k L h' => 62 ≤ k ∧ (∀ j, 62 ≤ j → j < k → gi h' 100 (j - 62) = gi h 100 j) ∧ (∀ j, k ≤ j → gi h' 100 j = gi h 100 j) ∧ Fo (fun o => o = 100) (fun _ => False) h h' ∧ L = [some (.ref 87), some (.int (iN k))]) 496 ?_ ?_ 434 62 _ h (by omega) ⟨by omega, fun j h1 h2 => by omega, fun _ _ => rfl, Fo.rf _ _ h, rfl⟩
    · rintro k L h1 hk ⟨k62, a1, a2, f1, rfl⟩ hnx
      obtain ⟨oU, rU1, rU2, aU1, aU2, sU1, sU2⟩ := U_facts (f1.bs hB)
      have g := a2 k (Nat.le_refl k)
      (refine wp_go 600 ks_240_0.2.2.2.2.2.2.1 ?_; simp (disch := first | assumption | (simp only [ob_si, ar_si, ob_sl, ar_sl]; assumption) | omega) only [ci_0, ci_1, ci_496, ci_62, ci_8, inc_i, ldA_a, ldI_i, oc_235, r_0, r_10, r_11, r_12, r_2, r_3, r_30, r_42, r_44, r_50, r_6, r_60, r_62, r_63, r_70, r_71, r_80_3, r_9, r_94, wpn_S, wpn_zero, stp_h, lk_0, lk_s, st1_0, st1_1, st1_2, st2_0, st2_1, st2_2, kj_i, kj_a, kj_l, kj_n, cat_n, cat_i, cat_a, cat_u, cat_l, vc_i, vc_a, rv_s, tl_n, tl_s, Cal'_s, List.length_cons, List.length_nil, i0, i1, iNd, iN_lt, iN_le, iN_eq, iN_add, iN_mul, iN_mod, iN_sub, iN_div, iN_clamp, iN_inb, zle_N, zlt_N, zN_le, zN_lt, zN_eq, Nz_eq, mI_t, mI_f, bI_0, bI_1, bI_t, bI_f, dltT, dltF, dleT, dleF, deqT, deqF, Nat.not_lt_zero, not_true_eq_false, not_false_eq_true, true_and, and_true, false_and, and_false, or_true, true_or, false_or, or_false, and_self, if_true, if_false, Classical.not_not, Nat.add_assoc, Nat.zero_add, Nat.add_zero, bI_or, bI_True, bI_False, Bool.false_eq_true, reduceCtorEq, eq_self, gi_si, gl_si, gr_si, hn_si, hL_si, hX_si, gi_sl, gl_sl, gr_sl, hn_sl, ob_si, ar_si, ob_sl, ar_sl, ks_240_0, ks_240_1, ks_240_2, oU, rU1, aU1, g])
      refine hnx _ _ ⟨by omega, ?_, ?_, f1.sa rfl (by omega) _ _, rfl⟩
      · intro j h1 h2
        rw [gi_si, up_s]
        by_cases e : j = k
        · rw [up_t (by omega), e]
        · rw [up_f (by omega)]; exact a1 j h1 (by omega)
      · intro j h1
        rw [gi_si, up_s, up_f (by omega)]; exact a2 j (by omega)
    · rintro L h1 ⟨_, a1, a2, f1, rfl⟩
      have oU1 := (U_facts (f1.bs hB)).1
      have g25 : gi h1 87 25 = iN 8 := by rw [f1.2 25 id, p1, h8]
      have A1 : Ao h1 x := hA.fr f1 (by intro o _ _; omega) id id
      have fin := hQ (si h1 87 25 (iN 7)) [some (.ref 87), some (.int (iN 496))] (Ao_f A1 (by omega) (by omega) _) ⟨by rw [gi_si, up_s, up_s, List.length_take, h8]; rfl, by rw [List.length_take]; omega, fun k hk i hi => by
        rw [List.length_take] at hk ⊢
        rw [gi_si, up_f (by omega), List.getElem_take, ← p3 k (by omega) i hi, ← a1 (62 * (ps.length - 1 - k) + i) (by omega) (by omega)]
        congr 1
        omega⟩ ((f1.mono (fun o ho => by unfold So; omega) (fun k hk => hk.elim)).sf (by unfold Fp; omega) _) ⟨_, rfl⟩
      refine wp_go 8 ks_240_0.2.2.2.2.2.2.1 ?_
      simp (disch := first | assumption | (simp only [ob_si, ar_si, ob_sl, ar_sl]; assumption) | omega) only [ci_0, ci_1, ci_496, ci_62, ci_8, inc_i, ldA_a, ldI_i, oc_235, r_0, r_10, r_11, r_12, r_2, r_3, r_30, r_42, r_44, r_50, r_6, r_60, r_62, r_63, r_70, r_71, r_80_3, r_9, r_94, wpn_S, wpn_zero, stp_h, lk_0, lk_s, st1_0, st1_1, st1_2, st2_0, st2_1, st2_2, kj_i, kj_a, kj_l, kj_n, cat_n, cat_i, cat_a, cat_u, cat_l, vc_i, vc_a, rv_s, tl_n, tl_s, Cal'_s, List.length_cons, List.length_nil, i0, i1, iNd, iN_lt, iN_le, iN_eq, iN_add, iN_mul, iN_mod, iN_sub, iN_div, iN_clamp, iN_inb, zle_N, zlt_N, zN_le, zN_lt, zN_eq, Nz_eq, mI_t, mI_f, bI_0, bI_1, bI_t, bI_f, dltT, dltF, dleT, dleF, deqT, deqF, Nat.not_lt_zero, not_true_eq_false, not_false_eq_true, true_and, and_true, false_and, and_false, or_true, true_or, false_or, or_false, and_self, if_true, if_false, Classical.not_not, Nat.add_assoc, Nat.zero_add, Nat.add_zero, bI_or, bI_True, bI_False, Bool.false_eq_true, reduceCtorEq, eq_self, gi_si, gl_si, gr_si, hn_si, hL_si, hX_si, gi_sl, gl_sl, gr_sl, hn_sl, ob_si, ar_si, ob_sl, ar_sl, ks_240_0, ks_240_1, ks_240_2, oU1, g25]
      exact fin
  · have fin := hQ h [some (.ref 87), none] hA (by rw [List.take_of_length_le (by omega)]; exact hP) (Fo.rf _ _ h) ⟨_, rfl⟩
    refine wp_go 3 ks_240_0.1 ?_
    simp (disch := first | assumption | (simp only [ob_si, ar_si, ob_sl, ar_sl]; assumption) | omega) only [ci_0, ci_1, ci_496, ci_62, ci_8, inc_i, ldA_a, ldI_i, oc_235, r_0, r_10, r_11, r_12, r_2, r_3, r_30, r_42, r_44, r_50, r_6, r_60, r_62, r_63, r_70, r_71, r_80_3, r_9, r_94, wpn_S, wpn_zero, stp_h, lk_0, lk_s, st1_0, st1_1, st1_2, st2_0, st2_1, st2_2, kj_i, kj_a, kj_l, kj_n, cat_n, cat_i, cat_a, cat_u, cat_l, vc_i, vc_a, rv_s, tl_n, tl_s, Cal'_s, List.length_cons, List.length_nil, i0, i1, iNd, iN_lt, iN_le, iN_eq, iN_add, iN_mul, iN_mod, iN_sub, iN_div, iN_clamp, iN_inb, zle_N, zlt_N, zN_le, zN_lt, zN_eq, Nz_eq, mI_t, mI_f, bI_0, bI_1, bI_t, bI_f, dltT, dltF, dleT, dleF, deqT, deqF, Nat.not_lt_zero, not_true_eq_false, not_false_eq_true, true_and, and_true, false_and, and_false, or_true, true_or, false_or, or_false, and_self, if_true, if_false, Classical.not_not, Nat.add_assoc, Nat.zero_add, Nat.add_zero, bI_or, bI_True, bI_False, Bool.false_eq_true, reduceCtorEq, eq_self, gi_si, gl_si, gr_si, hn_si, hL_si, hX_si, gi_sl, gl_sl, gr_sl, hn_sl, ob_si, ar_si, ob_sl, ar_sl, ks_240_0, ks_240_1, ks_240_2, oU, p1, h8]
    exact fin
theorem u_keep {h : Hp} {x : Mt} {ps : List Mt} (hB : Bs h) (hA : Ao h x) (hP : Po h ps) : ∃ h', Ret 2 240 [.ref 87] h none h' ∧ Ao h' x ∧ Po h' ((x :: ps).take 8) ∧ Fo So Fp h h' := by
  have key : ∀ Q : Option Value → Hp → Prop, (∀ h', Ao h' x → Po h' ((x :: ps).take 8) → Fo So Fp h h' → Q none h') → wp 2 240 0 [some (.ref 87), none] [] h Q := by
    intro Q hQ
    refine u_room hB hA hP ?_
    rintro h1 L A1 P1 f1 ⟨w, rfl⟩
    have B1 := f1.bs hB
    obtain ⟨oU, rU1, rU2, aU1, aU2, sU1, sU2⟩ := U_facts B1
    obtain ⟨h2, r2, A2, K2, f2⟩ := w_carry (a := 101) (b := true) B1 (Or.inr (Or.inr rfl)) (fun _ => A1) (fun e => by cases e)
    rw [bI_t rfl] at r2
    have hq : (x :: ps).take 8 = x :: ps.take 7 := rfl
    rw [hq] at hQ
    have hlen : (ps.take 7).length ≤ 7 := by rw [List.length_take]; omega
    have P2 : Po h2 (ps.take 7) := by
      obtain ⟨p1, p2, p3⟩ := P1
      refine ⟨by rw [f2.2 25 (by unfold Fc; omega)]; exact p1, p2, ?_⟩
      rw [f2.i (o := 100) (by unfold Sc; omega) (by omega)]
      exact p3
    generalize ps.take 7 = qs at *
    have B2 := f2.bs B1
    obtain ⟨oV, rV1, rV2, aV1, aV2, sV1, sV2⟩ := U_facts B2
    obtain ⟨p1, p2, p3⟩ := P2
    (refine wp_go 600 ks_240_1.2.2.2.1 ?_; simp (disch := first | assumption | (simp only [ob_si, ar_si, ob_sl, ar_sl]; assumption) | omega) only [ci_0, ci_1, ci_496, ci_62, ci_8, inc_i, ldA_a, ldI_i, oc_235, r_0, r_10, r_11, r_12, r_2, r_3, r_30, r_42, r_44, r_50, r_6, r_60, r_62, r_63, r_70, r_71, r_80_3, r_9, r_94, wpn_S, wpn_zero, stp_h, lk_0, lk_s, st1_0, st1_1, st1_2, st2_0, st2_1, st2_2, kj_i, kj_a, kj_l, kj_n, cat_n, cat_i, cat_a, cat_u, cat_l, vc_i, vc_a, rv_s, tl_n, tl_s, Cal'_s, List.length_cons, List.length_nil, i0, i1, iNd, iN_lt, iN_le, iN_eq, iN_add, iN_mul, iN_mod, iN_sub, iN_div, iN_clamp, iN_inb, zle_N, zlt_N, zN_le, zN_lt, zN_eq, Nz_eq, mI_t, mI_f, bI_0, bI_1, bI_t, bI_f, dltT, dltF, dleT, dleF, deqT, deqF, Nat.not_lt_zero, not_true_eq_false, not_false_eq_true, true_and, and_true, false_and, and_false, or_true, true_or, false_or, or_false, and_self, if_true, if_false, Classical.not_not, Nat.add_assoc, Nat.zero_add, Nat.add_zero, bI_or, bI_True, bI_False, Bool.false_eq_true, reduceCtorEq, eq_self, gi_si, gl_si, gr_si, hn_si, hL_si, hX_si, gi_sl, gl_sl, gr_sl, hn_sl, ob_si, ar_si, ob_sl, ar_sl, ks_240_0, ks_240_1, ks_240_2, oU, rU2, Cal_eq r2])
    refine wp_loop (fun k L h' => L = [some (.ref 87), some (.int (iN k))] ∧ (∀ j, j < k → gi h' 100 (62 * qs.length + j) = lay x j) ∧ (∀ j, j < 62 * qs.length → gi h' 100 j = gi h2 100 j) ∧ Fo (fun o => o = 100) (fun _ => False) h2 h') 62 ?_ ?_ 62 0 _ h2 (by omega) ⟨rfl, fun j hj => by omega, fun _ _ => rfl, Fo.rf _ _ h2⟩
    · rintro k L h3 hk ⟨rfl, a1, a2, f3⟩ hnx
      obtain ⟨oU, rU1, rU2, aU1, aU2, sU1, sU2⟩ := U_facts (f3.bs B2)
      have g25 : gi h3 87 25 = iN qs.length := by rw [f3.2 25 id]; exact p1
      have g101 : gi h3 101 k = lay x k := by rw [f3.i (o := 101) (by omega) (by omega)]; exact K2 k hk
      (refine wp_go 600 ks_240_1.2.2.2.2.2.2.2.2.2.2.1 ?_; simp (disch := first | assumption | (simp only [ob_si, ar_si, ob_sl, ar_sl]; assumption) | omega) only [ci_0, ci_1, ci_496, ci_62, ci_8, inc_i, ldA_a, ldI_i, oc_235, r_0, r_10, r_11, r_12, r_2, r_3, r_30, r_42, r_44, r_50, r_6, r_60, r_62, r_63, r_70, r_71, r_80_3, r_9, r_94, wpn_S, wpn_zero, stp_h, lk_0, lk_s, st1_0, st1_1, st1_2, st2_0, st2_1, st2_2, kj_i, kj_a, kj_l, kj_n, cat_n, cat_i, cat_a, cat_u, cat_l, vc_i, vc_a, rv_s, tl_n, tl_s, Cal'_s, List.length_cons, List.length_nil, i0, i1, iNd, iN_lt, iN_le, iN_eq, iN_add, iN_mul, iN_mod, iN_sub, iN_div, iN_clamp, iN_inb, zle_N, zlt_N, zN_le, zN_lt, zN_eq, Nz_eq, mI_t, mI_f, bI_0, bI_1, bI_t, bI_f, dltT, dltF, dleT, dleF, deqT, deqF, Nat.not_lt_zero, not_true_eq_false, not_false_eq_true, true_and, and_true, false_and, and_false, or_true, true_or, false_or, or_false, and_self, if_true, if_false, Classical.not_not, Nat.add_assoc, Nat.zero_add, Nat.add_zero, bI_or, bI_True, bI_False, Bool.false_eq_true, reduceCtorEq, eq_self, gi_si, gl_si, gr_si, hn_si, hL_si, hX_si, gi_sl, gl_sl, gr_sl, hn_sl, ob_si, ar_si, ob_sl, ar_sl, ks_240_0, ks_240_1, ks_240_2, oU, rU1, rU2, aU1, aU2, g25, g101])
      refine hnx _ _ ⟨rfl, ?_, ?_, f3.sa rfl (by omega) _ _⟩
      · intro j hj
        rw [gi_si, up_s]
        by_cases e : j = k
        · rw [up_t (by omega), e]
        · rw [up_f (by omega)]; exact a1 j (by omega)
      · intro j hj
        rw [gi_si, up_s, up_f (by omega)]; exact a2 j hj
    · rintro L h3 ⟨rfl, a1, a2, f3⟩
      have oU3 := (U_facts (f3.bs B2)).1
      have g25 : gi h3 87 25 = iN qs.length := by rw [f3.2 25 id]; exact p1
      (refine wp_go 600 ks_240_1.2.2.2.2.2.2.2.2.2.2.1 ?_; simp (disch := first | assumption | (simp only [ob_si, ar_si, ob_sl, ar_sl]; assumption) | omega) only [ci_0, ci_1, ci_496, ci_62, ci_8, inc_i, ldA_a, ldI_i, oc_235, r_0, r_10, r_11, r_12, r_2, r_3, r_30, r_42, r_44, r_50, r_6, r_60, r_62, r_63, r_70, r_71, r_80_3, r_9, r_94, wpn_S, wpn_zero, stp_h, lk_0, lk_s, st1_0, st1_1, st1_2, st2_0, st2_1, st2_2, kj_i, kj_a, kj_l, kj_n, cat_n, cat_i, cat_a, cat_u, cat_l, vc_i, vc_a, rv_s, tl_n, tl_s, Cal'_s, List.length_cons, List.length_nil, i0, i1, iNd, iN_lt, iN_le, iN_eq, iN_add, iN_mul, iN_mod, iN_sub, iN_div, iN_clamp, iN_inb, zle_N, zlt_N, zN_le, zN_lt, zN_eq, Nz_eq, mI_t, mI_f, bI_0, bI_1, bI_t, bI_f, dltT, dltF, dleT, dleF, deqT, deqF, Nat.not_lt_zero, not_true_eq_false, not_false_eq_true, true_and, and_true, false_and, and_false, or_true, true_or, false_or, or_false, and_self, if_true, if_false, Classical.not_not, Nat.add_assoc, Nat.zero_add, Nat.add_zero, bI_or, bI_True, bI_False, Bool.false_eq_true, reduceCtorEq, eq_self, gi_si, gl_si, gr_si, hn_si, hL_si, hX_si, gi_sl, gl_sl, gr_sl, hn_sl, ob_si, ar_si, ob_sl, ar_sl, ks_240_0, ks_240_1, ks_240_2, oU3, g25])
      refine hQ _ (Ao_f (A2.fr f3 (by intro o _ _; omega) id id) (by omega) (by omega) _) ⟨?_, ?_, ?_⟩ (((f1.tr (f2.mono (fun o ho => by unfold Sc at ho; unfold So; omega) (fun k hk => by unfold Fc at hk; unfold Fp; omega))).tr (f3.mono (fun o ho => by unfold So; omega) (fun k hk => hk.elim))).sf (by unfold Fp; omega) _)
      · rw [gi_si, up_s, up_s]; rfl
      · rw [List.length_cons]; omega
      · intro k hk i hi
        rw [List.length_cons] at hk ⊢
        rw [gi_si, up_f (by omega)]
        cases k with
        | zero =>
          have := a1 i hi
          rw [show qs.length + 1 - 1 - 0 = qs.length by omega]
          exact this
        | succ k =>
          have := p3 k (by omega) i hi
          rw [show qs.length + 1 - 1 - (k + 1) = qs.length - 1 - k by omega, a2 _ (by omega)]
          exact this
  obtain ⟨v, h', r, rfl, a, b, f⟩ := Ret_ex (d := 2) (y := 240) (as := [.ref 87]) [some (.ref 87), none] rfl rfl (key (fun v h' => v = none ∧ Ao h' x ∧ Po h' ((x :: ps).take 8) ∧ Fo So Fp h h') fun h' a b c => ⟨rfl, a, b, c⟩)
  exact ⟨h', r, a, b, f⟩
theorem u_back {h : Hp} {x : Mt} {ps : List Mt} (hB : Bs h) (hP : Po h (x :: ps)) : ∃ h', Ret 2 241 [.ref 87] h (some (.int (iN ps.length))) h' ∧ Ao h' x ∧ Po h' ps ∧ Fo So (fun k => Fp k ∨ k = 7) h h' := by
  have key : ∀ Q : Option Value → Hp → Prop, (∀ h', Ao h' x → Po h' ps → Fo So (fun k => Fp k ∨ k = 7) h h' → Q (some (.int (iN ps.length))) h') → wp 2 241 0 [some (.ref 87), none] [] h Q := by
    intro Q hQ
    obtain ⟨oU, rU1, rU2, aU1, aU2, sU1, sU2⟩ := U_facts hB
    obtain ⟨p1, p2, p3⟩ := hP
    rw [List.length_cons] at p1 p2
    have e1 : iN (ps.length + 1) - iN 1 = iN ps.length := iN_sub (by omega)
    have f1 : Fo So (fun k => Fp k ∨ k = 7) h (si (si h 87 7 (iN 0)) 87 25 (iN ps.length)) := (Fo.sf (Fo.sf (Fo.rf _ _ h) (Or.inr rfl) _) (by unfold Fp; omega) _)
    have p0 : ∀ i, i < 62 → gi h 100 (62 * ps.length + i) = lay x i := fun i hi => by
      have := p3 0 (by rw [List.length_cons]; omega) i hi
      change gi h 100 (62 * (ps.length + 1 - 1 - 0) + i) = lay x i at this
      rw [show ps.length + 1 - 1 - 0 = ps.length by omega] at this
      exact this
    (refine wp_go 600 ks_241_0.1 ?_; simp (disch := first | assumption | (simp only [ob_si, ar_si, ob_sl, ar_sl]; assumption) | omega) only [ci_0, ci_1, ci_62, cm_3, inc_i, ldA_a, ldI_i, oc_201, oc_235, r_0, r_10, r_11, r_12, r_2, r_3, r_30, r_32, r_44, r_50, r_6, r_60, r_62, r_63, r_70, r_71, r_80_2, r_80_3, r_9, r_90, wpn_S, wpn_zero, stp_h, lk_0, lk_s, st1_0, st1_1, st1_2, st2_0, st2_1, st2_2, kj_i, kj_a, kj_l, kj_n, cat_n, cat_i, cat_a, cat_u, cat_l, vc_i, vc_a, rv_s, tl_n, tl_s, Cal'_s, List.length_cons, List.length_nil, i0, i1, iNd, iN_lt, iN_le, iN_eq, iN_add, iN_mul, iN_mod, iN_div, iN_clamp, iN_inb, zle_N, zlt_N, zN_le, zN_lt, zN_eq, Nz_eq, mI_t, mI_f, bI_0, bI_1, bI_t, bI_f, dltT, dltF, dleT, dleF, deqT, deqF, Nat.not_lt_zero, not_true_eq_false, not_false_eq_true, true_and, and_true, false_and, and_false, or_true, true_or, false_or, or_false, and_self, if_true, if_false, Classical.not_not, Nat.add_assoc, Nat.zero_add, Nat.add_zero, bI_or, bI_True, bI_False, Bool.false_eq_true, reduceCtorEq, eq_self, gi_si, gl_si, gr_si, hn_si, hL_si, hX_si, gi_sl, gl_sl, gr_sl, hn_sl, ob_si, ar_si, ob_sl, ar_sl, ks_241_0, ks_241_1, oU, p1, e1, up_f, up_t])
    generalize hg : si (si h 87 7 (iN 0)) 87 25 (iN ps.length) = g at *
    have g100 : gi g 100 = gi h 100 := by rw [← hg]; simp (disch := omega) only [gi_si, up_f]
    have g25 : gi g 87 25 = iN ps.length := by rw [← hg, gi_si, up_s, up_s]
    refine wp_loop (fun k L h' => L = [some (.ref 87), some (.int (iN k))] ∧ (∀ j, j < k → gi h' 101 j = lay x j) ∧ Fo (fun o => o = 101) (fun _ => False) g h') 62 ?_ ?_ 62 0 _ g (by omega) ⟨rfl, fun j hj => by omega, Fo.rf _ _ g⟩
    · rintro k L h3 hk ⟨rfl, a1, f3⟩ hnx
      obtain ⟨oU, rU1, rU2, aU1, aU2, sU1, sU2⟩ := U_facts (f3.bs (f1.bs hB))
      have q25 : gi h3 87 25 = iN ps.length := by rw [f3.2 25 id]; exact g25
      have q100 : gi h3 100 (62 * ps.length + k) = lay x k := by rw [f3.i (o := 100) (by omega) (by omega), g100]; exact p0 k hk
      (refine wp_go 600 ks_241_0.2.2.2.2.2.2.2.2.2.2.2.2.2.2.2.2.2.2.1 ?_; simp (disch := first | assumption | (simp only [ob_si, ar_si, ob_sl, ar_sl]; assumption) | omega) only [ci_0, ci_1, ci_62, cm_3, inc_i, ldA_a, ldI_i, oc_201, oc_235, r_0, r_10, r_11, r_12, r_2, r_3, r_30, r_32, r_44, r_50, r_6, r_60, r_62, r_63, r_70, r_71, r_80_2, r_80_3, r_9, r_90, wpn_S, wpn_zero, stp_h, lk_0, lk_s, st1_0, st1_1, st1_2, st2_0, st2_1, st2_2, kj_i, kj_a, kj_l, kj_n, cat_n, cat_i, cat_a, cat_u, cat_l, vc_i, vc_a, rv_s, tl_n, tl_s, Cal'_s, List.length_cons, List.length_nil, i0, i1, iNd, iN_lt, iN_le, iN_eq, iN_add, iN_mul, iN_mod, iN_sub, iN_div, iN_clamp, iN_inb, zle_N, zlt_N, zN_le, zN_lt, zN_eq, Nz_eq, mI_t, mI_f, bI_0, bI_1, bI_t, bI_f, dltT, dltF, dleT, dleF, deqT, deqF, Nat.not_lt_zero, not_true_eq_false, not_false_eq_true, true_and, and_true, false_and, and_false, or_true, true_or, false_or, or_false, and_self, if_true, if_false, Classical.not_not, Nat.add_assoc, Nat.zero_add, Nat.add_zero, bI_or, bI_True, bI_False, Bool.false_eq_true, reduceCtorEq, eq_self, gi_si, gl_si, gr_si, hn_si, hL_si, hX_si, gi_sl, gl_sl, gr_sl, hn_sl, ob_si, ar_si, ob_sl, ar_sl, ks_241_0, ks_241_1, oU, rU1, rU2, aU1, aU2, q25, q100])
      refine hnx _ _ ⟨rfl, ?_, f3.sa rfl (by omega) _ _⟩
      intro j hj
      rw [gi_si, up_s]
      by_cases e : j = k
      · rw [up_t e, e]
      · rw [up_f e]; exact a1 j (by omega)
    · rintro L h3 ⟨rfl, a1, f3⟩
      have B3 := f3.bs (f1.bs hB)
      obtain ⟨h4, r4, A4, K4, f4⟩ := w_carry (a := 101) (b := false) (x := x) B3 (Or.inr (Or.inr rfl)) (fun e => by cases e) (fun _ => a1)
      rw [bI_f (by decide)] at r4
      obtain ⟨oU, rU1, rU2, aU1, aU2, sU1, sU2⟩ := U_facts B3
      have oU4 := (U_facts (f4.bs B3)).1
      have q25 : gi h4 87 25 = iN ps.length := by rw [f4.2 25 (by unfold Fc; omega), f3.2 25 id]; exact g25
      have q100 : gi h4 100 = gi h 100 := by rw [f4.i (o := 100) (by unfold Sc; omega) (by omega), f3.i (o := 100) (by omega) (by omega), g100]
      (refine wp_go 600 ks_241_0.2.2.2.2.2.2.2.2.2.2.2.2.2.2.2.2.2.2.1 ?_; simp (disch := first | assumption | (simp only [ob_si, ar_si, ob_sl, ar_sl]; assumption) | omega) only [ci_0, ci_1, ci_62, cm_3, inc_i, ldA_a, ldI_i, oc_201, oc_235, r_0, r_10, r_11, r_12, r_2, r_3, r_30, r_32, r_44, r_50, r_6, r_60, r_62, r_63, r_70, r_71, r_80_2, r_80_3, r_9, r_90, wpn_S, wpn_zero, stp_h, lk_0, lk_s, st1_0, st1_1, st1_2, st2_0, st2_1, st2_2, kj_i, kj_a, kj_l, kj_n, cat_n, cat_i, cat_a, cat_u, cat_l, vc_i, vc_a, rv_s, tl_n, tl_s, Cal'_s, List.length_cons, List.length_nil, i0, i1, iNd, iN_lt, iN_le, iN_eq, iN_add, iN_mul, iN_mod, iN_sub, iN_div, iN_clamp, iN_inb, zle_N, zlt_N, zN_le, zN_lt, zN_eq, Nz_eq, mI_t, mI_f, bI_0, bI_1, bI_t, bI_f, dltT, dltF, dleT, dleF, deqT, deqF, Nat.not_lt_zero, not_true_eq_false, not_false_eq_true, true_and, and_true, false_and, and_false, or_true, true_or, false_or, or_false, and_self, if_true, if_false, Classical.not_not, Nat.add_assoc, Nat.zero_add, Nat.add_zero, bI_or, bI_True, bI_False, Bool.false_eq_true, reduceCtorEq, eq_self, gi_si, gl_si, gr_si, hn_si, hL_si, hX_si, gi_sl, gl_sl, gr_sl, hn_sl, ob_si, ar_si, ob_sl, ar_sl, ks_241_0, ks_241_1, oU, rU2, Cal_eq r4, oU4, q25])
      refine hQ _ A4 ⟨q25, by omega, ?_⟩ ((f1.tr (f3.mono (fun o ho => by unfold So; omega) (fun k hk => hk.elim))).tr (f4.mono (fun o ho => by unfold Sc at ho; unfold So; omega) (fun k hk => Or.inl (by unfold Fc at hk; unfold Fp; omega))))
      intro k hk i hi
      have := p3 (k + 1) (by rw [List.length_cons]; omega) i hi
      change gi h 100 (62 * (ps.length + 1 - 1 - (k + 1)) + i) = lay ps[k] i at this
      rw [show ps.length + 1 - 1 - (k + 1) = ps.length - 1 - k by omega] at this
      rw [q100]
      exact this
  obtain ⟨v, h', r, rfl, a, b, f⟩ := Ret_ex (d := 2) (y := 241) (as := [.ref 87]) [some (.ref 87), none] rfl rfl (key (fun v h' => v = some (.int (iN ps.length)) ∧ Ao h' x ∧ Po h' ps ∧ Fo So (fun k => Fp k ∨ k = 7) h h') fun h' a b c => ⟨rfl, a, b, c⟩)
  exact ⟨h', r, a, b, f⟩
