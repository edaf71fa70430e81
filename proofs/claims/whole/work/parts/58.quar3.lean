/-! a quarter: the model reads it -/
theorem L_facts {h : Hp} (hB : Bs h) : ob h 87 12 ∧ gr h 87 9 = some 94 ∧ gr h 87 14 = some 95 ∧ gr h 87 15 = some 96 ∧ gr h 87 16 = some 97 ∧ ar h 1 94 ∧ ar h 1 95 ∧ ar h 1 96 ∧ ar h 1 97 ∧ (SH 94).2 = 96 ∧ (SH 95).2 = 49 ∧ (SH 96).2 = 49 ∧ (SH 97).2 = 147 := ⟨hB.ob (by decide) (by decide), hB.r (by decide), hB.r (by decide), hB.r (by decide), hB.r (by decide), hB.ar (by decide) (by decide), hB.ar (by decide) (by decide), hB.ar (by decide) (by decide), hB.ar (by decide) (by decide), by decide, by decide, by decide, by decide⟩
theorem o_hereT {h : Hp} {n a : Nat} {v : Nat → Nat} (hB : Bs h) (hL : LoO h n v) (ha : gi h 87 11 = iN a) (hn : n ≤ 96) (hl : a < n) : Ret 0 226 [.ref 87] h (some (.int (iN (v a)))) (h) := by
  refine Ret_L [some (.ref 87)] rfl rfl fun Q hQ => ?_
  obtain ⟨oO, r9, r14, r15, r16, a94, a95, a96, a97, s94, s95, s96, s97⟩ := L_facts hB
  have l1 := hL.1
  have l2 := hL.2 a (by omega)
  (refine wp_go 600 ks_226_0.1 ?_; simp (disch := first | with_reducible assumption | omega | (simp only [ob_si, ar_si, ob_sl, ar_sl]; with_reducible assumption)) only [cm_1, ldA_a, r_2, r_30, r_44, r_6, r_60, r_62, r_70, r_90, wpn_S, wpn_zero, stp_h, lk_0, lk_s, st1_0, st1_1, st1_2, st2_0, st2_1, st2_2, kj_i, kj_a, kj_l, kj_n, cat_n, cat_i, cat_a, cat_u, cat_l, vc_i, vc_a, rv_s, tl_n, tl_s, Cal'_s, List.length_cons, List.length_nil, i0, i1, iNd, iN_lt, iN_le, iN_eq, iN_add, iN_mul, iN_mod, iN_sub, iN_div, iN_clamp, iN_inb, zle_N, zlt_N, zN_le, zN_lt, zN_eq, Nz_eq, mI_t, mI_f, bI_0, bI_1, bI_t, bI_f, dltT, dltF, dleT, dleF, deqT, deqF, Nat.not_lt_zero, not_true_eq_false, not_false_eq_true, true_and, and_true, false_and, and_false, or_true, true_or, false_or, or_false, and_self, if_true, if_false, Classical.not_not, Nat.add_assoc, Nat.zero_add, Nat.add_zero, bI_or, bI_True, bI_False, Bool.false_eq_true, reduceCtorEq, eq_self, gi_si, gl_si, gr_si, hn_si, hL_si, hX_si, gi_sl, gl_sl, gr_sl, hn_sl, ob_si, ar_si, ob_sl, ar_sl, ks_226_0, oO, r9, a94, s94, ha, l1, l2])
  exact hQ
theorem o_hereT_q {h : Hp} {n a : Nat} {v : Nat → Nat} (hB : Bs h) (hL : LoO h n v) (ha : gi h 87 11 = iN a) (hn : n ≤ 96) (hl : a < n) {e : Nat} (hd : 0 ≤ e) (K : Option Value → Hp → Prop) : Cal e 226 [.ref 87] h K = K (some (.int (iN (v a)))) (h) := Cal_eq (o_hereT (hB := hB) (hL := hL) (ha := ha) (hn := hn) (hl := hl)) hd K
theorem o_hereF {h : Hp} {n a : Nat} {v : Nat → Nat} (hB : Bs h) (hL : LoO h n v) (ha : gi h 87 11 = iN a) (hn : n ≤ 96) (hl : ¬ a < n) (ha2 : a < 1000) : Ret 0 226 [.ref 87] h (some (.int (zI (-1)))) (h) := by
  refine Ret_L [some (.ref 87)] rfl rfl fun Q hQ => ?_
  obtain ⟨oO, r9, r14, r15, r16, a94, a95, a96, a97, s94, s95, s96, s97⟩ := L_facts hB
  have l1 := hL.1
  (refine wp_go 600 ks_226_0.1 ?_; simp (disch := first | with_reducible assumption | omega | (simp only [ob_si, ar_si, ob_sl, ar_sl]; with_reducible assumption)) only [cm_1, ldA_a, r_2, r_30, r_44, r_6, r_60, r_62, r_70, r_90, wpn_S, wpn_zero, stp_h, lk_0, lk_s, st1_0, st1_1, st1_2, st2_0, st2_1, st2_2, kj_i, kj_a, kj_l, kj_n, cat_n, cat_i, cat_a, cat_u, cat_l, vc_i, vc_a, rv_s, tl_n, tl_s, Cal'_s, List.length_cons, List.length_nil, i0, i1, iNd, iN_lt, iN_le, iN_eq, iN_add, iN_mul, iN_mod, iN_sub, iN_div, iN_clamp, iN_inb, zle_N, zlt_N, zN_le, zN_lt, zN_eq, Nz_eq, mI_t, mI_f, bI_0, bI_1, bI_t, bI_f, dltT, dltF, dleT, dleF, deqT, deqF, Nat.not_lt_zero, not_true_eq_false, not_false_eq_true, true_and, and_true, false_and, and_false, or_true, true_or, false_or, or_false, and_self, if_true, if_false, Classical.not_not, Nat.add_assoc, Nat.zero_add, Nat.add_zero, bI_or, bI_True, bI_False, Bool.false_eq_true, reduceCtorEq, eq_self, gi_si, gl_si, gr_si, hn_si, hL_si, hX_si, gi_sl, gl_sl, gr_sl, hn_sl, ob_si, ar_si, ob_sl, ar_sl, ks_226_0, oO, r9, a94, s94, ha, l1])
  exact hQ
theorem o_hereF_q {h : Hp} {n a : Nat} {v : Nat → Nat} (hB : Bs h) (hL : LoO h n v) (ha : gi h 87 11 = iN a) (hn : n ≤ 96) (hl : ¬ a < n) (ha2 : a < 1000) {e : Nat} (hd : 0 ≤ e) (K : Option Value → Hp → Prop) : Cal e 226 [.ref 87] h K = K (some (.int (zI (-1)))) (h) := Cal_eq (o_hereF (hB := hB) (hL := hL) (ha := ha) (hn := hn) (hl := hl) (ha2 := ha2)) hd K
noncomputable def dgOK (v : Nat → Nat) (n a : Nat) : Prop := a < n ∧ 48 ≤ v a ∧ v a ≤ 57
noncomputable def d1S (v : Nat → Nat) (n : Nat) (s : Nat × Bool) : Nat × Bool := @ite _ (s.2 = false ∧ dgOK v n s.1) (Classical.propDecidable _) (s.1 + 1, false) (s.1, true)
theorem d1_t {v : Nat → Nat} {n a : Nat} (h : dgOK v n a) : d1S v n (a, false) = (a + 1, false) := if_pos ⟨rfl, h⟩
theorem d1_f {v : Nat → Nat} {n a : Nat} (h : ¬ dgOK v n a) : d1S v n (a, false) = (a, true) := if_neg (fun e => h e.2)
theorem d1_b (v : Nat → Nat) (n a : Nat) : d1S v n (a, true) = (a, true) := if_neg (fun e => by cases e.1)
theorem rp1_b (v : Nat → Nat) (n a : Nat) : ∀ m, rp (d1S v n) m (a, true) = (a, true)
  | 0 => rfl
  | m + 1 => by rw [rp_s, rp1_b v n a m, d1_b]
theorem rp1_t {v : Nat → Nat} {n a : Nat} : ∀ m, (∀ q, q < m → dgOK v n (a + q)) → rp (d1S v n) m (a, false) = (a + m, false)
  | 0, _ => rfl
  | m + 1, h => by rw [rp_s, rp1_t m (fun q hq => h q (by omega)), d1_t (h m (by omega))]; rfl
theorem rp1_f {v : Nat → Nat} {n a j m : Nat} (h : ∀ q, q < j → dgOK v n (a + q)) (hj : j < m) (hf : ¬ dgOK v n (a + j)) : rp (d1S v n) m (a, false) = (a + j, true) := by
  obtain ⟨r, rfl⟩ : ∃ r, m = j + 1 + r := ⟨m - j - 1, by omega⟩
  rw [rp_add, rp_s, rp1_t j h, d1_f hf, rp1_b]
theorem d1_le {v : Nat → Nat} {n : Nat} {s : Nat × Bool} (h : s.1 ≤ n) : (d1S v n s).1 ≤ n := by
  unfold d1S
  by_cases c : s.2 = false ∧ dgOK v n s.1
  · rw [if_pos c]; exact c.2.1
  · rw [if_neg c]; exact h
theorem rp1_le {v : Nat → Nat} {n : Nat} : ∀ m a b, a ≤ n → (rp (d1S v n) m (a, b)).1 ≤ n
  | 0, a, b, h => h
  | m + 1, a, b, h => by
    rw [rp_s]
    exact d1_le (rp1_le (v := v) m a b h)
theorem rp1_ok {v : Nat → Nat} {n : Nat} : ∀ m a b, (rp (d1S v n) m (a, b)).2 = false → b = false ∧ rp (d1S v n) m (a, b) = (a + m, false) ∧ ∀ q, q < m → dgOK v n (a + q)
  | 0, a, b, h => ⟨h, by show (a, b) = (a, false); rw [show b = false from h], fun q hq => absurd hq (Nat.not_lt_zero q)⟩
  | m + 1, a, b, h => by
    rw [rp_s] at h ⊢
    by_cases c : (rp (d1S v n) m (a, b)).2 = false ∧ dgOK v n (rp (d1S v n) m (a, b)).1
    · obtain ⟨e1, e2, e3⟩ := rp1_ok m a b c.1
      rw [e2] at c ⊢
      refine ⟨e1, by rw [d1_t c.2]; rfl, fun q hq => ?_⟩
      by_cases e : q = m
      · rw [e]; exact c.2
      · exact e3 q (by omega)
    · rw [show d1S v n (rp (d1S v n) m (a, b)) = ((rp (d1S v n) m (a, b)).1, true) from if_neg c] at h
      cases h
/-- where the model reads, and whether it is amiss -/
noncomputable def Ps (h : Hp) (s : Nat × Bool) : Prop := gi h 87 11 = iN s.1 ∧ gi h 87 12 = nB s.2
noncomputable def F12 : Nat → Prop := fun k => k = 11 ∨ k = 12
noncomputable def noS : Nat → Prop := fun _ => False
theorem LoO.fr2 {h h' : Hp} {n : Nat} {v : Nat → Nat} {S F : Nat → Prop} (hL : LoO h n v) (f : Fo S F h h') (h1 : ¬ S 94) (h2 : ¬ F 10) : LoO h' n v := by
  unfold LoO
  rw [f.2 10 h2, f.i h1 (by omega)]; exact hL
theorem Ps_2 {h : Hp} (a : Nat) (b : Bool) : Ps (si (si h 87 12 (nB b)) 87 11 (iN a)) (a, b) := ⟨by rw [gi_si, up_s, up_s], by rw [gi_si, up_s, up_f (by omega), gi_si, up_s, up_s]⟩
theorem rd_w {h : Hp} {n m k val a : Nat} {b : Bool} {v : Nat → Nat} {Q : Option Value → Hp → Prop} (hB : Bs h) (hL : LoO h n v) (hn : n ≤ 96) (hv : ∀ k, v k ≤ 255) (hP : Ps h (a, b)) (ha : a ≤ n) (hm : m ≤ 2) (hk : k < m) (hval : val ≤ 1000) (hK : ∀ h', Ps h' (d1S v n (a, b)) → Fo noS F12 h h' → wp 1 227 4 [some (.ref 87), some (.int (iN m)), some (.int (iN (if (d1S v n (a, b)).2 = true then 0 else 10 * val + dv v a))), some (.int (iN (k + 1)))] [] h' Q) : wp 1 227 4 [some (.ref 87), some (.int (iN m)), some (.int (iN val)), some (.int (iN k))] [] h Q := by
  obtain ⟨oO, r9, r14, r15, r16, a94, a95, a96, a97, s94, s95, s96, s97⟩ := L_facts hB
  obtain ⟨p1, p2⟩ := hP
  simp only at p1 p2
  have f2 : ∀ b' a', Fo noS F12 h (si (si h 87 12 (nB b')) 87 11 (iN a')) := fun b' a' => ((Fo.rf _ _ h).sf (by unfold F12; omega) _).sf (by unfold F12; omega) _
  have hva := hv a
  cases b with
  | true =>
    rw [nB_t] at p2
    rw [d1_b] at hK
    have hK := hK _ (Ps_2 a true) (f2 true a)
    rw [if_pos rfl, nB_t] at hK
    (refine wp_go 600 ks_227_0.2.2.2.2.1 ?_; simp (disch := first | with_reducible assumption | omega | (simp only [ob_si, ar_si, ob_sl, ar_sl]; with_reducible assumption)) only [ci_0, ci_1, ci_10, ci_48, cl_48, cl_57, iN_l, inc_i, jN_add, jN_div, jN_eq, jN_le, jN_lt, jN_mod, jN_mul, jN_sub, l0, lc_eq, lc_ge, lc_gt, lc_le, lc_lt, ldA_a, ldI_i, oc_226, r_0, r_10, r_11, r_12, r_2, r_27, r_3, r_30, r_31, r_32, r_44, r_50, r_6, r_60, r_62, r_63, r_64, r_7, r_70, r_80_1, r_81_3, r_9, r_90, wpn_S, wpn_zero, stp_h, lk_0, lk_s, st1_0, st1_1, st1_2, st2_0, st2_1, st2_2, kj_i, kj_a, kj_l, kj_n, cat_n, cat_i, cat_a, cat_u, cat_l, vc_i, vc_a, rv_s, tl_n, tl_s, Cal'_s, List.length_cons, List.length_nil, i0, i1, iNd, iN_lt, iN_le, iN_eq, iN_add, iN_mul, iN_mod, iN_sub, iN_div, iN_clamp, iN_inb, zle_N, zlt_N, zN_le, zN_lt, zN_eq, Nz_eq, mI_t, mI_f, bI_0, bI_1, bI_t, bI_f, dltT, dltF, dleT, dleF, deqT, deqF, Nat.not_lt_zero, not_true_eq_false, not_false_eq_true, true_and, and_true, false_and, and_false, or_true, true_or, false_or, or_false, and_self, if_true, if_false, Classical.not_not, Nat.add_assoc, Nat.zero_add, Nat.add_zero, bI_or, bI_True, bI_False, Bool.false_eq_true, reduceCtorEq, eq_self, gi_si, gl_si, gr_si, hn_si, hL_si, hX_si, gi_sl, gl_sl, gr_sl, hn_sl, ob_si, ar_si, ob_sl, ar_sl, ks_227_0, ks_227_1, ks_227_2, oO, p1, p2, up_t, up_f])
    exact hK
  | false =>
    rw [nB_f] at p2
    by_cases hd : dgOK v n a
    · obtain ⟨d1, d2, d3⟩ := id hd
      rw [d1_t hd] at hK
      have hK := hK _ (Ps_2 (a + 1) false) (f2 false (a + 1))
      rw [if_neg (show ¬ (a + 1, false).2 = true from Bool.false_ne_true), nB_f] at hK
      have rh := o_hereT hB hL p1 hn d1
      have l2 := hL.2 a (by omega)
      have ed : 10 * val + v a - 48 = 10 * val + dv v a := by unfold dv; omega
      rw [← ed] at hK
      (refine wp_go 600 ks_227_0.2.2.2.2.1 ?_; simp (disch := first | with_reducible assumption | omega | (simp only [ob_si, ar_si, ob_sl, ar_sl]; with_reducible assumption)) only [ci_0, ci_1, ci_10, ci_48, cl_48, cl_57, iN_l, inc_i, jN_add, jN_div, jN_eq, jN_le, jN_lt, jN_mod, jN_mul, jN_sub, l0, lc_eq, lc_ge, lc_gt, lc_le, lc_lt, ldA_a, ldI_i, oc_226, r_0, r_10, r_11, r_12, r_2, r_27, r_3, r_30, r_31, r_32, r_44, r_50, r_6, r_60, r_62, r_63, r_64, r_7, r_70, r_80_1, r_81_3, r_9, r_90, wpn_S, wpn_zero, stp_h, lk_0, lk_s, st1_0, st1_1, st1_2, st2_0, st2_1, st2_2, kj_i, kj_a, kj_l, kj_n, cat_n, cat_i, cat_a, cat_u, cat_l, vc_i, vc_a, rv_s, tl_n, tl_s, Cal'_s, List.length_cons, List.length_nil, i0, i1, iNd, iN_lt, iN_le, iN_eq, iN_add, iN_mul, iN_mod, iN_sub, iN_div, iN_clamp, iN_inb, zle_N, zlt_N, zN_le, zN_lt, zN_eq, Nz_eq, mI_t, mI_f, bI_0, bI_1, bI_t, bI_f, dltT, dltF, dleT, dleF, deqT, deqF, Nat.not_lt_zero, not_true_eq_false, not_false_eq_true, true_and, and_true, false_and, and_false, or_true, true_or, false_or, or_false, and_self, if_true, if_false, Classical.not_not, Nat.add_assoc, Nat.zero_add, Nat.add_zero, bI_or, bI_True, bI_False, Bool.false_eq_true, reduceCtorEq, eq_self, gi_si, gl_si, gr_si, hn_si, hL_si, hX_si, gi_sl, gl_sl, gr_sl, hn_sl, ob_si, ar_si, ob_sl, ar_sl, ks_227_0, ks_227_1, ks_227_2, oO, p1, p2, Cal_eq rh, o_in_q trivial, r9, a94, s94, l2, up_t, up_f])
      exact hK
    · rw [d1_f hd] at hK
      have hK := hK _ (Ps_2 a true) (f2 true a)
      rw [if_pos rfl, nB_t] at hK
      by_cases d1 : a < n
      · have rh := o_hereT hB hL p1 hn d1
        by_cases d2 : 48 ≤ v a
        · have d3 : ¬ v a ≤ 57 := fun e => hd ⟨d1, d2, e⟩
          (refine wp_go 600 ks_227_0.2.2.2.2.1 ?_; simp (disch := first | with_reducible assumption | omega | (simp only [ob_si, ar_si, ob_sl, ar_sl]; with_reducible assumption)) only [ci_0, ci_1, ci_10, ci_48, cl_48, cl_57, iN_l, inc_i, jN_add, jN_div, jN_eq, jN_le, jN_lt, jN_mod, jN_mul, jN_sub, l0, lc_eq, lc_ge, lc_gt, lc_le, lc_lt, ldA_a, ldI_i, oc_226, r_0, r_10, r_11, r_12, r_2, r_27, r_3, r_30, r_31, r_32, r_44, r_50, r_6, r_60, r_62, r_63, r_64, r_7, r_70, r_80_1, r_81_3, r_9, r_90, wpn_S, wpn_zero, stp_h, lk_0, lk_s, st1_0, st1_1, st1_2, st2_0, st2_1, st2_2, kj_i, kj_a, kj_l, kj_n, cat_n, cat_i, cat_a, cat_u, cat_l, vc_i, vc_a, rv_s, tl_n, tl_s, Cal'_s, List.length_cons, List.length_nil, i0, i1, iNd, iN_lt, iN_le, iN_eq, iN_add, iN_mul, iN_mod, iN_sub, iN_div, iN_clamp, iN_inb, zle_N, zlt_N, zN_le, zN_lt, zN_eq, Nz_eq, mI_t, mI_f, bI_0, bI_1, bI_t, bI_f, dltT, dltF, dleT, dleF, deqT, deqF, Nat.not_lt_zero, not_true_eq_false, not_false_eq_true, true_and, and_true, false_and, and_false, or_true, true_or, false_or, or_false, and_self, if_true, if_false, Classical.not_not, Nat.add_assoc, Nat.zero_add, Nat.add_zero, bI_or, bI_True, bI_False, Bool.false_eq_true, reduceCtorEq, eq_self, gi_si, gl_si, gr_si, hn_si, hL_si, hX_si, gi_sl, gl_sl, gr_sl, hn_sl, ob_si, ar_si, ob_sl, ar_sl, ks_227_0, ks_227_1, ks_227_2, oO, p1, p2, Cal_eq rh, o_in_q trivial, up_t, up_f])
          exact hK
        · (refine wp_go 600 ks_227_0.2.2.2.2.1 ?_; simp (disch := first | with_reducible assumption | omega | (simp only [ob_si, ar_si, ob_sl, ar_sl]; with_reducible assumption)) only [ci_0, ci_1, ci_10, ci_48, cl_48, cl_57, iN_l, inc_i, jN_add, jN_div, jN_eq, jN_le, jN_lt, jN_mod, jN_mul, jN_sub, l0, lc_eq, lc_ge, lc_gt, lc_le, lc_lt, ldA_a, ldI_i, oc_226, r_0, r_10, r_11, r_12, r_2, r_27, r_3, r_30, r_31, r_32, r_44, r_50, r_6, r_60, r_62, r_63, r_64, r_7, r_70, r_80_1, r_81_3, r_9, r_90, wpn_S, wpn_zero, stp_h, lk_0, lk_s, st1_0, st1_1, st1_2, st2_0, st2_1, st2_2, kj_i, kj_a, kj_l, kj_n, cat_n, cat_i, cat_a, cat_u, cat_l, vc_i, vc_a, rv_s, tl_n, tl_s, Cal'_s, List.length_cons, List.length_nil, i0, i1, iNd, iN_lt, iN_le, iN_eq, iN_add, iN_mul, iN_mod, iN_sub, iN_div, iN_clamp, iN_inb, zle_N, zlt_N, zN_le, zN_lt, zN_eq, Nz_eq, mI_t, mI_f, bI_0, bI_1, bI_t, bI_f, dltT, dltF, dleT, dleF, deqT, deqF, Nat.not_lt_zero, not_true_eq_false, not_false_eq_true, true_and, and_true, false_and, and_false, or_true, true_or, false_or, or_false, and_self, if_true, if_false, Classical.not_not, Nat.add_assoc, Nat.zero_add, Nat.add_zero, bI_or, bI_True, bI_False, Bool.false_eq_true, reduceCtorEq, eq_self, gi_si, gl_si, gr_si, hn_si, hL_si, hX_si, gi_sl, gl_sl, gr_sl, hn_sl, ob_si, ar_si, ob_sl, ar_sl, ks_227_0, ks_227_1, ks_227_2, oO, p1, p2, Cal_eq rh, o_in_q trivial, up_t, up_f])
          exact hK
      · have rh := o_hereF hB hL p1 hn d1 (by omega)
        have ez : (jN 48 ≤ (zI (-1)).toInt64) = False := by
          rw [Int64.le_iff_toInt_le, jN_toInt (by omega), Int32.toInt_toInt64, iZ_toInt (by omega) (by omega)]
          exact eq_false (by omega)
        (refine wp_go 600 ks_227_0.2.2.2.2.1 ?_; simp (disch := first | with_reducible assumption | omega | (simp only [ob_si, ar_si, ob_sl, ar_sl]; with_reducible assumption)) only [ci_0, ci_1, ci_10, ci_48, cl_48, cl_57, iN_l, inc_i, jN_add, jN_div, jN_eq, jN_le, jN_lt, jN_mod, jN_mul, jN_sub, l0, lc_eq, lc_ge, lc_gt, lc_le, lc_lt, ldA_a, ldI_i, oc_226, r_0, r_10, r_11, r_12, r_2, r_27, r_3, r_30, r_31, r_32, r_44, r_50, r_6, r_60, r_62, r_63, r_64, r_7, r_70, r_80_1, r_81_3, r_9, r_90, wpn_S, wpn_zero, stp_h, lk_0, lk_s, st1_0, st1_1, st1_2, st2_0, st2_1, st2_2, kj_i, kj_a, kj_l, kj_n, cat_n, cat_i, cat_a, cat_u, cat_l, vc_i, vc_a, rv_s, tl_n, tl_s, Cal'_s, List.length_cons, List.length_nil, i0, i1, iNd, iN_lt, iN_le, iN_eq, iN_add, iN_mul, iN_mod, iN_sub, iN_div, iN_clamp, iN_inb, zle_N, zlt_N, zN_le, zN_lt, zN_eq, Nz_eq, mI_t, mI_f, bI_0, bI_1, bI_t, bI_f, dltT, dltF, dleT, dleF, deqT, deqF, Nat.not_lt_zero, not_true_eq_false, not_false_eq_true, true_and, and_true, false_and, and_false, or_true, true_or, false_or, or_false, and_self, if_true, if_false, Classical.not_not, Nat.add_assoc, Nat.zero_add, Nat.add_zero, bI_or, bI_True, bI_False, Bool.false_eq_true, reduceCtorEq, eq_self, gi_si, gl_si, gr_si, hn_si, hL_si, hX_si, gi_sl, gl_sl, gr_sl, hn_sl, ob_si, ar_si, ob_sl, ar_sl, ks_227_0, ks_227_1, ks_227_2, oO, p1, p2, Cal_eq rh, o_in_q trivial, ez, up_t, up_f])
        exact hK
theorem Fo12_tr {h h1 h2 : Hp} (f : Fo noS F12 h h1) (g : Fo noS F12 h1 h2) : Fo noS F12 h h2 := f.tr g
theorem o_digits1 {h : Hp} {n a : Nat} {b : Bool} {v : Nat → Nat} (hB : Bs h) (hL : LoO h n v) (hn : n ≤ 96) (hv : ∀ k, v k ≤ 255) (hP : Ps h (a, b)) (ha : a ≤ n) : ∃ h' w, Ret 1 227 [.ref 87, .int (iN 1)] h (some (.int (iN w))) h' ∧ Ps h' (rp (d1S v n) 1 (a, b)) ∧ ((rp (d1S v n) 1 (a, b)).2 = false → w = dv v a) ∧ Fo noS F12 h h' := by
  have key : ∀ Q : Option Value → Hp → Prop, (∀ h' w, Ps h' (rp (d1S v n) 1 (a, b)) → ((rp (d1S v n) 1 (a, b)).2 = false → w = dv v a) → Fo noS F12 h h' → Q (some (.int (iN w))) h') → wp 1 227 0 [some (.ref 87), some (.int (iN 1)), none, none] [] h Q := by
    intro Q hQ
    (refine wp_go 600 ks_227_0.1 ?_; simp (disch := first | with_reducible assumption | omega | (simp only [ob_si, ar_si, ob_sl, ar_sl]; with_reducible assumption)) only [ci_0, ci_1, ci_10, ci_48, cl_48, cl_57, iN_l, inc_i, jN_add, jN_div, jN_eq, jN_le, jN_lt, jN_mod, jN_mul, jN_sub, l0, lc_eq, lc_ge, lc_gt, lc_le, lc_lt, ldA_a, ldI_i, oc_226, r_0, r_10, r_11, r_12, r_2, r_27, r_3, r_30, r_31, r_32, r_44, r_50, r_6, r_60, r_62, r_63, r_64, r_7, r_70, r_80_1, r_81_3, r_9, r_90, wpn_S, wpn_zero, stp_h, lk_0, lk_s, st1_0, st1_1, st1_2, st2_0, st2_1, st2_2, kj_i, kj_a, kj_l, kj_n, cat_n, cat_i, cat_a, cat_u, cat_l, vc_i, vc_a, rv_s, tl_n, tl_s, Cal'_s, List.length_cons, List.length_nil, i0, i1, iNd, iN_lt, iN_le, iN_eq, iN_add, iN_mul, iN_mod, iN_sub, iN_div, iN_clamp, iN_inb, zle_N, zlt_N, zN_le, zN_lt, zN_eq, Nz_eq, mI_t, mI_f, bI_0, bI_1, bI_t, bI_f, dltT, dltF, dleT, dleF, deqT, deqF, Nat.not_lt_zero, not_true_eq_false, not_false_eq_true, true_and, and_true, false_and, and_false, or_true, true_or, false_or, or_false, and_self, if_true, if_false, Classical.not_not, Nat.add_assoc, Nat.zero_add, Nat.add_zero, bI_or, bI_True, bI_False, Bool.false_eq_true, reduceCtorEq, eq_self, gi_si, gl_si, gr_si, hn_si, hL_si, hX_si, gi_sl, gl_sl, gr_sl, hn_sl, ob_si, ar_si, ob_sl, ar_sl, ks_227_0, ks_227_1, ks_227_2])
    refine rd_w hB hL hn hv hP ha (by omega) (by omega) (Nat.zero_le _) fun h' P' f' => ?_
    have hQ := hQ h' (if (d1S v n (a, b)).2 = true then 0 else 10 * 0 + dv v a) P' (fun e => by
      have e : (d1S v n (a, b)).2 = false := e
      rw [e, if_neg (by decide)]; omega) f'
    (refine wp_go 600 ks_227_0.2.2.2.2.1 ?_; simp (disch := first | with_reducible assumption | omega | (simp only [ob_si, ar_si, ob_sl, ar_sl]; with_reducible assumption)) only [ci_0, ci_1, ci_10, ci_48, cl_48, cl_57, iN_l, inc_i, jN_add, jN_div, jN_eq, jN_le, jN_lt, jN_mod, jN_mul, jN_sub, l0, lc_eq, lc_ge, lc_gt, lc_le, lc_lt, ldA_a, ldI_i, oc_226, r_0, r_10, r_11, r_12, r_2, r_27, r_3, r_30, r_31, r_32, r_44, r_50, r_6, r_60, r_62, r_63, r_64, r_7, r_70, r_80_1, r_81_3, r_9, r_90, wpn_S, wpn_zero, stp_h, lk_0, lk_s, st1_0, st1_1, st1_2, st2_0, st2_1, st2_2, kj_i, kj_a, kj_l, kj_n, cat_n, cat_i, cat_a, cat_u, cat_l, vc_i, vc_a, rv_s, tl_n, tl_s, Cal'_s, List.length_cons, List.length_nil, i0, i1, iNd, iN_lt, iN_le, iN_eq, iN_add, iN_mul, iN_mod, iN_sub, iN_div, iN_clamp, iN_inb, zle_N, zlt_N, zN_le, zN_lt, zN_eq, Nz_eq, mI_t, mI_f, bI_0, bI_1, bI_t, bI_f, dltT, dltF, dleT, dleF, deqT, deqF, Nat.not_lt_zero, not_true_eq_false, not_false_eq_true, true_and, and_true, false_and, and_false, or_true, true_or, false_or, or_false, and_self, if_true, if_false, Classical.not_not, Nat.add_assoc, Nat.zero_add, Nat.add_zero, bI_or, bI_True, bI_False, Bool.false_eq_true, reduceCtorEq, eq_self, gi_si, gl_si, gr_si, hn_si, hL_si, hX_si, gi_sl, gl_sl, gr_sl, hn_sl, ob_si, ar_si, ob_sl, ar_sl, ks_227_0, ks_227_1, ks_227_2])
    exact hQ
  obtain ⟨u, h', r, w, rfl, P, g, f⟩ := Ret_ex (d := 1) (y := 227) (as := [.ref 87, .int (iN 1)]) [some (.ref 87), some (.int (iN 1)), none, none] rfl rfl (key (fun u h' => ∃ w, u = some (.int (iN w)) ∧ Ps h' (rp (d1S v n) 1 (a, b)) ∧ ((rp (d1S v n) 1 (a, b)).2 = false → w = dv v a) ∧ Fo noS F12 h h') fun h' w x1 x2 x3 => ⟨w, rfl, x1, x2, x3⟩)
  exact ⟨h', w, r, P, g, f⟩
theorem o_digits2 {h : Hp} {n a : Nat} {b : Bool} {v : Nat → Nat} (hB : Bs h) (hL : LoO h n v) (hn : n ≤ 96) (hv : ∀ k, v k ≤ 255) (hP : Ps h (a, b)) (ha : a ≤ n) : ∃ h' w, Ret 1 227 [.ref 87, .int (iN 2)] h (some (.int (iN w))) h' ∧ Ps h' (rp (d1S v n) 2 (a, b)) ∧ ((rp (d1S v n) 2 (a, b)).2 = false → w = tw2 v a) ∧ Fo noS F12 h h' := by
  have key : ∀ Q : Option Value → Hp → Prop, (∀ h' w, Ps h' (rp (d1S v n) 2 (a, b)) → ((rp (d1S v n) 2 (a, b)).2 = false → w = tw2 v a) → Fo noS F12 h h' → Q (some (.int (iN w))) h') → wp 1 227 0 [some (.ref 87), some (.int (iN 2)), none, none] [] h Q := by
    intro Q hQ
    (refine wp_go 600 ks_227_0.1 ?_; simp (disch := first | with_reducible assumption | omega | (simp only [ob_si, ar_si, ob_sl, ar_sl]; with_reducible assumption)) only [ci_0, ci_1, ci_10, ci_48, cl_48, cl_57, iN_l, inc_i, jN_add, jN_div, jN_eq, jN_le, jN_lt, jN_mod, jN_mul, jN_sub, l0, lc_eq, lc_ge, lc_gt, lc_le, lc_lt, ldA_a, ldI_i, oc_226, r_0, r_10, r_11, r_12, r_2, r_27, r_3, r_30, r_31, r_32, r_44, r_50, r_6, r_60, r_62, r_63, r_64, r_7, r_70, r_80_1, r_81_3, r_9, r_90, wpn_S, wpn_zero, stp_h, lk_0, lk_s, st1_0, st1_1, st1_2, st2_0, st2_1, st2_2, kj_i, kj_a, kj_l, kj_n, cat_n, cat_i, cat_a, cat_u, cat_l, vc_i, vc_a, rv_s, tl_n, tl_s, Cal'_s, List.length_cons, List.length_nil, i0, i1, iNd, iN_lt, iN_le, iN_eq, iN_add, iN_mul, iN_mod, iN_sub, iN_div, iN_clamp, iN_inb, zle_N, zlt_N, zN_le, zN_lt, zN_eq, Nz_eq, mI_t, mI_f, bI_0, bI_1, bI_t, bI_f, dltT, dltF, dleT, dleF, deqT, deqF, Nat.not_lt_zero, not_true_eq_false, not_false_eq_true, true_and, and_true, false_and, and_false, or_true, true_or, false_or, or_false, and_self, if_true, if_false, Classical.not_not, Nat.add_assoc, Nat.zero_add, Nat.add_zero, bI_or, bI_True, bI_False, Bool.false_eq_true, reduceCtorEq, eq_self, gi_si, gl_si, gr_si, hn_si, hL_si, hX_si, gi_sl, gl_sl, gr_sl, hn_sl, ob_si, ar_si, ob_sl, ar_sl, ks_227_0, ks_227_1, ks_227_2])
    refine rd_w hB hL hn hv hP ha (by omega) (by omega) (Nat.zero_le _) fun h1 P1 f1 => ?_
    have hle := rp1_le (v := v) 1 a b ha
    change (d1S v n (a, b)).1 ≤ n at hle
    have hva := hv a
    have hb1 : (if (d1S v n (a, b)).2 = true then 0 else 10 * 0 + dv v a) ≤ 1000 := by unfold dv; split <;> omega
    have e2 : rp (d1S v n) 2 (a, b) = d1S v n (d1S v n (a, b)) := rfl
    rw [e2] at hQ
    have hok := rp1_ok (v := v) (n := n) 1 a b
    change (d1S v n (a, b)).2 = false → b = false ∧ d1S v n (a, b) = (a + 1, false) ∧ _ at hok
    generalize hs : d1S v n (a, b) = s at *
    obtain ⟨a1, b1⟩ := s
    refine rd_w (f1.bs hB) (hL.fr2 f1 id (by unfold F12; omega)) hn hv P1 hle (by omega) (by omega) hb1 fun h2 P2 f2 => ?_
    have hQ := hQ h2 (if (d1S v n (a1, b1)).2 = true then 0 else 10 * (if (a1, b1).2 = true then 0 else 10 * 0 + dv v a) + dv v a1) P2 (fun e => by
      rw [e, if_neg (by decide)]
      by_cases hb : b1 = false
      · obtain ⟨_, h2, _⟩ := hok hb
        cases h2
        rw [if_neg (by simp)]
        unfold tw2
        omega
      · have hb : b1 = true := by cases b1; exact absurd rfl hb; rfl
        subst hb
        rw [d1_b] at e; cases e) (f1.tr f2)
    (refine wp_go 600 ks_227_0.2.2.2.2.1 ?_; simp (disch := first | with_reducible assumption | omega | (simp only [ob_si, ar_si, ob_sl, ar_sl]; with_reducible assumption)) only [ci_0, ci_1, ci_10, ci_48, cl_48, cl_57, iN_l, inc_i, jN_add, jN_div, jN_eq, jN_le, jN_lt, jN_mod, jN_mul, jN_sub, l0, lc_eq, lc_ge, lc_gt, lc_le, lc_lt, ldA_a, ldI_i, oc_226, r_0, r_10, r_11, r_12, r_2, r_27, r_3, r_30, r_31, r_32, r_44, r_50, r_6, r_60, r_62, r_63, r_64, r_7, r_70, r_80_1, r_81_3, r_9, r_90, wpn_S, wpn_zero, stp_h, lk_0, lk_s, st1_0, st1_1, st1_2, st2_0, st2_1, st2_2, kj_i, kj_a, kj_l, kj_n, cat_n, cat_i, cat_a, cat_u, cat_l, vc_i, vc_a, rv_s, tl_n, tl_s, Cal'_s, List.length_cons, List.length_nil, i0, i1, iNd, iN_lt, iN_le, iN_eq, iN_add, iN_mul, iN_mod, iN_sub, iN_div, iN_clamp, iN_inb, zle_N, zlt_N, zN_le, zN_lt, zN_eq, Nz_eq, mI_t, mI_f, bI_0, bI_1, bI_t, bI_f, dltT, dltF, dleT, dleF, deqT, deqF, Nat.not_lt_zero, not_true_eq_false, not_false_eq_true, true_and, and_true, false_and, and_false, or_true, true_or, false_or, or_false, and_self, if_true, if_false, Classical.not_not, Nat.add_assoc, Nat.zero_add, Nat.add_zero, bI_or, bI_True, bI_False, Bool.false_eq_true, reduceCtorEq, eq_self, gi_si, gl_si, gr_si, hn_si, hL_si, hX_si, gi_sl, gl_sl, gr_sl, hn_sl, ob_si, ar_si, ob_sl, ar_sl, ks_227_0, ks_227_1, ks_227_2])
    exact hQ
  obtain ⟨u, h', r, w, rfl, P, g, f⟩ := Ret_ex (d := 1) (y := 227) (as := [.ref 87, .int (iN 2)]) [some (.ref 87), some (.int (iN 2)), none, none] rfl rfl (key (fun u h' => ∃ w, u = some (.int (iN w)) ∧ Ps h' (rp (d1S v n) 2 (a, b)) ∧ ((rp (d1S v n) 2 (a, b)).2 = false → w = tw2 v a) ∧ Fo noS F12 h h') fun h' w x1 x2 x3 => ⟨w, rfl, x1, x2, x3⟩)
  exact ⟨h', w, r, P, g, f⟩
theorem o_dig1S {h : Hp} {n : Nat} {s : Nat × Bool} {v : Nat → Nat} (hB : Bs h) (hL : LoO h n v) (hn : n ≤ 96) (hv : ∀ k, v k ≤ 255) (hP : Ps h s) (ha : s.1 ≤ n) : ∃ h' w, Ret 1 227 [.ref 87, .int (iN 1)] h (some (.int (iN w))) h' ∧ Ps h' (rp (d1S v n) 1 s) ∧ ((rp (d1S v n) 1 s).2 = false → w = dv v s.1) ∧ Fo noS F12 h h' := by
  obtain ⟨a, b⟩ := s
  exact o_digits1 hB hL hn hv hP ha
theorem o_dig2S {h : Hp} {n : Nat} {s : Nat × Bool} {v : Nat → Nat} (hB : Bs h) (hL : LoO h n v) (hn : n ≤ 96) (hv : ∀ k, v k ≤ 255) (hP : Ps h s) (ha : s.1 ≤ n) : ∃ h' w, Ret 1 227 [.ref 87, .int (iN 2)] h (some (.int (iN w))) h' ∧ Ps h' (rp (d1S v n) 2 s) ∧ ((rp (d1S v n) 2 s).2 = false → w = tw2 v s.1) ∧ Fo noS F12 h h' := by
  obtain ⟨a, b⟩ := s
  exact o_digits2 hB hL hn hv hP ha
noncomputable def S97 : Nat → Prop := fun o => o = 97
/-- the numbers of a statement with the letter c, told from a on -/
noncomputable def Nm (h : Hp) (v : Nat → Nat) (c k a : Nat) : Prop := gi h 97 (3 * k) = iN (if c = 100 then tw2 v a else dv v a) ∧ (¬ c = 100 → gi h 97 (3 * k + 1) = iN (if c = 104 then tw2 v (a + 1) else dv v (a + 1))) ∧ ((c = 112 ∨ c = 113) → gi h 97 (3 * k + 2) = iN (tw2 v (a + 2)))
theorem o_nums {h : Hp} {n c k a : Nat} {v : Nat → Nat} (hB : Bs h) (hL : LoO h n v) (hn : n ≤ 96) (hv : ∀ k, v k ≤ 255) (hP : Ps h (a, false)) (ha : a ≤ n) (hk : k < 49) (hc : ¬ dgN c = 0) : ∃ h', Ret 2 229 [.ref 87, .int (iN c), .int (iN (3 * k))] h none h' ∧ Ps h' (rp (d1S v n) (dgN c) (a, false)) ∧ ((rp (d1S v n) (dgN c) (a, false)).2 = false → Nm h' v c k a) ∧ (∀ j, j < 3 * k → gi h' 97 j = gi h 97 j) ∧ Fo S97 F12 h h' := by
  obtain ⟨oO, r9, r14, r15, r16, a94, a95, a96, a97, s94, s95, s96, s97⟩ := L_facts hB
  have up1 : ∀ {h1 h2 : Hp}, Fo noS F12 h1 h2 → Fo S97 F12 h1 h2 := fun f => f.mono (fun o ho => ho.elim) (fun k hk => hk)
  have sP : ∀ {h1 : Hp} {j : Nat} {w : Int32} {s : Nat × Bool}, Ps h1 s → Ps (si h1 97 j w) s := fun p => ⟨by rw [gi_si, up_f (by omega)]; exact p.1, by rw [gi_si, up_f (by omega)]; exact p.2⟩
  rcases dg_c hc with e | e | e | e | e
  -- p
  · subst e
    obtain ⟨h1, w1, q1, P1, g1, f1⟩ := o_digits1 hB hL hn hv hP ha
    have F1 : Fo S97 F12 h (si h1 97 (3 * k) (iN w1)) := (up1 f1).sa rfl (by omega) _ _
    have B1 := F1.bs hB
    have L1 := hL.fr2 F1 (by unfold S97; omega) (by unfold F12; omega)
    have le1 := rp1_le (v := v) 1 a false ha
    obtain ⟨h2, w2, q2, P2, g2, f2⟩ := o_dig1S B1 L1 hn hv (sP P1) le1
    have F2 : Fo S97 F12 h (si h2 97 (3 * k + 1) (iN w2)) := (F1.tr (up1 f2)).sa rfl (by omega) _ _
    have B2 := F2.bs hB
    have L2 := hL.fr2 F2 (by unfold S97; omega) (by unfold F12; omega)
    rw [show rp (d1S v n) 1 (rp (d1S v n) 1 (a, false)) = rp (d1S v n) 2 (a, false) from rfl] at P2 g2
    have le2 := rp1_le (v := v) 2 a false ha
    obtain ⟨h3, w3, q3, P3, g3, f3⟩ := o_dig2S B2 L2 hn hv (sP P2) le2
    rw [show rp (d1S v n) 2 (rp (d1S v n) 2 (a, false)) = rp (d1S v n) 4 (a, false) from rfl] at P3 g3
    have o1 := (L_facts (f1.bs hB)).1
    obtain ⟨oO1, r91, r141, r151, r161, x94, x95, x96, x97, _⟩ := L_facts (f1.bs hB)
    obtain ⟨oO2, r92, r142, r152, r162, y94, y95, y96, y97, _⟩ := L_facts (f2.bs B1)
    obtain ⟨oO3, r93, r143, r153, r163, z94, z95, z96, z97, _⟩ := L_facts (f3.bs B2)
    refine ⟨si h3 97 (3 * k + 2) (iN w3), ?_, sP P3, fun hok => ?_, fun j hj => ?_, (F2.tr (up1 f3)).sa rfl (by omega) _ _⟩
    · refine Ret_L [some (.ref 87), some (.int (iN 112)), some (.int (iN (3 * k)))] rfl rfl fun Q hQ => ?_
      (refine wp_go 600 ks_229_0.1 ?_; simp (disch := first | with_reducible assumption | omega | (simp only [ob_si, ar_si, ob_sl, ar_sl]; with_reducible assumption)) only [ci_1, ci_100, ci_104, ci_112, ci_113, ci_2, ldA_a, ldI_i, oc_227, r_0, r_10, r_2, r_30, r_41, r_42, r_6, r_62, r_71, r_80_2, r_94, wpn_S, wpn_zero, stp_h, lk_0, lk_s, st1_0, st1_1, st1_2, st2_0, st2_1, st2_2, kj_i, kj_a, kj_l, kj_n, cat_n, cat_i, cat_a, cat_u, cat_l, vc_i, vc_a, rv_s, tl_n, tl_s, Cal'_s, List.length_cons, List.length_nil, i0, i1, iNd, iN_lt, iN_le, iN_eq, iN_add, iN_mul, iN_mod, iN_sub, iN_div, iN_clamp, iN_inb, zle_N, zlt_N, zN_le, zN_lt, zN_eq, Nz_eq, mI_t, mI_f, bI_0, bI_1, bI_t, bI_f, dltT, dltF, dleT, dleF, deqT, deqF, Nat.not_lt_zero, not_true_eq_false, not_false_eq_true, true_and, and_true, false_and, and_false, or_true, true_or, false_or, or_false, and_self, if_true, if_false, Classical.not_not, Nat.add_assoc, Nat.zero_add, Nat.add_zero, bI_or, bI_True, bI_False, Bool.false_eq_true, reduceCtorEq, eq_self, gi_si, gl_si, gr_si, hn_si, hL_si, hX_si, gi_sl, gl_sl, gr_sl, hn_sl, ob_si, ar_si, ob_sl, ar_sl, ks_229_0, ks_229_1, ks_229_2, oO, r16, Cal_eq q1, r161, x97, s97, oO1, Cal_eq q2, r162, y97, oO2, Cal_eq q3, r163, z97, oO3])
      exact hQ
    · have k2 : (rp (d1S v n) 2 (a, false)).2 = false := by
        obtain ⟨_, _, d4⟩ := rp1_ok 4 a false hok
        rw [rp1_t 2 (fun q hq => d4 q (by omega))]
      obtain ⟨_, e2, d2⟩ := rp1_ok 2 a false k2
      have e1 : rp (d1S v n) 1 (a, false) = (a + 1, false) := rp1_t 1 (fun q hq => d2 q (by omega))
      have w1e := g1 (by rw [e1])
      have w2e := g2 k2
      have w3e := g3 hok
      rw [e1] at w2e
      rw [e2] at w3e
      refine ⟨?_, fun _ => ?_, fun _ => ?_⟩
      · rw [if_neg (by omega), gi_si, up_s, up_f (by omega), f3.i (o := 97) id (by omega), gi_si, up_s, up_f (by omega), f2.i (o := 97) id (by omega), gi_si, up_s, up_s, w1e]
      · rw [if_neg (by omega), gi_si, up_s, up_f (by omega), f3.i (o := 97) id (by omega), gi_si, up_s, up_s, w2e]
      · rw [gi_si, up_s, up_s, w3e]
    · rw [gi_si, up_s, up_f (by omega), f3.i (o := 97) id (by omega), gi_si, up_s, up_f (by omega), f2.i (o := 97) id (by omega), gi_si, up_s, up_f (by omega), f1.i (o := 97) id (by omega)]
  -- q
  · subst e
    obtain ⟨h1, w1, q1, P1, g1, f1⟩ := o_digits1 hB hL hn hv hP ha
    have F1 : Fo S97 F12 h (si h1 97 (3 * k) (iN w1)) := (up1 f1).sa rfl (by omega) _ _
    have B1 := F1.bs hB
    have L1 := hL.fr2 F1 (by unfold S97; omega) (by unfold F12; omega)
    have le1 := rp1_le (v := v) 1 a false ha
    obtain ⟨h2, w2, q2, P2, g2, f2⟩ := o_dig1S B1 L1 hn hv (sP P1) le1
    have F2 : Fo S97 F12 h (si h2 97 (3 * k + 1) (iN w2)) := (F1.tr (up1 f2)).sa rfl (by omega) _ _
    have B2 := F2.bs hB
    have L2 := hL.fr2 F2 (by unfold S97; omega) (by unfold F12; omega)
    rw [show rp (d1S v n) 1 (rp (d1S v n) 1 (a, false)) = rp (d1S v n) 2 (a, false) from rfl] at P2 g2
    have le2 := rp1_le (v := v) 2 a false ha
    obtain ⟨h3, w3, q3, P3, g3, f3⟩ := o_dig2S B2 L2 hn hv (sP P2) le2
    rw [show rp (d1S v n) 2 (rp (d1S v n) 2 (a, false)) = rp (d1S v n) 4 (a, false) from rfl] at P3 g3
    obtain ⟨oO1, r91, r141, r151, r161, x94, x95, x96, x97, _⟩ := L_facts (f1.bs hB)
    obtain ⟨oO2, r92, r142, r152, r162, y94, y95, y96, y97, _⟩ := L_facts (f2.bs B1)
    obtain ⟨oO3, r93, r143, r153, r163, z94, z95, z96, z97, _⟩ := L_facts (f3.bs B2)
    refine ⟨si h3 97 (3 * k + 2) (iN w3), ?_, sP P3, fun hok => ?_, fun j hj => ?_, (F2.tr (up1 f3)).sa rfl (by omega) _ _⟩
    · refine Ret_L [some (.ref 87), some (.int (iN 113)), some (.int (iN (3 * k)))] rfl rfl fun Q hQ => ?_
      (refine wp_go 600 ks_229_0.1 ?_; simp (disch := first | with_reducible assumption | omega | (simp only [ob_si, ar_si, ob_sl, ar_sl]; with_reducible assumption)) only [ci_1, ci_100, ci_104, ci_112, ci_113, ci_2, ldA_a, ldI_i, oc_227, r_0, r_10, r_2, r_30, r_41, r_42, r_6, r_62, r_71, r_80_2, r_94, wpn_S, wpn_zero, stp_h, lk_0, lk_s, st1_0, st1_1, st1_2, st2_0, st2_1, st2_2, kj_i, kj_a, kj_l, kj_n, cat_n, cat_i, cat_a, cat_u, cat_l, vc_i, vc_a, rv_s, tl_n, tl_s, Cal'_s, List.length_cons, List.length_nil, i0, i1, iNd, iN_lt, iN_le, iN_eq, iN_add, iN_mul, iN_mod, iN_sub, iN_div, iN_clamp, iN_inb, zle_N, zlt_N, zN_le, zN_lt, zN_eq, Nz_eq, mI_t, mI_f, bI_0, bI_1, bI_t, bI_f, dltT, dltF, dleT, dleF, deqT, deqF, Nat.not_lt_zero, not_true_eq_false, not_false_eq_true, true_and, and_true, false_and, and_false, or_true, true_or, false_or, or_false, and_self, if_true, if_false, Classical.not_not, Nat.add_assoc, Nat.zero_add, Nat.add_zero, bI_or, bI_True, bI_False, Bool.false_eq_true, reduceCtorEq, eq_self, gi_si, gl_si, gr_si, hn_si, hL_si, hX_si, gi_sl, gl_sl, gr_sl, hn_sl, ob_si, ar_si, ob_sl, ar_sl, ks_229_0, ks_229_1, ks_229_2, oO, r16, Cal_eq q1, r161, x97, s97, oO1, Cal_eq q2, r162, y97, oO2, Cal_eq q3, r163, z97, oO3])
      exact hQ
    · have k2 : (rp (d1S v n) 2 (a, false)).2 = false := by
        obtain ⟨_, _, d4⟩ := rp1_ok 4 a false hok
        rw [rp1_t 2 (fun q hq => d4 q (by omega))]
      obtain ⟨_, e2, d2⟩ := rp1_ok 2 a false k2
      have e1 : rp (d1S v n) 1 (a, false) = (a + 1, false) := rp1_t 1 (fun q hq => d2 q (by omega))
      have w1e := g1 (by rw [e1])
      have w2e := g2 k2
      have w3e := g3 hok
      rw [e1] at w2e
      rw [e2] at w3e
      refine ⟨?_, fun _ => ?_, fun _ => ?_⟩
      · rw [if_neg (by omega), gi_si, up_s, up_f (by omega), f3.i (o := 97) id (by omega), gi_si, up_s, up_f (by omega), f2.i (o := 97) id (by omega), gi_si, up_s, up_s, w1e]
      · rw [if_neg (by omega), gi_si, up_s, up_f (by omega), f3.i (o := 97) id (by omega), gi_si, up_s, up_s, w2e]
      · rw [gi_si, up_s, up_s, w3e]
    · rw [gi_si, up_s, up_f (by omega), f3.i (o := 97) id (by omega), gi_si, up_s, up_f (by omega), f2.i (o := 97) id (by omega), gi_si, up_s, up_f (by omega), f1.i (o := 97) id (by omega)]
  -- h
  · subst e
    obtain ⟨h1, w1, q1, P1, g1, f1⟩ := o_digits1 hB hL hn hv hP ha
    have F1 : Fo S97 F12 h (si h1 97 (3 * k) (iN w1)) := (up1 f1).sa rfl (by omega) _ _
    have B1 := F1.bs hB
    have L1 := hL.fr2 F1 (by unfold S97; omega) (by unfold F12; omega)
    have le1 := rp1_le (v := v) 1 a false ha
    obtain ⟨h2, w2, q2, P2, g2, f2⟩ := o_dig2S B1 L1 hn hv (sP P1) le1
    rw [show rp (d1S v n) 2 (rp (d1S v n) 1 (a, false)) = rp (d1S v n) 3 (a, false) from rfl] at P2 g2
    obtain ⟨oO1, r91, r141, r151, r161, x94, x95, x96, x97, _⟩ := L_facts (f1.bs hB)
    obtain ⟨oO2, r92, r142, r152, r162, y94, y95, y96, y97, _⟩ := L_facts (f2.bs B1)
    refine ⟨si h2 97 (3 * k + 1) (iN w2), ?_, sP P2, fun hok => ?_, fun j hj => ?_, (F1.tr (up1 f2)).sa rfl (by omega) _ _⟩
    · refine Ret_L [some (.ref 87), some (.int (iN 104)), some (.int (iN (3 * k)))] rfl rfl fun Q hQ => ?_
      (refine wp_go 600 ks_229_0.1 ?_; simp (disch := first | with_reducible assumption | omega | (simp only [ob_si, ar_si, ob_sl, ar_sl]; with_reducible assumption)) only [ci_1, ci_100, ci_104, ci_112, ci_113, ci_2, ldA_a, ldI_i, oc_227, r_0, r_10, r_2, r_30, r_41, r_42, r_6, r_62, r_71, r_80_2, r_94, wpn_S, wpn_zero, stp_h, lk_0, lk_s, st1_0, st1_1, st1_2, st2_0, st2_1, st2_2, kj_i, kj_a, kj_l, kj_n, cat_n, cat_i, cat_a, cat_u, cat_l, vc_i, vc_a, rv_s, tl_n, tl_s, Cal'_s, List.length_cons, List.length_nil, i0, i1, iNd, iN_lt, iN_le, iN_eq, iN_add, iN_mul, iN_mod, iN_sub, iN_div, iN_clamp, iN_inb, zle_N, zlt_N, zN_le, zN_lt, zN_eq, Nz_eq, mI_t, mI_f, bI_0, bI_1, bI_t, bI_f, dltT, dltF, dleT, dleF, deqT, deqF, Nat.not_lt_zero, not_true_eq_false, not_false_eq_true, true_and, and_true, false_and, and_false, or_true, true_or, false_or, or_false, and_self, if_true, if_false, Classical.not_not, Nat.add_assoc, Nat.zero_add, Nat.add_zero, bI_or, bI_True, bI_False, Bool.false_eq_true, reduceCtorEq, eq_self, gi_si, gl_si, gr_si, hn_si, hL_si, hX_si, gi_sl, gl_sl, gr_sl, hn_sl, ob_si, ar_si, ob_sl, ar_sl, ks_229_0, ks_229_1, ks_229_2, oO, r16, Cal_eq q1, r161, x97, s97, oO1, Cal_eq q2, r162, y97, oO2])
      exact hQ
    · have k1 : (rp (d1S v n) 1 (a, false)).2 = false := by
        obtain ⟨_, _, d4⟩ := rp1_ok 3 a false hok
        rw [rp1_t 1 (fun q hq => d4 q (by omega))]
      obtain ⟨_, e1, _⟩ := rp1_ok 1 a false k1
      have w1e := g1 k1
      have w2e := g2 hok
      rw [e1] at w2e
      refine ⟨?_, fun _ => ?_, fun q => absurd q (by omega)⟩
      · rw [if_neg (by omega), gi_si, up_s, up_f (by omega), f2.i (o := 97) id (by omega), gi_si, up_s, up_s, w1e]
      · rw [if_pos rfl, gi_si, up_s, up_s, w2e]
    · rw [gi_si, up_s, up_f (by omega), f2.i (o := 97) id (by omega), gi_si, up_s, up_f (by omega), f1.i (o := 97) id (by omega)]
  -- m
  · subst e
    obtain ⟨h1, w1, q1, P1, g1, f1⟩ := o_digits1 hB hL hn hv hP ha
    have F1 : Fo S97 F12 h (si h1 97 (3 * k) (iN w1)) := (up1 f1).sa rfl (by omega) _ _
    have B1 := F1.bs hB
    have L1 := hL.fr2 F1 (by unfold S97; omega) (by unfold F12; omega)
    have le1 := rp1_le (v := v) 1 a false ha
    obtain ⟨h2, w2, q2, P2, g2, f2⟩ := o_dig1S B1 L1 hn hv (sP P1) le1
    rw [show rp (d1S v n) 1 (rp (d1S v n) 1 (a, false)) = rp (d1S v n) 2 (a, false) from rfl] at P2 g2
    obtain ⟨oO1, r91, r141, r151, r161, x94, x95, x96, x97, _⟩ := L_facts (f1.bs hB)
    obtain ⟨oO2, r92, r142, r152, r162, y94, y95, y96, y97, _⟩ := L_facts (f2.bs B1)
    refine ⟨si h2 97 (3 * k + 1) (iN w2), ?_, sP P2, fun hok => ?_, fun j hj => ?_, (F1.tr (up1 f2)).sa rfl (by omega) _ _⟩
    · refine Ret_L [some (.ref 87), some (.int (iN 109)), some (.int (iN (3 * k)))] rfl rfl fun Q hQ => ?_
      (refine wp_go 600 ks_229_0.1 ?_; simp (disch := first | with_reducible assumption | omega | (simp only [ob_si, ar_si, ob_sl, ar_sl]; with_reducible assumption)) only [ci_1, ci_100, ci_104, ci_112, ci_113, ci_2, ldA_a, ldI_i, oc_227, r_0, r_10, r_2, r_30, r_41, r_42, r_6, r_62, r_71, r_80_2, r_94, wpn_S, wpn_zero, stp_h, lk_0, lk_s, st1_0, st1_1, st1_2, st2_0, st2_1, st2_2, kj_i, kj_a, kj_l, kj_n, cat_n, cat_i, cat_a, cat_u, cat_l, vc_i, vc_a, rv_s, tl_n, tl_s, Cal'_s, List.length_cons, List.length_nil, i0, i1, iNd, iN_lt, iN_le, iN_eq, iN_add, iN_mul, iN_mod, iN_sub, iN_div, iN_clamp, iN_inb, zle_N, zlt_N, zN_le, zN_lt, zN_eq, Nz_eq, mI_t, mI_f, bI_0, bI_1, bI_t, bI_f, dltT, dltF, dleT, dleF, deqT, deqF, Nat.not_lt_zero, not_true_eq_false, not_false_eq_true, true_and, and_true, false_and, and_false, or_true, true_or, false_or, or_false, and_self, if_true, if_false, Classical.not_not, Nat.add_assoc, Nat.zero_add, Nat.add_zero, bI_or, bI_True, bI_False, Bool.false_eq_true, reduceCtorEq, eq_self, gi_si, gl_si, gr_si, hn_si, hL_si, hX_si, gi_sl, gl_sl, gr_sl, hn_sl, ob_si, ar_si, ob_sl, ar_sl, ks_229_0, ks_229_1, ks_229_2, oO, r16, Cal_eq q1, r161, x97, s97, oO1, Cal_eq q2, r162, y97, oO2])
      exact hQ
    · obtain ⟨_, e2, d2⟩ := rp1_ok 2 a false hok
      have e1 : rp (d1S v n) 1 (a, false) = (a + 1, false) := rp1_t 1 (fun q hq => d2 q (by omega))
      have w1e := g1 (by rw [e1])
      have w2e := g2 hok
      rw [e1] at w2e
      refine ⟨?_, fun _ => ?_, fun q => absurd q (by omega)⟩
      · rw [if_neg (by omega), gi_si, up_s, up_f (by omega), f2.i (o := 97) id (by omega), gi_si, up_s, up_s, w1e]
      · rw [if_neg (by omega), gi_si, up_s, up_s, w2e]
    · rw [gi_si, up_s, up_f (by omega), f2.i (o := 97) id (by omega), gi_si, up_s, up_f (by omega), f1.i (o := 97) id (by omega)]
  -- d
  · subst e
    obtain ⟨h1, w1, q1, P1, g1, f1⟩ := o_digits2 hB hL hn hv hP ha
    obtain ⟨oO1, r91, r141, r151, r161, x94, x95, x96, x97, _⟩ := L_facts (f1.bs hB)
    refine ⟨si h1 97 (3 * k) (iN w1), ?_, sP P1, fun hok => ?_, fun j hj => ?_, (up1 f1).sa rfl (by omega) _ _⟩
    · refine Ret_L [some (.ref 87), some (.int (iN 100)), some (.int (iN (3 * k)))] rfl rfl fun Q hQ => ?_
      (refine wp_go 600 ks_229_0.1 ?_; simp (disch := first | with_reducible assumption | omega | (simp only [ob_si, ar_si, ob_sl, ar_sl]; with_reducible assumption)) only [ci_1, ci_100, ci_104, ci_112, ci_113, ci_2, ldA_a, ldI_i, oc_227, r_0, r_10, r_2, r_30, r_41, r_42, r_6, r_62, r_71, r_80_2, r_94, wpn_S, wpn_zero, stp_h, lk_0, lk_s, st1_0, st1_1, st1_2, st2_0, st2_1, st2_2, kj_i, kj_a, kj_l, kj_n, cat_n, cat_i, cat_a, cat_u, cat_l, vc_i, vc_a, rv_s, tl_n, tl_s, Cal'_s, List.length_cons, List.length_nil, i0, i1, iNd, iN_lt, iN_le, iN_eq, iN_add, iN_mul, iN_mod, iN_sub, iN_div, iN_clamp, iN_inb, zle_N, zlt_N, zN_le, zN_lt, zN_eq, Nz_eq, mI_t, mI_f, bI_0, bI_1, bI_t, bI_f, dltT, dltF, dleT, dleF, deqT, deqF, Nat.not_lt_zero, not_true_eq_false, not_false_eq_true, true_and, and_true, false_and, and_false, or_true, true_or, false_or, or_false, and_self, if_true, if_false, Classical.not_not, Nat.add_assoc, Nat.zero_add, Nat.add_zero, bI_or, bI_True, bI_False, Bool.false_eq_true, reduceCtorEq, eq_self, gi_si, gl_si, gr_si, hn_si, hL_si, hX_si, gi_sl, gl_sl, gr_sl, hn_sl, ob_si, ar_si, ob_sl, ar_sl, ks_229_0, ks_229_1, ks_229_2, oO, r16, Cal_eq q1, r161, x97, s97, oO1])
      exact hQ
    · refine ⟨?_, fun q => absurd rfl q, fun q => absurd q (by omega)⟩
      rw [if_pos rfl, gi_si, up_s, up_s, g1 hok]
    · rw [gi_si, up_s, up_f (by omega), f1.i (o := 97) id (by omega)]
