/-! Chance: weights of QUARRELS behind days on which one may be away -/
noncomputable def Wt (h : Hp) (a : Nat) (W : Nat → Nat) : Prop := ∀ r, r < 100 → gl h a r = jN (W r)
noncomputable def adW (V : Nat → Nat) (r w : Nat) : Nat → Nat := up V r (V r + w)
noncomputable def nxW (c c0 : Kp) (t : Nat) (W : Nat → Nat) (q : Nat) (V : Nat → Nat) : Nat → Nat := if W q = 0 then V else adW (adW V (dyN c q) (W q * (t - 1))) (dyN c0 q) (W q)
noncomputable def dW (c c0 : Kp) (t : Nat) (W : Nat → Nat) : Nat → Nat := itr (nxW c c0 t W) 0 100 (fun _ => 0)
/-- the weight of those told by P -/
noncomputable def pr (W P : Nat → Nat) (k : Nat) : Nat := itr (fun q a => a + W q * P q) 0 k 0
theorem pr_0 (W P : Nat → Nat) : pr W P 0 = 0 := rfl
theorem pr_s (W P : Nat → Nat) (k : Nat) : pr W P (k + 1) = pr W P k + W k * P k := by unfold pr; rw [itr_last, Nat.zero_add]
theorem pr_ad (V P : Nat → Nat) (r w : Nat) : ∀ k, pr (adW V r w) P k = pr V P k + if r < k then w * P r else 0
  | 0 => by rw [pr_0, pr_0, if_neg (by omega)]
  | k + 1 => by
    rw [pr_s, pr_s, pr_ad V P r w k]
    unfold adW
    by_cases e : k = r
    · rw [up_t e, e, if_neg (by omega), if_pos (by omega), Nat.add_mul]; omega
    · rw [up_f e]
      by_cases l : r < k
      · rw [if_pos l, if_pos (by omega)]; omega
      · rw [if_neg l, if_neg (by omega)]; omega
theorem pr_nx {c c0 : Kp} {t m : Nat} {W P : Nat → Nat} (hm : m = 100) : ∀ (k : Nat) (V : Nat → Nat), k ≤ 100 → pr (itr (nxW c c0 t W) 0 k V) P m = pr V P m + (pr W (fun q => (t - 1) * P (dyN c q)) k + pr W (fun q => P (dyN c0 q)) k)
  | 0, V, _ => by rw [itr_0, pr_0, pr_0]; omega
  | k + 1, V, hk => by
    have ih := pr_nx (c := c) (c0 := c0) (t := t) (W := W) (P := P) hm k V (by omega)
    have b1 := dyN_b (c := c0) (q := k) (by omega)
    have b2 := dyN_b (c := c) (q := k) (by omega)
    rw [itr_last, Nat.zero_add, pr_s W, pr_s W]
    generalize itr (nxW c c0 t W) 0 k V = U at *
    by_cases e : W k = 0
    · rw [show nxW c c0 t W k U = U from if_pos e, e, Nat.zero_mul, Nat.zero_mul]; exact ih
    · rw [show nxW c c0 t W k U = adW (adW U (dyN c k) (W k * (t - 1))) (dyN c0 k) (W k) from if_neg e, pr_ad, pr_ad, if_pos (by omega), if_pos (by omega), ih, Nat.mul_assoc]
      omega
theorem pr_z (P : Nat → Nat) : ∀ k, pr (fun _ => 0) P k = 0
  | 0 => rfl
  | k + 1 => by rw [pr_s, pr_z P k, Nat.zero_mul]
theorem pr_d (c c0 : Kp) (t : Nat) (W P : Nat → Nat) : pr (dW c c0 t W) P 100 = pr W (fun q => (t - 1) * P (dyN c q)) 100 + pr W (fun q => P (dyN c0 q)) 100 := by
  unfold dW
  rw [pr_nx rfl 100 _ (Nat.le_refl 100), pr_z, Nat.zero_add]
theorem pr_ge (W P : Nat → Nat) : ∀ k q, q < k → W q * P q ≤ pr W P k
  | k + 1, q, h => by
    rw [pr_s]
    by_cases e : q = k
    · rw [e]; omega
    · have := pr_ge W P k q (by omega); omega
theorem pr_add (W P R : Nat → Nat) : ∀ k, pr W (fun q => P q + R q) k = pr W P k + pr W R k
  | 0 => rfl
  | k + 1 => by rw [pr_s, pr_s, pr_s, pr_add W P R k, Nat.mul_add]; omega
/-- one day back -/
noncomputable def bkT (c c0 : Kp) (t : Nat) (P : Nat → Nat) : Nat → Nat := fun q => (t - 1) * P (dyN c q) + P (dyN c0 q)
theorem pr_T (c c0 : Kp) (t : Nat) (W P : Nat → Nat) : pr (dW c c0 t W) P 100 = pr W (bkT c c0 t P) 100 := by rw [pr_d, ← pr_add]; rfl
theorem pr_n (c c0 : Kp) (t : Nat) (W : Nat → Nat) : ∀ (k : Nat) (P : Nat → Nat), pr (rp (dW c c0 t) k W) P 100 = pr W (rp (bkT c c0 t) k P) 100
  | 0, _ => rfl
  | k + 1, P => by rw [rp_s, pr_T, pr_n c c0 t W k, rp_f, rp_s]
noncomputable def one1 : Nat → Nat := fun _ => 1
theorem bk_1 (c c0 : Kp) {t : Nat} (ht : 1 ≤ t) : ∀ (k q : Nat), rp (bkT c c0 t) k one1 q = t ^ k
  | 0, q => rfl
  | k + 1, q => by
    rw [rp_s]
    show (t - 1) * rp (bkT c c0 t) k one1 (dyN c q) + rp (bkT c c0 t) k one1 (dyN c0 q) = t ^ (k + 1)
    rw [bk_1 c c0 ht k, bk_1 c c0 ht k, Nat.pow_succ, Nat.mul_comm (t ^ k) t]
    generalize t ^ k = z
    obtain ⟨u, rfl⟩ : ∃ u, t = u + 1 := ⟨t - 1, by omega⟩
    rw [Nat.add_sub_cancel, Nat.add_mul, Nat.one_mul]
noncomputable def dl (q0 : Nat) : Nat → Nat := fun q => if q = q0 then 1 else 0
theorem pr_dl (q0 : Nat) (P : Nat → Nat) : ∀ k, pr (dl q0) P k = if q0 < k then P q0 else 0
  | 0 => rfl
  | k + 1 => by
    rw [pr_s, pr_dl q0 P k]
    unfold dl
    by_cases e : k = q0
    · rw [if_pos e, if_neg (by omega), if_pos (by omega), e]; omega
    · rw [if_neg e, Nat.zero_mul]
      by_cases l : q0 < k
      · rw [if_pos l, if_pos (by omega)]; rfl
      · rw [if_neg l, if_neg (by omega)]
/-- what lies in the row after k days -/
noncomputable def wkW (c c0 : Kp) (t q0 k : Nat) : Nat → Nat := rp (dW c c0 t) k (dl q0)
theorem wk_le {c c0 : Kp} {t q0 k r : Nat} (ht : 1 ≤ t) (hq : q0 < 100) (hr : r < 100) : wkW c c0 t q0 k r ≤ t ^ k := by
  have h1 := pr_ge (wkW c c0 t q0 k) one1 100 r hr
  unfold wkW at h1 ⊢
  rw [pr_n, pr_dl, if_pos hq, bk_1 c c0 ht k] at h1
  simpa [one1] using h1
theorem pow_8 {t k : Nat} (ht : t ≤ 20) (hk : k ≤ 8) : t ^ k ≤ 25600000000 := by
  by_cases h0 : t = 0
  · subst h0
    by_cases k0 : k = 0
    · subst k0; decide
    · rw [Nat.zero_pow (by omega)]; omega
  · exact Nat.le_trans (Nat.pow_le_pow_left ht k) (Nat.le_trans (Nat.pow_le_pow_right (by omega) hk) (by decide))
noncomputable def Sn : Nat → Prop := fun o => o = 19 ∨ o = 20 ∨ o = 29 ∨ o = 30 ∨ o = 31
theorem N_facts {h : Hp} (hB : Bs h) : ob h 29 0 ∧ gr h 29 0 = some 1 ∧ gr h 29 1 = some 19 ∧ gr h 29 2 = some 30 ∧ gr h 29 3 = some 31 ∧ ar h 2 30 ∧ ar h 2 31 ∧ (SH 30).2 = 100 ∧ (SH 31).2 = 100 := ⟨hB.ob (by decide) (by decide), hB.r (by decide), hB.r (by decide), hB.r (by decide), hB.r (by decide), hB.ar (by decide) (by decide), hB.ar (by decide) (by decide), by decide, by decide⟩
theorem n_add {h : Hp} {a q : Nat} {w : Int64} (ha : ar h 2 a) (hs : (SH a).2 = 100) (hq : q < 100) : Ret 0 5 [.ref a, .int (iN q), .long w] h none (sl h a q (gl h a q + w)) := by
  refine Ret_L [some (.ref a), some (.int (iN q)), some (.long w), none] rfl rfl fun Q hQ => ?_
  (refine wp_go 600 ks_5_0.1 ?_; simp (disch := first | assumption | (simp only [ob_si, ar_si, ob_sl, ar_sl]; assumption) | omega) only [iN_l, jN_add, jN_div, jN_eq, jN_le, jN_lt, jN_mod, jN_mul, jN_sub, l0, lc_eq, lc_ge, lc_gt, lc_le, lc_lt, ldA_a, ldI_i, ldL_l, r_0, r_1, r_2, r_21, r_33, r_44, r_51, r_72, r_73, r_76, r_94, wpn_S, wpn_zero, stp_h, lk_0, lk_s, st1_0, st1_1, st1_2, st2_0, st2_1, st2_2, kj_i, kj_a, kj_l, kj_n, cat_n, cat_i, cat_a, cat_u, cat_l, vc_i, vc_a, rv_s, tl_n, tl_s, Cal'_s, List.length_cons, List.length_nil, i0, i1, iNd, iN_lt, iN_le, iN_eq, iN_add, iN_mul, iN_mod, iN_sub, iN_div, iN_clamp, iN_inb, zle_N, zlt_N, zN_le, zN_lt, zN_eq, Nz_eq, mI_t, mI_f, bI_0, bI_1, bI_t, bI_f, dltT, dltF, dleT, dleF, deqT, deqF, Nat.not_lt_zero, not_true_eq_false, not_false_eq_true, true_and, and_true, false_and, and_false, or_true, true_or, false_or, or_false, and_self, if_true, if_false, Classical.not_not, Nat.add_assoc, Nat.zero_add, Nat.add_zero, bI_or, bI_True, bI_False, Bool.false_eq_true, reduceCtorEq, eq_self, gi_si, gl_si, gr_si, hn_si, hL_si, hX_si, gi_sl, gl_sl, gr_sl, hn_sl, ob_si, ar_si, ob_sl, ar_sl, ks_5_0, ha, ha.1, ha.2, hs])
  exact hQ
theorem n_add_q {h : Hp} {a q : Nat} {w : Int64} (ha : ar h 2 a) (hs : (SH a).2 = 100) (hq : q < 100) {e : Nat} (hd : 0 ≤ e) (K : Option Value → Hp → Prop) : Cal e 5 [.ref a, .int (iN q), .long w] h K = K none (sl h a q (gl h a q + w)) := Cal_eq (n_add (ha := ha) (hs := hs) (hq := hq)) hd K
theorem Wt_add {h : Hp} {a q w : Nat} {V : Nat → Nat} (hV : Wt h a V) (hq : q < 100) : Wt (sl h a q (gl h a q + jN w)) a (adW V q w) := by
  intro r hr
  rw [gl_sl, up_s]
  unfold adW
  by_cases e : r = q
  · rw [up_t e, up_t e, hV q hq, jN_add]
  · rw [up_f e, up_f e]; exact hV r hr
theorem Wt_o {h : Hp} {a b q : Nat} {w : Int64} {V : Nat → Nat} (hV : Wt h a V) (hab : ¬ a = b) : Wt (sl h b q w) a V := by
  intro r hr
  rw [gl_sl, up_f hab]; exact hV r hr
theorem Wt.fr {h h' : Hp} {a : Nat} {W : Nat → Nat} {S : Nat → Prop} (hW : Wt h a W) (f : Fr S h h') (hs : ¬ S a) : Wt h' a W := by intro r hr; rw [f.l hs]; exact hW r hr
theorem Kn_sl {h : Hp} {c : Kp} {o k : Nat} {w : Int64} (hK : Kn h c) : Kn (sl h o k w) c := hK
theorem n_day {h : Hp} {c : Kp} {t : Nat} {W : Nat → Nat} (hB : Bs h) (hK : Kf h c) (hk : kb c) (ht : 1 ≤ t) (ht2 : t ≤ 20) (h30 : Wt h 30 W) (h31 : Wt h 31 (fun _ => 0)) (hw : ∀ q, q < 100 → W q < 4611686018427387904) : ∃ h', Ret 3 4 [.ref 29, .int (iN c.1), .int (iN t)] h none h' ∧ Kf h' c ∧ Wt h' 30 (dW c (0, c.2) t W) ∧ Wt h' 31 (fun _ => 0) ∧ gl h' 29 = gl h 29 ∧ Fr Sn h h' := by
  have hk0 : kb (0, c.2) := kb_1 hk (by omega)
  have key : ∀ Q : Option Value → Hp → Prop, (∀ h', Kf h' c → Wt h' 30 (dW c (0, c.2) t W) → Wt h' 31 (fun _ => 0) → gl h' 29 = gl h 29 → Fr Sn h h' → Q none h') → wp 3 4 0 [some (.ref 29), some (.int (iN c.1)), some (.int (iN t)), none] [] h Q := by
    intro Q hQ
    (refine wp_go 600 ks_4_0.1 ?_; simp (disch := first | assumption | (simp only [ob_si, ar_si, ob_sl, ar_sl]; assumption) | omega) only [ci_0, ci_1, cl_0, iN_l, inc_i, jN_add, jN_div, jN_eq, jN_le, jN_lt, jN_mod, jN_mul, jN_sub, l0, lc_eq, lc_ge, lc_gt, lc_le, lc_lt, ldA_a, ldI_i, oc_11, oc_8, r_0, r_11, r_2, r_23, r_26, r_27, r_3, r_30, r_32, r_44, r_6, r_62, r_7, r_72, r_73, r_76, r_80_2, r_81_3, r_9, r_94, wpn_S, wpn_zero, stp_h, lk_0, lk_s, st1_0, st1_1, st1_2, st2_0, st2_1, st2_2, kj_i, kj_a, kj_l, kj_n, cat_n, cat_i, cat_a, cat_u, cat_l, vc_i, vc_a, rv_s, tl_n, tl_s, Cal'_s, List.length_cons, List.length_nil, i0, i1, iNd, iN_lt, iN_le, iN_eq, iN_add, iN_mul, iN_mod, iN_sub, iN_div, iN_clamp, iN_inb, zle_N, zlt_N, zN_le, zN_lt, zN_eq, Nz_eq, mI_t, mI_f, bI_0, bI_1, bI_t, bI_f, dltT, dltF, dleT, dleF, deqT, deqF, Nat.not_lt_zero, not_true_eq_false, not_false_eq_true, true_and, and_true, false_and, and_false, or_true, true_or, false_or, or_false, and_self, if_true, if_false, Classical.not_not, Nat.add_assoc, Nat.zero_add, Nat.add_zero, bI_or, bI_True, bI_False, Bool.false_eq_true, reduceCtorEq, eq_self, gi_si, gl_si, gr_si, hn_si, hL_si, hX_si, gi_sl, gl_sl, gr_sl, hn_sl, ob_si, ar_si, ob_sl, ar_sl, ks_4_0, ks_4_1, ks_4_2, ks_4_3])
    refine wp_loop (fun q L h' => Kf h' c ∧ Wt h' 30 W ∧ Wt h' 31 (itr (nxW c (0, c.2) t W) 0 q (fun _ => 0)) ∧ gl h' 29 = gl h 29 ∧ Fr Sn h h' ∧ L = [some (.ref 29), some (.int (iN c.1)), some (.int (iN t)), some (.int (iN q))]) 100 ?_ ?_ 100 0 _ h (by omega) ⟨hK, h30, h31, rfl, Fr.rf _ h, rfl⟩
    · rintro q L h1 hq ⟨K1, w30, w31, e29, f1, rfl⟩ hnx
      have B1 := f1.bs hB
      obtain ⟨oN, n0, n1, n2, n3, a30, a31, s30, s31⟩ := N_facts B1
      have hwq := hw q hq
      have g30 := w30 q hq
      have en : itr (nxW c (0, c.2) t W) 0 (q + 1) (fun _ => 0) = nxW c (0, c.2) t W q (itr (nxW c (0, c.2) t W) 0 q (fun _ => 0)) := by rw [itr_last, Nat.zero_add]
      by_cases h0 : W q = 0
      · rw [nxW, if_pos h0] at en
        rw [h0] at g30
        (refine wp_go 600 ks_4_0.2.2.1 ?_; simp (disch := first | assumption | (simp only [ob_si, ar_si, ob_sl, ar_sl]; assumption) | omega) only [ci_0, ci_1, cl_0, iN_l, inc_i, jN_add, jN_div, jN_eq, jN_le, jN_lt, jN_mod, jN_mul, jN_sub, l0, lc_eq, lc_ge, lc_gt, lc_le, lc_lt, ldA_a, ldI_i, oc_11, oc_8, r_0, r_11, r_2, r_23, r_26, r_27, r_3, r_30, r_32, r_44, r_6, r_62, r_7, r_72, r_73, r_76, r_80_2, r_81_3, r_9, r_94, wpn_S, wpn_zero, stp_h, lk_0, lk_s, st1_0, st1_1, st1_2, st2_0, st2_1, st2_2, kj_i, kj_a, kj_l, kj_n, cat_n, cat_i, cat_a, cat_u, cat_l, vc_i, vc_a, rv_s, tl_n, tl_s, Cal'_s, List.length_cons, List.length_nil, i0, i1, iNd, iN_lt, iN_le, iN_eq, iN_add, iN_mul, iN_mod, iN_sub, iN_div, iN_clamp, iN_inb, zle_N, zlt_N, zN_le, zN_lt, zN_eq, Nz_eq, mI_t, mI_f, bI_0, bI_1, bI_t, bI_f, dltT, dltF, dleT, dleF, deqT, deqF, Nat.not_lt_zero, not_true_eq_false, not_false_eq_true, true_and, and_true, false_and, and_false, or_true, true_or, false_or, or_false, and_self, if_true, if_false, Classical.not_not, Nat.add_assoc, Nat.zero_add, Nat.add_zero, bI_or, bI_True, bI_False, Bool.false_eq_true, reduceCtorEq, eq_self, gi_si, gl_si, gr_si, hn_si, hL_si, hX_si, gi_sl, gl_sl, gr_sl, hn_sl, ob_si, ar_si, ob_sl, ar_sl, ks_4_0, ks_4_1, ks_4_2, ks_4_3, oN, n2, a30, a30.1, a30.2, s30, g30])
        exact hnx _ _ ⟨K1, w30, by rw [en]; exact w31, e29, f1, rfl⟩
      · rw [nxW, if_neg h0] at en
        obtain ⟨h2, r2, K2, f2⟩ := w_one (c := c) B1 K1 hk
        have B2 := f2.bs B1
        have d2 := k_day (q := q) B2 K2 hk (by omega)
        have b1 := dyN_b (c := c) (q := q) (by omega)
        have w302 := w30.fr f2 (by unfold Sk; omega)
        have w312 := w31.fr f2 (by unfold Sk; omega)
        have g302 := w302 q hq
        obtain ⟨oN2, n02, n12, n22, n32, a302, a312, s302, s312⟩ := N_facts B2
        have ok2 := (K_facts B2).1
        have w313 := Wt_add (q := dyN c q) (w := W q * (t - 1)) w312 (by omega)
        have w303 : Wt (sl h2 31 (dyN c q) (gl h2 31 (dyN c q) + jN (W q * (t - 1)))) 30 W := Wt_o w302 (by omega)
        have B3 := B2.sl 31 (dyN c q) (gl h2 31 (dyN c q) + jN (W q * (t - 1)))
        obtain ⟨h4, r4, K4, f4⟩ := w_one (c := (0, c.2)) B3 (show Kf _ (0, c.2) from K2.1) hk0
        have B4 := f4.bs B3
        have d4 := k_day (q := q) B4 K4 hk0 (by omega)
        have b2 := dyN_b (c := (0, c.2)) (q := q) (by omega)
        have w304 := w303.fr f4 (by unfold Sk; omega)
        have w314 := w313.fr f4 (by unfold Sk; omega)
        have g304 := w304 q hq
        obtain ⟨oN4, n04, n14, n24, n34, a304, a314, s304, s314⟩ := N_facts B4
        have ok3 := (K_facts B3).1
        have ok4 := (K_facts B4).1
        obtain ⟨oN3, n03, n13, n23, n33, a303, a313, s303, s313⟩ := N_facts B3
        have w315 := Wt_add (q := dyN (0, c.2) q) (w := W q) w314 (by omega)
        have ok1 := (K_facts B1).1
        change Ret _ _ [.ref 19, .int (iN 0)] _ _ _ at r4
        (refine wp_go 600 ks_4_0.2.2.1 ?_; simp (disch := first | assumption | (simp only [ob_si, ar_si, ob_sl, ar_sl]; assumption) | omega) only [ci_0, ci_1, cl_0, iN_l, inc_i, jN_add, jN_div, jN_eq, jN_le, jN_lt, jN_mod, jN_mul, jN_sub, l0, lc_eq, lc_ge, lc_gt, lc_le, lc_lt, ldA_a, ldI_i, oc_11, oc_8, r_0, r_11, r_2, r_23, r_26, r_27, r_3, r_30, r_32, r_44, r_6, r_62, r_7, r_72, r_73, r_76, r_80_2, r_81_3, r_9, r_94, wpn_S, wpn_zero, stp_h, lk_0, lk_s, st1_0, st1_1, st1_2, st2_0, st2_1, st2_2, kj_i, kj_a, kj_l, kj_n, cat_n, cat_i, cat_a, cat_u, cat_l, vc_i, vc_a, rv_s, tl_n, tl_s, Cal'_s, List.length_cons, List.length_nil, i0, i1, iNd, iN_lt, iN_le, iN_eq, iN_add, iN_mul, iN_mod, iN_sub, iN_div, iN_clamp, iN_inb, zle_N, zlt_N, zN_le, zN_lt, zN_eq, Nz_eq, mI_t, mI_f, bI_0, bI_1, bI_t, bI_f, dltT, dltF, dleT, dleF, deqT, deqF, Nat.not_lt_zero, not_true_eq_false, not_false_eq_true, true_and, and_true, false_and, and_false, or_true, true_or, false_or, or_false, and_self, if_true, if_false, Classical.not_not, Nat.add_assoc, Nat.zero_add, Nat.add_zero, bI_or, bI_True, bI_False, Bool.false_eq_true, reduceCtorEq, eq_self, gi_si, gl_si, gr_si, hn_si, hL_si, hX_si, gi_sl, gl_sl, gr_sl, hn_sl, ob_si, ar_si, ob_sl, ar_sl, ks_4_0, ks_4_1, ks_4_2, ks_4_3, oN, n0, n1, n2, n3, a30, a30.1, a30.2, s30, g30, h0, ok1, Cal_eq r2, oN2, n12, n22, n32, a302, s302, g302, ok2, Cal_eq d2, n_add_q a312 s312, oN3, n13, ok3, Cal_eq r4, oN4, n14, n24, n34, a304, s304, ok4, g304, Cal_eq d4, n_add_q a314 s314])
        refine hnx _ _ ⟨K4.1, Wt_o w304 (by omega), by rw [en]; exact w315, ?_, ?_, rfl⟩
        · show gl (sl _ _ _ _) 29 = _
          rw [gl_sl, up_f (by omega), f4.l (by unfold Sk; omega), gl_sl, up_f (by omega), f2.l (by unfold Sk; omega)]
          exact e29
        · refine Fr.sl ((Fr.sl (f1.tr (f2.mono ?_)) ?_ _ _).tr (f4.mono ?_)) ?_ _ _
          · intro o ho; unfold Sk at ho; unfold Sn; omega
          · unfold Sn; omega
          · intro o ho; unfold Sk at ho; unfold Sn; omega
          · unfold Sn; omega
    · rintro L h1 ⟨K1, w30, w31, e29, f1, rfl⟩
      change Wt h1 31 (dW c (0, c.2) t W) at w31
      generalize dW c (0, c.2) t W = V at *
      have B1 := f1.bs hB
      obtain ⟨oN, n0, n1, n2, n3, a30, a31, s30, s31⟩ := N_facts B1
      (refine wp_go 600 ks_4_0.2.2.1 ?_; simp (disch := first | assumption | (simp only [ob_si, ar_si, ob_sl, ar_sl]; assumption) | omega) only [ci_0, ci_1, cl_0, iN_l, inc_i, jN_add, jN_div, jN_eq, jN_le, jN_lt, jN_mod, jN_mul, jN_sub, l0, lc_eq, lc_ge, lc_gt, lc_le, lc_lt, ldA_a, ldI_i, oc_11, oc_8, r_0, r_11, r_2, r_23, r_26, r_27, r_3, r_30, r_32, r_44, r_6, r_62, r_7, r_72, r_73, r_76, r_80_2, r_81_3, r_9, r_94, wpn_S, wpn_zero, stp_h, lk_0, lk_s, st1_0, st1_1, st1_2, st2_0, st2_1, st2_2, kj_i, kj_a, kj_l, kj_n, cat_n, cat_i, cat_a, cat_u, cat_l, vc_i, vc_a, rv_s, tl_n, tl_s, Cal'_s, List.length_cons, List.length_nil, i0, i1, iNd, iN_lt, iN_le, iN_eq, iN_add, iN_mul, iN_mod, iN_sub, iN_div, iN_clamp, iN_inb, zle_N, zlt_N, zN_le, zN_lt, zN_eq, Nz_eq, mI_t, mI_f, bI_0, bI_1, bI_t, bI_f, dltT, dltF, dleT, dleF, deqT, deqF, Nat.not_lt_zero, not_true_eq_false, not_false_eq_true, true_and, and_true, false_and, and_false, or_true, true_or, false_or, or_false, and_self, if_true, if_false, Classical.not_not, Nat.add_assoc, Nat.zero_add, Nat.add_zero, bI_or, bI_True, bI_False, Bool.false_eq_true, reduceCtorEq, eq_self, gi_si, gl_si, gr_si, hn_si, hL_si, hX_si, gi_sl, gl_sl, gr_sl, hn_sl, ob_si, ar_si, ob_sl, ar_sl, ks_4_0, ks_4_1, ks_4_2, ks_4_3, oN, n2, a30, a30.1, a30.2, s30])
      refine wp_loop (fun q L h' => Kf h' c ∧ (∀ r, r < q → gl h' 30 r = jN (V r)) ∧ (∀ r, r < q → gl h' 31 r = jN 0) ∧ (∀ r, q ≤ r → r < 100 → gl h' 31 r = jN (V r)) ∧ gl h' 29 = gl h 29 ∧ Fr Sn h h' ∧ L = [some (.ref 29), some (.int (iN c.1)), some (.int (iN t)), some (.int (iN q))]) 100 ?_ ?_ 100 0 _ h1 (by omega) ⟨K1, fun r hr => by omega, fun r hr => by omega, fun r _ hr => w31 r hr, e29, f1, rfl⟩
      · rintro q L h2 hq ⟨K2, v30, z31, v31, e29, f2, rfl⟩ hnx
        have B2 := f2.bs hB
        obtain ⟨oN, n0, n1, n2, n3, a30, a31, s30, s31⟩ := N_facts B2
        have g31 := v31 q (Nat.le_refl q) hq
        (refine wp_go 600 ks_4_2.2.2.2.2.2.2.1 ?_; simp (disch := first | assumption | (simp only [ob_si, ar_si, ob_sl, ar_sl]; assumption) | omega) only [ci_0, ci_1, cl_0, iN_l, inc_i, jN_add, jN_div, jN_eq, jN_le, jN_lt, jN_mod, jN_mul, jN_sub, l0, lc_eq, lc_ge, lc_gt, lc_le, lc_lt, ldA_a, ldI_i, oc_11, oc_8, r_0, r_11, r_2, r_23, r_26, r_27, r_3, r_30, r_32, r_44, r_6, r_62, r_7, r_72, r_73, r_76, r_80_2, r_81_3, r_9, r_94, wpn_S, wpn_zero, stp_h, lk_0, lk_s, st1_0, st1_1, st1_2, st2_0, st2_1, st2_2, kj_i, kj_a, kj_l, kj_n, cat_n, cat_i, cat_a, cat_u, cat_l, vc_i, vc_a, rv_s, tl_n, tl_s, Cal'_s, List.length_cons, List.length_nil, i0, i1, iNd, iN_lt, iN_le, iN_eq, iN_add, iN_mul, iN_mod, iN_sub, iN_div, iN_clamp, iN_inb, zle_N, zlt_N, zN_le, zN_lt, zN_eq, Nz_eq, mI_t, mI_f, bI_0, bI_1, bI_t, bI_f, dltT, dltF, dleT, dleF, deqT, deqF, Nat.not_lt_zero, not_true_eq_false, not_false_eq_true, true_and, and_true, false_and, and_false, or_true, true_or, false_or, or_false, and_self, if_true, if_false, Classical.not_not, Nat.add_assoc, Nat.zero_add, Nat.add_zero, bI_or, bI_True, bI_False, Bool.false_eq_true, reduceCtorEq, eq_self, gi_si, gl_si, gr_si, hn_si, hL_si, hX_si, gi_sl, gl_sl, gr_sl, hn_sl, ob_si, ar_si, ob_sl, ar_sl, ks_4_0, ks_4_1, ks_4_2, ks_4_3, oN, n2, n3, a30, a30.1, a30.2, s30, a31, a31.1, a31.2, s31, g31])
        refine hnx _ _ ⟨K2, ?_, ?_, ?_, ?_, (f2.sl (by unfold Sn; omega) _ _).sl (by unfold Sn; omega) _ _, rfl⟩
        · intro r hr
          rw [gl_sl, up_f (by omega), gl_sl, up_s]
          by_cases e : r = q
          · rw [up_t e, e]
          · rw [up_f e]; exact v30 r (by omega)
        · intro r hr
          rw [gl_sl, up_s]
          by_cases e : r = q
          · rw [up_t e]
          · rw [up_f e, gl_sl, up_f (by omega)]; exact z31 r (by omega)
        · intro r hr hr2
          rw [gl_sl, up_s, up_f (by omega), gl_sl, up_f (by omega)]
          exact v31 r (by omega) hr2
        · rw [gl_sl, up_f (by omega), gl_sl, up_f (by omega)]; exact e29
      · rintro L h2 ⟨K2, v30, z31, v31, e29, f2, rfl⟩
        have B2 := f2.bs hB
        obtain ⟨oN, n0, n1, n2, n3, a30, a31, s30, s31⟩ := N_facts B2
        (refine wp_go 600 ks_4_2.2.2.2.2.2.2.1 ?_; simp (disch := first | assumption | (simp only [ob_si, ar_si, ob_sl, ar_sl]; assumption) | omega) only [ci_0, ci_1, cl_0, iN_l, inc_i, jN_add, jN_div, jN_eq, jN_le, jN_lt, jN_mod, jN_mul, jN_sub, l0, lc_eq, lc_ge, lc_gt, lc_le, lc_lt, ldA_a, ldI_i, oc_11, oc_8, r_0, r_11, r_2, r_23, r_26, r_27, r_3, r_30, r_32, r_44, r_6, r_62, r_7, r_72, r_73, r_76, r_80_2, r_81_3, r_9, r_94, wpn_S, wpn_zero, stp_h, lk_0, lk_s, st1_0, st1_1, st1_2, st2_0, st2_1, st2_2, kj_i, kj_a, kj_l, kj_n, cat_n, cat_i, cat_a, cat_u, cat_l, vc_i, vc_a, rv_s, tl_n, tl_s, Cal'_s, List.length_cons, List.length_nil, i0, i1, iNd, iN_lt, iN_le, iN_eq, iN_add, iN_mul, iN_mod, iN_sub, iN_div, iN_clamp, iN_inb, zle_N, zlt_N, zN_le, zN_lt, zN_eq, Nz_eq, mI_t, mI_f, bI_0, bI_1, bI_t, bI_f, dltT, dltF, dleT, dleF, deqT, deqF, Nat.not_lt_zero, not_true_eq_false, not_false_eq_true, true_and, and_true, false_and, and_false, or_true, true_or, false_or, or_false, and_self, if_true, if_false, Classical.not_not, Nat.add_assoc, Nat.zero_add, Nat.add_zero, bI_or, bI_True, bI_False, Bool.false_eq_true, reduceCtorEq, eq_self, gi_si, gl_si, gr_si, hn_si, hL_si, hX_si, gi_sl, gl_sl, gr_sl, hn_sl, ob_si, ar_si, ob_sl, ar_sl, ks_4_0, ks_4_1, ks_4_2, ks_4_3, oN, n2, n3, a30, a30.1, a30.2, s30])
        exact hQ _ K2 v30 z31 e29 f2
  obtain ⟨v, h', r, rfl, a, b, c', d, f⟩ := Ret_ex (d := 3) (y := 4) (as := [.ref 29, .int (iN c.1), .int (iN t)]) [some (.ref 29), some (.int (iN c.1)), some (.int (iN t)), none] rfl rfl (key (fun v h' => v = none ∧ Kf h' c ∧ Wt h' 30 (dW c (0, c.2) t W) ∧ Wt h' 31 (fun _ => 0) ∧ gl h' 29 = gl h 29 ∧ Fr Sn h h') fun h' a b c d e => ⟨rfl, a, b, c, d, e⟩)
  exact ⟨h', r, a, b, c', d, f⟩
noncomputable def wgN (x : Mt) (i j t n : Nat) : Nat → Nat := if xM x i = j then wkW (kpx x i j) (0, (kpx x i j).2) t (xQ x i j) n else dl (xQ x i j)
theorem At1_n {h h' : Hp} {x : Mt} (hA : At h 1 x) (f : Fr Sn h h') : At h' 1 x := hA.fr f (by intro o h1 h2; unfold Sn; omega)
theorem n_weigh {h : Hp} {i j n t : Nat} {x : Mt} (hB : Bs h) (hA : At h 1 x) (hW : Wf x) (hi : i < xN x) (hj : j < 6) (ht : 2 ≤ t) (ht2 : t ≤ 20) (hn : n ≤ 8) (h31 : Wt h 31 (fun _ => 0)) : ∃ h', Ret 4 1 [.ref 29, .int (iN i), .int (iN j), .int (iN n), .int (iN t)] h none h' ∧ Wt h' 30 (wgN x i j t n) ∧ Wt h' 31 (fun _ => 0) ∧ gl h' 29 4 = jN (if xM x i = j then t ^ n else 1) ∧ Fr Sn h h' := by
  have key : ∀ Q : Option Value → Hp → Prop, (∀ h', Wt h' 30 (wgN x i j t n) → Wt h' 31 (fun _ => 0) → gl h' 29 4 = jN (if xM x i = j then t ^ n else 1) → Fr Sn h h' → Q none h') → wp 4 1 0 [some (.ref 29), some (.int (iN i)), some (.int (iN j)), some (.int (iN n)), some (.int (iN t)), none] [] h Q := by
    intro Q hQ
    have wN := hW.1
    have hq0 := hW.2.2.2.2.2.1 i j
    (refine wp_go 600 ks_1_0.1 ?_; simp (disch := first | assumption | (simp only [ob_si, ar_si, ob_sl, ar_sl]; assumption) | omega) only [ci_0, ci_1, cl_0, cl_1, iN_l, inc_i, jN_add, jN_div, jN_eq, jN_le, jN_lt, jN_mod, jN_mul, jN_sub, l0, lc_eq, lc_ge, lc_gt, lc_le, lc_lt, ldA_a, ldI_i, oc_32, oc_36, oc_4, oc_41, oc_7, r_0, r_2, r_23, r_27, r_3, r_30, r_32, r_44, r_50, r_6, r_61, r_62, r_65, r_7, r_73, r_76, r_80_2, r_80_3, r_80_4, r_81_3, r_9, r_94, wpn_S, wpn_zero, stp_h, lk_0, lk_s, st1_0, st1_1, st1_2, st2_0, st2_1, st2_2, kj_i, kj_a, kj_l, kj_n, cat_n, cat_i, cat_a, cat_u, cat_l, vc_i, vc_a, rv_s, tl_n, tl_s, Cal'_s, List.length_cons, List.length_nil, i0, i1, iNd, iN_lt, iN_le, iN_eq, iN_add, iN_mul, iN_mod, iN_sub, iN_div, iN_clamp, iN_inb, zle_N, zlt_N, zN_le, zN_lt, zN_eq, Nz_eq, mI_t, mI_f, bI_0, bI_1, bI_t, bI_f, dltT, dltF, dleT, dleF, deqT, deqF, Nat.not_lt_zero, not_true_eq_false, not_false_eq_true, true_and, and_true, false_and, and_false, or_true, true_or, false_or, or_false, and_self, if_true, if_false, Classical.not_not, Nat.add_assoc, Nat.zero_add, Nat.add_zero, bI_or, bI_True, bI_False, Bool.false_eq_true, reduceCtorEq, eq_self, gi_si, gl_si, gr_si, hn_si, hL_si, hX_si, gi_sl, gl_sl, gr_sl, hn_sl, ob_si, ar_si, ob_sl, ar_sl, ks_1_0, ks_1_1, ks_1_2])
    refine wp_loop (fun q L h' => (∀ r, r < q → gl h' 30 r = jN 0) ∧ Wt h' 31 (fun _ => 0) ∧ Fr Sn h h' ∧ L = [some (.ref 29), some (.int (iN i)), some (.int (iN j)), some (.int (iN n)), some (.int (iN t)), some (.int (iN q))]) 100 ?_ ?_ 100 0 _ h (by omega) ⟨fun r hr => by omega, h31, Fr.rf _ h, rfl⟩
    · rintro q L h1 hq ⟨z30, w31, f1, rfl⟩ hnx
      have B1 := f1.bs hB
      obtain ⟨oN, n0, n1, n2, n3, a30, a31, s30, s31⟩ := N_facts B1
      (refine wp_go 600 ks_1_0.2.2.1 ?_; simp (disch := first | assumption | (simp only [ob_si, ar_si, ob_sl, ar_sl]; assumption) | omega) only [ci_0, ci_1, cl_0, cl_1, iN_l, inc_i, jN_add, jN_div, jN_eq, jN_le, jN_lt, jN_mod, jN_mul, jN_sub, l0, lc_eq, lc_ge, lc_gt, lc_le, lc_lt, ldA_a, ldI_i, oc_32, oc_36, oc_4, oc_41, oc_7, r_0, r_2, r_23, r_27, r_3, r_30, r_32, r_44, r_50, r_6, r_61, r_62, r_65, r_7, r_73, r_76, r_80_2, r_80_3, r_80_4, r_81_3, r_9, r_94, wpn_S, wpn_zero, stp_h, lk_0, lk_s, st1_0, st1_1, st1_2, st2_0, st2_1, st2_2, kj_i, kj_a, kj_l, kj_n, cat_n, cat_i, cat_a, cat_u, cat_l, vc_i, vc_a, rv_s, tl_n, tl_s, Cal'_s, List.length_cons, List.length_nil, i0, i1, iNd, iN_lt, iN_le, iN_eq, iN_add, iN_mul, iN_mod, iN_sub, iN_div, iN_clamp, iN_inb, zle_N, zlt_N, zN_le, zN_lt, zN_eq, Nz_eq, mI_t, mI_f, bI_0, bI_1, bI_t, bI_f, dltT, dltF, dleT, dleF, deqT, deqF, Nat.not_lt_zero, not_true_eq_false, not_false_eq_true, true_and, and_true, false_and, and_false, or_true, true_or, false_or, or_false, and_self, if_true, if_false, Classical.not_not, Nat.add_assoc, Nat.zero_add, Nat.add_zero, bI_or, bI_True, bI_False, Bool.false_eq_true, reduceCtorEq, eq_self, gi_si, gl_si, gr_si, hn_si, hL_si, hX_si, gi_sl, gl_sl, gr_sl, hn_sl, ob_si, ar_si, ob_sl, ar_sl, ks_1_0, ks_1_1, ks_1_2, oN, n2, a30, a30.1, a30.2, s30])
      refine hnx _ _ ⟨?_, Wt_o w31 (by omega), f1.sl (by unfold Sn; omega) _ _, rfl⟩
      intro r hr
      rw [gl_sl, up_s]
      by_cases e : r = q
      · rw [up_t e]
      · rw [up_f e]; exact z30 r (by omega)
    · rintro L h1 ⟨z30, w31, f1, rfl⟩
      have fA : Fr Sn h (sl h1 29 4 (jN 1)) := f1.sl (by unfold Sn; omega) _ _
      have BA := fA.bs hB
      have AA := At1_n hA fA
      have zA : Wt (sl h1 29 4 (jN 1)) 30 (fun _ => 0) := Wt_o z30 (by omega)
      have wA := Wt_add (q := xQ x i j) (w := 1) zA (by omega)
      have eA : adW (fun _ => 0) (xQ x i j) 1 = dl (xQ x i j) := by
        funext r
        unfold adW dl
        by_cases e : r = xQ x i j
        · rw [up_t e, if_pos e]
        · rw [up_f e, if_neg e]
      rw [eA] at wA
      have fB : Fr Sn h (sl (sl h1 29 4 (jN 1)) 30 (xQ x i j) (gl (sl h1 29 4 (jN 1)) 30 (xQ x i j) + jN 1)) := fA.sl (by unfold Sn; omega) _ _
      have BB := fB.bs hB
      have AB := At1_n hA fB
      have w31B : Wt (sl (sl h1 29 4 (jN 1)) 30 (xQ x i j) (gl (sl h1 29 4 (jN 1)) 30 (xQ x i j) + jN 1)) 31 (fun _ => 0) := Wt_o (Wt_o w31 (by omega)) (by omega)
      have g29 : gl (sl (sl h1 29 4 (jN 1)) 30 (xQ x i j) (gl (sl h1 29 4 (jN 1)) 30 (xQ x i j) + jN 1)) 29 4 = jN 1 := by rw [gl_sl, up_f (by omega), gl_sl, up_s, up_s]
      have rq := c_quar (m := 1) (i := i) (j := j) (Or.inl rfl) BA AA hW (by omega) hj
      obtain ⟨oN, n0, n1, n2, n3, a30, a31, s30, s31⟩ := N_facts (f1.bs hB)
      obtain ⟨oNA, n0A, n1A, n2A, n3A, a30A, a31A, s30A, s31A⟩ := N_facts BA
      have n2A' : gr h1 29 2 = some 30 := n2
      have rad := n_add (h := sl h1 29 4 (jN 1)) (a := 30) (q := xQ x i j) (w := jN 1) a30A s30A (by omega)
      have oM := (M_facts (m := 1) (Or.inl rfl) (f1.bs hB)).1
      have oK := (K_facts (f1.bs hB)).1
      have rom := c_onMat (m := 1) (i := i) (j := j) (Or.inl rfl) BB AB hW hi hj
      generalize hg : sl (sl h1 29 4 (jN 1)) 30 (xQ x i j) (gl (sl h1 29 4 (jN 1)) 30 (xQ x i j) + jN 1) = g at *
      obtain ⟨oNB, n0B, n1B, n2B, n3B, a30B, a31B, s30B, s31B⟩ := N_facts BB
      have oMB := (M_facts (m := 1) (Or.inl rfl) BB).1
      have oKB := (K_facts BB).1
      by_cases hc : xM x i = j
      · rw [wgN, if_pos hc, if_pos hc] at hQ
        rw [bI_t hc] at rom
        obtain ⟨h3, r3, K3, f3⟩ := w_take (m := 1) (i := i) (j := j) (Or.inl rfl) BB AB hW (by omega) hj
        (refine wp_go 600 ks_1_0.2.2.1 ?_; simp (disch := first | assumption | (simp only [ob_si, ar_si, ob_sl, ar_sl]; assumption) | omega) only [ci_0, ci_1, cl_0, cl_1, iN_l, inc_i, jN_add, jN_div, jN_eq, jN_le, jN_lt, jN_mod, jN_mul, jN_sub, l0, lc_eq, lc_ge, lc_gt, lc_le, lc_lt, ldA_a, ldI_i, oc_32, oc_36, oc_4, oc_41, oc_7, r_0, r_2, r_23, r_27, r_3, r_30, r_32, r_44, r_50, r_6, r_61, r_62, r_65, r_7, r_73, r_76, r_80_2, r_80_3, r_80_4, r_81_3, r_9, r_94, wpn_S, wpn_zero, stp_h, lk_0, lk_s, st1_0, st1_1, st1_2, st2_0, st2_1, st2_2, kj_i, kj_a, kj_l, kj_n, cat_n, cat_i, cat_a, cat_u, cat_l, vc_i, vc_a, rv_s, tl_n, tl_s, Cal'_s, List.length_cons, List.length_nil, i0, i1, iNd, iN_lt, iN_le, iN_eq, iN_add, iN_mul, iN_mod, iN_sub, iN_div, iN_clamp, iN_inb, zle_N, zlt_N, zN_le, zN_lt, zN_eq, Nz_eq, mI_t, mI_f, bI_0, bI_1, bI_t, bI_f, dltT, dltF, dleT, dleF, deqT, deqF, Nat.not_lt_zero, not_true_eq_false, not_false_eq_true, true_and, and_true, false_and, and_false, or_true, true_or, false_or, or_false, and_self, if_true, if_false, Classical.not_not, Nat.add_assoc, Nat.zero_add, Nat.add_zero, bI_or, bI_True, bI_False, Bool.false_eq_true, reduceCtorEq, eq_self, gi_si, gl_si, gr_si, hn_si, hL_si, hX_si, gi_sl, gl_sl, gr_sl, hn_sl, ob_si, ar_si, ob_sl, ar_sl, ks_1_0, ks_1_1, ks_1_2, oN, n0, n2, a30, a30.1, a30.2, s30, gr_sl, oM, Cal_eq rq, Cal_eq rad, oNB, n0B, n1B, oMB, Cal_eq rom, oKB, Cal_eq r3])
        refine wp_loop (fun k L h' => Kf h' (kpx x i j) ∧ Wt h' 30 (wkW (kpx x i j) (0, (kpx x i j).2) t (xQ x i j) k) ∧ Wt h' 31 (fun _ => 0) ∧ gl h' 29 4 = jN (t ^ k) ∧ Fr Sn h h' ∧ L = [some (.ref 29), some (.int (iN i)), some (.int (iN j)), some (.int (iN n)), some (.int (iN t)), some (.int (iN k))]) n ?_ ?_ n 0 _ h3 (by omega) ⟨K3.1, wA.fr f3 (by unfold Sk; omega), w31B.fr f3 (by unfold Sk; omega), by rw [f3.l (by unfold Sk; omega)]; exact g29, fB.tr (f3.mono fun o ho => by unfold Sk at ho; unfold Sn; omega), rfl⟩
        · rintro k L h4 hk ⟨K4, w304, w314, g4, f4, rfl⟩ hnx
          have B4 := f4.bs hB
          have A4 := At1_n hA f4
          obtain ⟨h5, r5, K5, w305, w315, g5, f5⟩ := n_day (c := kpx x i j) (t := t) B4 K4 (kb_x hW i j) (by omega) ht2 w304 w314 (fun q hq => by
            have h1 := wk_le (c := kpx x i j) (c0 := (0, (kpx x i j).2)) (t := t) (q0 := xQ x i j) (k := k) (by omega) (by omega) hq
            have h2 := pow_8 ht2 (show k ≤ 8 by omega)
            omega)
          have B5 := f5.bs B4
          have hh : Ret 1 32 [.ref 1, .int (iN i)] h4 (some (.int (iN (kpx x i j).1))) h4 := c_hours (m := 1) (i := i) (Or.inl rfl) B4 A4 hW (by omega)
          obtain ⟨oN4, n04, n14, n24, n34, a304, a314, s304, s314⟩ := N_facts B4
          have oM4 := (M_facts (m := 1) (Or.inl rfl) B4).1
          have oN5 := (N_facts B5).1
          have e5 : gl h5 29 4 = jN (t ^ k) := by rw [g5]; exact g4
          (refine wp_go 600 ks_1_1.2.2.2.2.2.2.2.2.2.2.2.2.2.2.2.2.2.2.1 ?_; simp (disch := first | assumption | (simp only [ob_si, ar_si, ob_sl, ar_sl]; assumption) | omega) only [ci_0, ci_1, cl_0, cl_1, iN_l, inc_i, jN_add, jN_div, jN_eq, jN_le, jN_lt, jN_mod, jN_mul, jN_sub, l0, lc_eq, lc_ge, lc_gt, lc_le, lc_lt, ldA_a, ldI_i, oc_32, oc_36, oc_4, oc_41, oc_7, r_0, r_2, r_23, r_27, r_3, r_30, r_32, r_44, r_50, r_6, r_61, r_62, r_65, r_7, r_73, r_76, r_80_2, r_80_3, r_80_4, r_81_3, r_9, r_94, wpn_S, wpn_zero, stp_h, lk_0, lk_s, st1_0, st1_1, st1_2, st2_0, st2_1, st2_2, kj_i, kj_a, kj_l, kj_n, cat_n, cat_i, cat_a, cat_u, cat_l, vc_i, vc_a, rv_s, tl_n, tl_s, Cal'_s, List.length_cons, List.length_nil, i0, i1, iNd, iN_lt, iN_le, iN_eq, iN_add, iN_mul, iN_mod, iN_sub, iN_div, iN_clamp, iN_inb, zle_N, zlt_N, zN_le, zN_lt, zN_eq, Nz_eq, mI_t, mI_f, bI_0, bI_1, bI_t, bI_f, dltT, dltF, dleT, dleF, deqT, deqF, Nat.not_lt_zero, not_true_eq_false, not_false_eq_true, true_and, and_true, false_and, and_false, or_true, true_or, false_or, or_false, and_self, if_true, if_false, Classical.not_not, Nat.add_assoc, Nat.zero_add, Nat.add_zero, bI_or, bI_True, bI_False, Bool.false_eq_true, reduceCtorEq, eq_self, gi_si, gl_si, gr_si, hn_si, hL_si, hX_si, gi_sl, gl_sl, gr_sl, hn_sl, ob_si, ar_si, ob_sl, ar_sl, ks_1_0, ks_1_1, ks_1_2, oN4, n04, oM4, Cal_eq hh, Cal_eq r5, oN5, e5])
          refine hnx _ _ ⟨K5, Wt_o w305 (by omega), Wt_o w315 (by omega), ?_, (f4.tr f5).sl (by unfold Sn; omega) _ _, rfl⟩
          rw [gl_sl, up_s, up_s]
          rfl
        · rintro L h4 ⟨K4, w304, w314, g4, f4, rfl⟩
          (refine wp_go 600 ks_1_1.2.2.2.2.2.2.2.2.2.2.2.2.2.2.2.2.2.2.1 ?_; simp (disch := first | assumption | (simp only [ob_si, ar_si, ob_sl, ar_sl]; assumption) | omega) only [ci_0, ci_1, cl_0, cl_1, iN_l, inc_i, jN_add, jN_div, jN_eq, jN_le, jN_lt, jN_mod, jN_mul, jN_sub, l0, lc_eq, lc_ge, lc_gt, lc_le, lc_lt, ldA_a, ldI_i, oc_32, oc_36, oc_4, oc_41, oc_7, r_0, r_2, r_23, r_27, r_3, r_30, r_32, r_44, r_50, r_6, r_61, r_62, r_65, r_7, r_73, r_76, r_80_2, r_80_3, r_80_4, r_81_3, r_9, r_94, wpn_S, wpn_zero, stp_h, lk_0, lk_s, st1_0, st1_1, st1_2, st2_0, st2_1, st2_2, kj_i, kj_a, kj_l, kj_n, cat_n, cat_i, cat_a, cat_u, cat_l, vc_i, vc_a, rv_s, tl_n, tl_s, Cal'_s, List.length_cons, List.length_nil, i0, i1, iNd, iN_lt, iN_le, iN_eq, iN_add, iN_mul, iN_mod, iN_sub, iN_div, iN_clamp, iN_inb, zle_N, zlt_N, zN_le, zN_lt, zN_eq, Nz_eq, mI_t, mI_f, bI_0, bI_1, bI_t, bI_f, dltT, dltF, dleT, dleF, deqT, deqF, Nat.not_lt_zero, not_true_eq_false, not_false_eq_true, true_and, and_true, false_and, and_false, or_true, true_or, false_or, or_false, and_self, if_true, if_false, Classical.not_not, Nat.add_assoc, Nat.zero_add, Nat.add_zero, bI_or, bI_True, bI_False, Bool.false_eq_true, reduceCtorEq, eq_self, gi_si, gl_si, gr_si, hn_si, hL_si, hX_si, gi_sl, gl_sl, gr_sl, hn_sl, ob_si, ar_si, ob_sl, ar_sl, ks_1_0, ks_1_1, ks_1_2])
          exact hQ _ w304 w314 g4 f4
      · rw [wgN, if_neg hc, if_neg hc] at hQ
        rw [bI_f hc] at rom
        (refine wp_go 600 ks_1_0.2.2.1 ?_; simp (disch := first | assumption | (simp only [ob_si, ar_si, ob_sl, ar_sl]; assumption) | omega) only [ci_0, ci_1, cl_0, cl_1, iN_l, inc_i, jN_add, jN_div, jN_eq, jN_le, jN_lt, jN_mod, jN_mul, jN_sub, l0, lc_eq, lc_ge, lc_gt, lc_le, lc_lt, ldA_a, ldI_i, oc_32, oc_36, oc_4, oc_41, oc_7, r_0, r_2, r_23, r_27, r_3, r_30, r_32, r_44, r_50, r_6, r_61, r_62, r_65, r_7, r_73, r_76, r_80_2, r_80_3, r_80_4, r_81_3, r_9, r_94, wpn_S, wpn_zero, stp_h, lk_0, lk_s, st1_0, st1_1, st1_2, st2_0, st2_1, st2_2, kj_i, kj_a, kj_l, kj_n, cat_n, cat_i, cat_a, cat_u, cat_l, vc_i, vc_a, rv_s, tl_n, tl_s, Cal'_s, List.length_cons, List.length_nil, i0, i1, iNd, iN_lt, iN_le, iN_eq, iN_add, iN_mul, iN_mod, iN_sub, iN_div, iN_clamp, iN_inb, zle_N, zlt_N, zN_le, zN_lt, zN_eq, Nz_eq, mI_t, mI_f, bI_0, bI_1, bI_t, bI_f, dltT, dltF, dleT, dleF, deqT, deqF, Nat.not_lt_zero, not_true_eq_false, not_false_eq_true, true_and, and_true, false_and, and_false, or_true, true_or, false_or, or_false, and_self, if_true, if_false, Classical.not_not, Nat.add_assoc, Nat.zero_add, Nat.add_zero, bI_or, bI_True, bI_False, Bool.false_eq_true, reduceCtorEq, eq_self, gi_si, gl_si, gr_si, hn_si, hL_si, hX_si, gi_sl, gl_sl, gr_sl, hn_sl, ob_si, ar_si, ob_sl, ar_sl, ks_1_0, ks_1_1, ks_1_2, oN, n0, n2, a30, a30.1, a30.2, s30, gr_sl, oM, Cal_eq rq, Cal_eq rad, oNB, n0B, n1B, oMB, Cal_eq rom])
        exact hQ _ wA w31B g29 fB
  obtain ⟨v, h', r, rfl, a, b, c, f⟩ := Ret_ex (d := 4) (y := 1) (as := [.ref 29, .int (iN i), .int (iN j), .int (iN n), .int (iN t)]) [some (.ref 29), some (.int (iN i)), some (.int (iN j)), some (.int (iN n)), some (.int (iN t)), none] rfl rfl (key (fun v h' => v = none ∧ Wt h' 30 (wgN x i j t n) ∧ Wt h' 31 (fun _ => 0) ∧ gl h' 29 4 = jN (if xM x i = j then t ^ n else 1) ∧ Fr Sn h h') fun h' a b c d => ⟨rfl, a, b, c, d⟩)
  exact ⟨h', r, a, b, c, f⟩
theorem n_upto {h : Hp} {v : Nat} {W : Nat → Nat} (hB : Bs h) (h30 : Wt h 30 W) (hv : v ≤ 99) : Ret 0 3 [.ref 29, .int (iN v)] h (some (.long (jN (pr W one1 (v + 1))))) (h) := by
  refine Ret_L [some (.ref 29), some (.int (iN v)), none, none, none] rfl rfl fun Q hQ => ?_
  obtain ⟨oN, n0, n1, n2, n3, a30, a31, s30, s31⟩ := N_facts hB
  (refine wp_go 600 ks_3_0.1 ?_; simp (disch := first | assumption | (simp only [ob_si, ar_si, ob_sl, ar_sl]; assumption) | omega) only [ci_0, ci_1, cl_0, iN_l, inc_i, jN_add, jN_div, jN_eq, jN_le, jN_lt, jN_mod, jN_mul, jN_sub, l0, lc_eq, lc_ge, lc_gt, lc_le, lc_lt, ldA_a, ldI_i, ldL_l, r_0, r_1, r_2, r_21, r_3, r_30, r_4, r_44, r_45, r_6, r_62, r_7, r_72, r_76, r_9, r_92, wpn_S, wpn_zero, stp_h, lk_0, lk_s, st1_0, st1_1, st1_2, st2_0, st2_1, st2_2, kj_i, kj_a, kj_l, kj_n, cat_n, cat_i, cat_a, cat_u, cat_l, vc_i, vc_a, rv_s, tl_n, tl_s, Cal'_s, List.length_cons, List.length_nil, i0, i1, iNd, iN_lt, iN_le, iN_eq, iN_add, iN_mul, iN_mod, iN_sub, iN_div, iN_clamp, iN_inb, zle_N, zlt_N, zN_le, zN_lt, zN_eq, Nz_eq, mI_t, mI_f, bI_0, bI_1, bI_t, bI_f, dltT, dltF, dleT, dleF, deqT, deqF, Nat.not_lt_zero, not_true_eq_false, not_false_eq_true, true_and, and_true, false_and, and_false, or_true, true_or, false_or, or_false, and_self, if_true, if_false, Classical.not_not, Nat.add_assoc, Nat.zero_add, Nat.add_zero, bI_or, bI_True, bI_False, Bool.false_eq_true, reduceCtorEq, eq_self, gi_si, gl_si, gr_si, hn_si, hL_si, hX_si, gi_sl, gl_sl, gr_sl, hn_sl, ob_si, ar_si, ob_sl, ar_sl, ks_3_0])
  refine wp_loop (fun q L h' => h' = h ∧ L = [some (.ref 29), some (.int (iN v)), some (.long (jN (pr W one1 q))), none, some (.int (iN q))]) (v + 1) ?_ ?_ (v + 1) 0 _ h (by omega) ⟨rfl, rfl⟩
  · rintro q L h' hq ⟨rfl, rfl⟩ hn
    have g := h30 q (by omega)
    have e : pr W one1 (q + 1) = pr W one1 q + W q := by rw [pr_s]; simp [one1]
    have hn := hn [some (.ref 29), some (.int (iN v)), some (.long (jN (pr W one1 (q + 1)))), none, some (.int (iN (q + 1)))] h' ⟨rfl, rfl⟩
    rw [e] at hn
    (refine wp_go 600 ks_3_0.2.2.2.2.1 ?_; simp (disch := first | assumption | (simp only [ob_si, ar_si, ob_sl, ar_sl]; assumption) | omega) only [ci_0, ci_1, cl_0, iN_l, inc_i, jN_add, jN_div, jN_eq, jN_le, jN_lt, jN_mod, jN_mul, jN_sub, l0, lc_eq, lc_ge, lc_gt, lc_le, lc_lt, ldA_a, ldI_i, ldL_l, r_0, r_1, r_2, r_21, r_3, r_30, r_4, r_44, r_45, r_6, r_62, r_7, r_72, r_76, r_9, r_92, wpn_S, wpn_zero, stp_h, lk_0, lk_s, st1_0, st1_1, st1_2, st2_0, st2_1, st2_2, kj_i, kj_a, kj_l, kj_n, cat_n, cat_i, cat_a, cat_u, cat_l, vc_i, vc_a, rv_s, tl_n, tl_s, Cal'_s, List.length_cons, List.length_nil, i0, i1, iNd, iN_lt, iN_le, iN_eq, iN_add, iN_mul, iN_mod, iN_sub, iN_div, iN_clamp, iN_inb, zle_N, zlt_N, zN_le, zN_lt, zN_eq, Nz_eq, mI_t, mI_f, bI_0, bI_1, bI_t, bI_f, dltT, dltF, dleT, dleF, deqT, deqF, Nat.not_lt_zero, not_true_eq_false, not_false_eq_true, true_and, and_true, false_and, and_false, or_true, true_or, false_or, or_false, and_self, if_true, if_false, Classical.not_not, Nat.add_assoc, Nat.zero_add, Nat.add_zero, bI_or, bI_True, bI_False, Bool.false_eq_true, reduceCtorEq, eq_self, gi_si, gl_si, gr_si, hn_si, hL_si, hX_si, gi_sl, gl_sl, gr_sl, hn_sl, ob_si, ar_si, ob_sl, ar_sl, ks_3_0, oN, n2, a30, a30.1, a30.2, s30, g])
    exact hn
  · rintro L h' ⟨rfl, rfl⟩
    (refine wp_go 600 ks_3_0.2.2.2.2.1 ?_; simp (disch := first | assumption | (simp only [ob_si, ar_si, ob_sl, ar_sl]; assumption) | omega) only [ci_0, ci_1, cl_0, iN_l, inc_i, jN_add, jN_div, jN_eq, jN_le, jN_lt, jN_mod, jN_mul, jN_sub, l0, lc_eq, lc_ge, lc_gt, lc_le, lc_lt, ldA_a, ldI_i, ldL_l, r_0, r_1, r_2, r_21, r_3, r_30, r_4, r_44, r_45, r_6, r_62, r_7, r_72, r_76, r_9, r_92, wpn_S, wpn_zero, stp_h, lk_0, lk_s, st1_0, st1_1, st1_2, st2_0, st2_1, st2_2, kj_i, kj_a, kj_l, kj_n, cat_n, cat_i, cat_a, cat_u, cat_l, vc_i, vc_a, rv_s, tl_n, tl_s, Cal'_s, List.length_cons, List.length_nil, i0, i1, iNd, iN_lt, iN_le, iN_eq, iN_add, iN_mul, iN_mod, iN_sub, iN_div, iN_clamp, iN_inb, zle_N, zlt_N, zN_le, zN_lt, zN_eq, Nz_eq, mI_t, mI_f, bI_0, bI_1, bI_t, bI_f, dltT, dltF, dleT, dleF, deqT, deqF, Nat.not_lt_zero, not_true_eq_false, not_false_eq_true, true_and, and_true, false_and, and_false, or_true, true_or, false_or, or_false, and_self, if_true, if_false, Classical.not_not, Nat.add_assoc, Nat.zero_add, Nat.add_zero, bI_or, bI_True, bI_False, Bool.false_eq_true, reduceCtorEq, eq_self, gi_si, gl_si, gr_si, hn_si, hL_si, hX_si, gi_sl, gl_sl, gr_sl, hn_sl, ob_si, ar_si, ob_sl, ar_sl, ks_3_0])
    exact hQ
theorem n_upto_q {h : Hp} {v : Nat} {W : Nat → Nat} (hB : Bs h) (h30 : Wt h 30 W) (hv : v ≤ 99) {e : Nat} (hd : 0 ≤ e) (K : Option Value → Hp → Prop) : Cal e 3 [.ref 29, .int (iN v)] h K = K (some (.long (jN (pr W one1 (v + 1))))) (h) := Cal_eq (n_upto (hB := hB) (h30 := h30) (hv := hv)) hd K
theorem n_all {h : Hp} (hB : Bs h) : Ret 0 2 [.ref 29] h (some (.long (gl h 29 4))) (h) := by
  refine Ret_L [some (.ref 29)] rfl rfl fun Q hQ => ?_
  obtain ⟨oN, n0, n1, n2, n3, a30, a31, s30, s31⟩ := N_facts hB
  (refine wp_go 600 ks_2_0.1 ?_; simp (disch := first | assumption | (simp only [ob_si, ar_si, ob_sl, ar_sl]; assumption) | omega) only [iN_l, jN_add, jN_div, jN_eq, jN_le, jN_lt, jN_mod, jN_mul, jN_sub, l0, lc_eq, lc_ge, lc_gt, lc_le, lc_lt, ldA_a, r_2, r_61, r_92, wpn_S, wpn_zero, stp_h, lk_0, lk_s, st1_0, st1_1, st1_2, st2_0, st2_1, st2_2, kj_i, kj_a, kj_l, kj_n, cat_n, cat_i, cat_a, cat_u, cat_l, vc_i, vc_a, rv_s, tl_n, tl_s, Cal'_s, List.length_cons, List.length_nil, i0, i1, iNd, iN_lt, iN_le, iN_eq, iN_add, iN_mul, iN_mod, iN_sub, iN_div, iN_clamp, iN_inb, zle_N, zlt_N, zN_le, zN_lt, zN_eq, Nz_eq, mI_t, mI_f, bI_0, bI_1, bI_t, bI_f, dltT, dltF, dleT, dleF, deqT, deqF, Nat.not_lt_zero, not_true_eq_false, not_false_eq_true, true_and, and_true, false_and, and_false, or_true, true_or, false_or, or_false, and_self, if_true, if_false, Classical.not_not, Nat.add_assoc, Nat.zero_add, Nat.add_zero, bI_or, bI_True, bI_False, Bool.false_eq_true, reduceCtorEq, eq_self, gi_si, gl_si, gr_si, hn_si, hL_si, hX_si, gi_sl, gl_sl, gr_sl, hn_sl, ob_si, ar_si, ob_sl, ar_sl, ks_2_0, oN])
  exact hQ
theorem n_all_q {h : Hp} (hB : Bs h) {e : Nat} (hd : 0 ≤ e) (K : Option Value → Hp → Prop) : Cal e 2 [.ref 29] h K = K (some (.long (gl h 29 4))) (h) := Cal_eq (n_all (hB := hB)) hd K
