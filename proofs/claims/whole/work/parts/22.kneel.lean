/-! two on one mat: hours, days -/
noncomputable def rp {α : Type} (f : α → α) : Nat → α → α
  | 0, a => a
  | k + 1, a => f (rp f k a)
theorem rp_0 {α : Type} (f : α → α) (a : α) : rp f 0 a = a := rfl
theorem rp_s {α : Type} (f : α → α) (k : Nat) (a : α) : rp f (k + 1) a = f (rp f k a) := rfl
theorem rp_f {α : Type} (f : α → α) : ∀ (k : Nat) (a : α), rp f k (f a) = f (rp f k a)
  | 0, _ => rfl
  | k + 1, a => by rw [rp_s, rp_s, rp_f f k a]
theorem itr_rp {α : Type} (f : α → α) : ∀ (k i : Nat) (a : α), itr (fun _ a => f a) i k a = rp f k a
  | 0, _, _ => rfl
  | k + 1, i, a => by rw [itr_s, itr_rp f k, rp_f, rp_s]
theorem rp_inv {α : Type} {f : α → α} {P : α → Prop} (hf : ∀ a, P a → P (f a)) : ∀ (k : Nat) (a : α), P a → P (rp f k a)
  | 0, _, h => h
  | k + 1, a, h => hf _ (rp_inv hf k a h)
theorem itr_inv {α : Type} {f : Nat → α → α} {P : α → Prop} (hf : ∀ i a, P a → P (f i a)) : ∀ (k i : Nat) (a : α), P a → P (itr f i k a)
  | 0, _, _, h => h
  | k + 1, i, a, h => itr_inv hf k (i + 1) _ (hf i a h)
/-- hours of one, of the other, soft of both, sore of one, of the other -/
abbrev Kp : Type := Nat × Nat × Nat × Nat × Nat
noncomputable def kb (c : Kp) : Prop := c.1 < 32 ∧ c.2.1 < 32 ∧ c.2.2.1 ≤ 8 ∧ c.2.2.2.1 ≤ 3 ∧ c.2.2.2.2 ≤ 3
noncomputable def chg (c : Kp) (t : Nat) : Int32 := if c.1.testBit t = true then (if c.2.1.testBit t = true then zI (-(c.2.2.1 : Int)) else iN c.2.2.2.1) else if c.2.1.testBit t = true then iN c.2.2.2.2 else iN 0
noncomputable def hrN (c : Kp) (t q : Nat) : Nat := if c.1.testBit t = true then (if c.2.1.testBit t = true then q - c.2.2.1 else min 99 (q + c.2.2.2.1)) else if c.2.1.testBit t = true then min 99 (q + c.2.2.2.2) else q
theorem hrN_b {c : Kp} {t q : Nat} (hq : q ≤ 99) : hrN c t q ≤ 99 := by unfold hrN; (repeat' split) <;> omega
noncomputable def dyN (c : Kp) (q : Nat) : Nat := itr (fun t q => hrN c t q) 0 5 q
theorem dyN_b {c : Kp} {q : Nat} (hq : q ≤ 99) : dyN c q ≤ 99 := itr_inv (P := fun q => q ≤ 99) (fun _ _ h => hrN_b h) 5 0 q hq
theorem rp_dy {c : Kp} {q : Nat} (hq : q ≤ 99) (k : Nat) : rp (dyN c) k q ≤ 99 := rp_inv (P := fun q => q ≤ 99) (fun _ h => dyN_b h) k q hq
theorem hour_n {a : Nat} (ha : a ≤ 1000) : (if iN 0 < (if iN a < iN 99 then iN a else iN 99) then (if iN a < iN 99 then iN a else iN 99) else iN 0) = iN (min 99 a) := by
  have e1 : (iN a < iN 99) = (a < 99) := iN_lt (by omega) (by omega)
  have e2 : (iN 0 < iN a) = (0 < a) := iN_lt (by omega) (by omega)
  by_cases h : a < 99
  · have hc : iN a < iN 99 := by rw [e1]; exact h
    simp only [if_pos hc]
    rw [show min 99 a = a by omega]
    by_cases h0 : 0 < a
    · rw [if_pos (by rw [e2]; exact h0)]
    · rw [show a = 0 by omega]; split <;> rfl
  · have hc : ¬ iN a < iN 99 := by rw [e1]; exact h
    simp only [if_neg hc]
    rw [show min 99 a = 99 by omega, if_pos (by rw [iN_lt (by omega) (by omega)]; omega)]
theorem hour_z {w : Int} (h1 : -1000 ≤ w) (h2 : w ≤ 99) : (if iN 0 < (if zI w < iN 99 then zI w else iN 99) then (if zI w < iN 99 then zI w else iN 99) else iN 0) = iN w.toNat := by
  by_cases h0 : 0 ≤ w
  · obtain ⟨k, rfl⟩ : ∃ k : Nat, w = k := ⟨w.toNat, by omega⟩
    rw [← iN_Z, hour_n (by omega)]
    congr 1
    omega
  · have e1 : (zI w < iN 99) = (w < (99 : Nat)) := zN_lt2 (by omega) (by omega) (by omega)
    have e2 : (iN 0 < zI w) = (((0 : Nat) : Int) < w) := Nz_lt (by omega) (by omega) (by omega)
    have hc : zI w < iN 99 := by rw [e1]; omega
    simp only [if_pos hc]
    rw [if_neg (by rw [e2]; omega), show w.toNat = 0 by omega]
theorem hour_val {c : Kp} {t q : Nat} (hk : kb c) (hq : q ≤ 99) : (if iN 0 < (if iN q + chg c t < iN 99 then iN q + chg c t else iN 99) then (if iN q + chg c t < iN 99 then iN q + chg c t else iN 99) else iN 0) = iN (hrN c t q) := by
  obtain ⟨k1, k2, k3, k4, k5⟩ := hk
  unfold chg hrN
  by_cases h1 : c.1.testBit t = true
  · rw [if_pos h1, if_pos h1]
    by_cases h2 : c.2.1.testBit t = true
    · rw [if_pos h2, if_pos h2, Nz_add, hour_z (by omega) (by omega)]
      congr 1
      omega
    · rw [if_neg h2, if_neg h2, iN_add, hour_n (by omega)]
  · rw [if_neg h1, if_neg h1]
    by_cases h2 : c.2.1.testBit t = true
    · rw [if_pos h2, if_pos h2, iN_add, hour_n (by omega)]
    · rw [if_neg h2, if_neg h2, iN_add, hour_n (by omega)]
      congr 1
      omega
noncomputable def kpx (x : Mt) (i j : Nat) : Kp := (xH x i, xH x j, soN (xK x i) (xF x i) + soN (xK x j) (xF x j), srN (xK x i) (xF x i), srN (xK x j) (xF x j))
theorem kb_x {x : Mt} (hW : Wf x) (i j : Nat) : kb (kpx x i j) := by
  obtain ⟨wN, wK, wF, wH, wM, wQ, wS, wZ, wT⟩ := hW
  have := soN_b (k := xK x i) (wF i)
  have := soN_b (k := xK x j) (wF j)
  exact ⟨wH i, wH j, by show _ + _ ≤ 8; omega, srN_b (wF i), srN_b (wF j)⟩
theorem kb_1 {c : Kp} (hk : kb c) {a : Nat} (ha : a < 32) : kb (a, c.2) := ⟨ha, hk.2⟩
noncomputable def Sk : Nat → Prop := fun o => o = 19 ∨ o = 20
noncomputable def Kf (h : Hp) (c : Kp) : Prop := gi h 19 1 = iN c.2.1 ∧ gi h 19 2 = iN c.2.2.1 ∧ gi h 19 3 = iN c.2.2.2.1 ∧ gi h 19 4 = iN c.2.2.2.2
noncomputable def Kn (h : Hp) (c : Kp) : Prop := Kf h c ∧ ∀ t, t < 5 → gi h 20 t = chg c t
theorem K_facts {h : Hp} (hB : Bs h) : ob h 19 1 ∧ gr h 19 0 = some 20 ∧ ar h 1 20 ∧ (SH 20).2 = 5 := ⟨hB.ob (by decide) (by decide), hB.r (by decide), hB.ar (by decide) (by decide), by decide⟩
theorem k_change {h : Hp} {c : Kp} {t : Nat} (hB : Bs h) (hK : Kf h c) : Ret 0 9 [.ref 19, .int (bI (c.1.testBit t = true)), .int (bI (c.2.1.testBit t = true))] h (some (.int (chg c t))) (h) := by
  refine Ret_L [some (.ref 19), some (.int (bI (c.1.testBit t = true))), some (.int (bI (c.2.1.testBit t = true)))] rfl rfl fun Q hQ => ?_
  obtain ⟨oK, rK, aK, sK⟩ := K_facts hB
  obtain ⟨k1, k2, k3, k4⟩ := hK
  by_cases h1 : c.1.testBit t = true
  · by_cases h2 : c.2.1.testBit t = true
    · rw [chg, if_pos h1, if_pos h2] at hQ
      (refine wp_go 600 ks_9_0.1 ?_; simp (disch := first | assumption | (simp only [ob_si, ar_si, ob_sl, ar_sl]; assumption) | omega) only [ci_0, ldA_a, ldI_i, p_0, p_18, p_2, p_30, p_31, p_6, p_60, p_90, wpn_succ, wpn_zero, stp_h, lk_0, lk_s, st1_0, st1_1, st1_2, st2_0, st2_1, st2_2, kj_i, kj_a, kj_l, kj_n, cat_n, cat_i, cat_a, cat_u, cat_l, vc_i, vc_a, rv_s, tl_n, tl_s, Cal'_s, List.length_cons, List.length_nil, i0, i1, iNd, iN_lt, iN_le, iN_eq, iN_add, iN_mul, iN_mod, iN_sub, iN_div, iN_clamp, iN_inb, zle_N, zlt_N, zN_le, zN_lt, zN_eq, Nz_eq, mI_t, mI_f, bI_0, bI_1, bI_t, bI_f, dltT, dltF, dleT, dleF, deqT, deqF, Nat.not_lt_zero, not_true_eq_false, not_false_eq_true, true_and, and_true, false_and, and_false, or_true, true_or, false_or, or_false, and_self, if_true, if_false, Classical.not_not, Nat.add_assoc, Nat.zero_add, Nat.add_zero, bI_or, bI_True, bI_False, Bool.false_eq_true, reduceCtorEq, eq_self, gi_si, gl_si, gr_si, hn_si, hL_si, hX_si, gi_sl, gl_sl, gr_sl, hn_sl, ob_si, ar_si, ob_sl, ar_sl, ks_9_0, oK, k1, k2, k3, k4, h1, h2, NN_neg])
      exact hQ
    · rw [chg, if_pos h1, if_neg h2] at hQ
      (refine wp_go 600 ks_9_0.1 ?_; simp (disch := first | assumption | (simp only [ob_si, ar_si, ob_sl, ar_sl]; assumption) | omega) only [ci_0, ldA_a, ldI_i, p_0, p_18, p_2, p_30, p_31, p_6, p_60, p_90, wpn_succ, wpn_zero, stp_h, lk_0, lk_s, st1_0, st1_1, st1_2, st2_0, st2_1, st2_2, kj_i, kj_a, kj_l, kj_n, cat_n, cat_i, cat_a, cat_u, cat_l, vc_i, vc_a, rv_s, tl_n, tl_s, Cal'_s, List.length_cons, List.length_nil, i0, i1, iNd, iN_lt, iN_le, iN_eq, iN_add, iN_mul, iN_mod, iN_sub, iN_div, iN_clamp, iN_inb, zle_N, zlt_N, zN_le, zN_lt, zN_eq, Nz_eq, mI_t, mI_f, bI_0, bI_1, bI_t, bI_f, dltT, dltF, dleT, dleF, deqT, deqF, Nat.not_lt_zero, not_true_eq_false, not_false_eq_true, true_and, and_true, false_and, and_false, or_true, true_or, false_or, or_false, and_self, if_true, if_false, Classical.not_not, Nat.add_assoc, Nat.zero_add, Nat.add_zero, bI_or, bI_True, bI_False, Bool.false_eq_true, reduceCtorEq, eq_self, gi_si, gl_si, gr_si, hn_si, hL_si, hX_si, gi_sl, gl_sl, gr_sl, hn_sl, ob_si, ar_si, ob_sl, ar_sl, ks_9_0, oK, k1, k2, k3, k4, h1, h2, NN_neg])
      exact hQ
  · by_cases h2 : c.2.1.testBit t = true
    · rw [chg, if_neg h1, if_pos h2] at hQ
      (refine wp_go 600 ks_9_0.1 ?_; simp (disch := first | assumption | (simp only [ob_si, ar_si, ob_sl, ar_sl]; assumption) | omega) only [ci_0, ldA_a, ldI_i, p_0, p_18, p_2, p_30, p_31, p_6, p_60, p_90, wpn_succ, wpn_zero, stp_h, lk_0, lk_s, st1_0, st1_1, st1_2, st2_0, st2_1, st2_2, kj_i, kj_a, kj_l, kj_n, cat_n, cat_i, cat_a, cat_u, cat_l, vc_i, vc_a, rv_s, tl_n, tl_s, Cal'_s, List.length_cons, List.length_nil, i0, i1, iNd, iN_lt, iN_le, iN_eq, iN_add, iN_mul, iN_mod, iN_sub, iN_div, iN_clamp, iN_inb, zle_N, zlt_N, zN_le, zN_lt, zN_eq, Nz_eq, mI_t, mI_f, bI_0, bI_1, bI_t, bI_f, dltT, dltF, dleT, dleF, deqT, deqF, Nat.not_lt_zero, not_true_eq_false, not_false_eq_true, true_and, and_true, false_and, and_false, or_true, true_or, false_or, or_false, and_self, if_true, if_false, Classical.not_not, Nat.add_assoc, Nat.zero_add, Nat.add_zero, bI_or, bI_True, bI_False, Bool.false_eq_true, reduceCtorEq, eq_self, gi_si, gl_si, gr_si, hn_si, hL_si, hX_si, gi_sl, gl_sl, gr_sl, hn_sl, ob_si, ar_si, ob_sl, ar_sl, ks_9_0, oK, k1, k2, k3, k4, h1, h2, NN_neg])
      exact hQ
    · rw [chg, if_neg h1, if_neg h2] at hQ
      (refine wp_go 600 ks_9_0.1 ?_; simp (disch := first | assumption | (simp only [ob_si, ar_si, ob_sl, ar_sl]; assumption) | omega) only [ci_0, ldA_a, ldI_i, p_0, p_18, p_2, p_30, p_31, p_6, p_60, p_90, wpn_succ, wpn_zero, stp_h, lk_0, lk_s, st1_0, st1_1, st1_2, st2_0, st2_1, st2_2, kj_i, kj_a, kj_l, kj_n, cat_n, cat_i, cat_a, cat_u, cat_l, vc_i, vc_a, rv_s, tl_n, tl_s, Cal'_s, List.length_cons, List.length_nil, i0, i1, iNd, iN_lt, iN_le, iN_eq, iN_add, iN_mul, iN_mod, iN_sub, iN_div, iN_clamp, iN_inb, zle_N, zlt_N, zN_le, zN_lt, zN_eq, Nz_eq, mI_t, mI_f, bI_0, bI_1, bI_t, bI_f, dltT, dltF, dleT, dleF, deqT, deqF, Nat.not_lt_zero, not_true_eq_false, not_false_eq_true, true_and, and_true, false_and, and_false, or_true, true_or, false_or, or_false, and_self, if_true, if_false, Classical.not_not, Nat.add_assoc, Nat.zero_add, Nat.add_zero, bI_or, bI_True, bI_False, Bool.false_eq_true, reduceCtorEq, eq_self, gi_si, gl_si, gr_si, hn_si, hL_si, hX_si, gi_sl, gl_sl, gr_sl, hn_sl, ob_si, ar_si, ob_sl, ar_sl, ks_9_0, oK, k1, k2, k3, k4, h1, h2, NN_neg])
      exact hQ
theorem k_change_q {h : Hp} {c : Kp} {t : Nat} (hB : Bs h) (hK : Kf h c) {e : Nat} (hd : 0 ≤ e) (K : Option Value → Hp → Prop) : Cal e 9 [.ref 19, .int (bI (c.1.testBit t = true)), .int (bI (c.2.1.testBit t = true))] h K = K (some (.int (chg c t))) (h) := Cal_eq (k_change (hB := hB) (hK := hK)) hd K
theorem Kf.fr {h h' : Hp} {c : Kp} (hK : Kf h c) (e : gi h' 19 = gi h 19) : Kf h' c := by unfold Kf; rw [e]; exact hK
theorem Kn.fr {h h' : Hp} {c : Kp} {S : Nat → Prop} (hK : Kn h c) (f : Fr S h h') (h1 : ¬ S 19) (h2 : ¬ S 20) : Kn h' c := ⟨hK.1.fr (f.i h1), by rw [f.i h2]; exact hK.2⟩
theorem w_one {h : Hp} {c : Kp} (hB : Bs h) (hK : Kf h c) (hk : kb c) : ∃ h', Ret 1 8 [.ref 19, .int (iN c.1)] h none h' ∧ Kn h' c ∧ Fr Sk h h' := by
  obtain ⟨b1, b2, -, -, -⟩ := hk
  have key : ∀ Q : Option Value → Hp → Prop, (∀ h', Kn h' c → Fr Sk h h' → Q none h') → wp 1 8 0 [some (.ref 19), some (.int (iN c.1)), none] [] h Q := by
    intro Q hQ
    (refine wp_go 600 ks_8_0.1 ?_; simp (disch := first | assumption | (simp only [ob_si, ar_si, ob_sl, ar_sl]; assumption) | omega) only [ci_0, ci_1, ci_5, inc_i, ldA_a, ldI_i, oc_9, p_0, p_2, p_3, p_30, p_44, p_6, p_60, p_62, p_80_3, p_81_2, p_81_3, p_9, p_94, wpn_succ, wpn_zero, stp_h, lk_0, lk_s, st1_0, st1_1, st1_2, st2_0, st2_1, st2_2, kj_i, kj_a, kj_l, kj_n, cat_n, cat_i, cat_a, cat_u, cat_l, vc_i, vc_a, rv_s, tl_n, tl_s, Cal'_s, List.length_cons, List.length_nil, i0, i1, iNd, iN_lt, iN_le, iN_eq, iN_add, iN_mul, iN_mod, iN_sub, iN_div, iN_clamp, iN_inb, zle_N, zlt_N, zN_le, zN_lt, zN_eq, Nz_eq, mI_t, mI_f, bI_0, bI_1, bI_t, bI_f, dltT, dltF, dleT, dleF, deqT, deqF, Nat.not_lt_zero, not_true_eq_false, not_false_eq_true, true_and, and_true, false_and, and_false, or_true, true_or, false_or, or_false, and_self, if_true, if_false, Classical.not_not, Nat.add_assoc, Nat.zero_add, Nat.add_zero, bI_or, bI_True, bI_False, Bool.false_eq_true, reduceCtorEq, eq_self, gi_si, gl_si, gr_si, hn_si, hL_si, hX_si, gi_sl, gl_sl, gr_sl, hn_sl, ob_si, ar_si, ob_sl, ar_sl, ks_8_0])
    refine wp_loop (fun i L h' => L = [some (.ref 19), some (.int (iN c.1)), some (.int (iN i))] ∧ Fr Sk h h' ∧ Kf h' c ∧ ∀ k, k < i → gi h' 20 k = chg c k) 5 ?_ ?_ 5 0 _ h (by omega) ⟨rfl, Fr.rf _ h, hK, by intro k hk; omega⟩
    · rintro i L h' hi ⟨rfl, f, hK, a⟩ hn
      obtain ⟨oK, rK, aK, sK⟩ := K_facts (f.bs hB)
      have k1 := hK.1
      (refine wp_go 600 ks_8_0.2.2.1 ?_; simp (disch := first | assumption | (simp only [ob_si, ar_si, ob_sl, ar_sl]; assumption) | omega) only [ci_0, ci_1, ci_5, inc_i, ldA_a, ldI_i, oc_9, p_0, p_2, p_3, p_30, p_44, p_6, p_60, p_62, p_80_3, p_81_2, p_81_3, p_9, p_94, wpn_succ, wpn_zero, stp_h, lk_0, lk_s, st1_0, st1_1, st1_2, st2_0, st2_1, st2_2, kj_i, kj_a, kj_l, kj_n, cat_n, cat_i, cat_a, cat_u, cat_l, vc_i, vc_a, rv_s, tl_n, tl_s, Cal'_s, List.length_cons, List.length_nil, i0, i1, iNd, iN_lt, iN_le, iN_eq, iN_add, iN_mul, iN_mod, iN_sub, iN_div, iN_clamp, iN_inb, zle_N, zlt_N, zN_le, zN_lt, zN_eq, Nz_eq, mI_t, mI_f, bI_0, bI_1, bI_t, bI_f, dltT, dltF, dleT, dleF, deqT, deqF, Nat.not_lt_zero, not_true_eq_false, not_false_eq_true, true_and, and_true, false_and, and_false, or_true, true_or, false_or, or_false, and_self, if_true, if_false, Classical.not_not, Nat.add_assoc, Nat.zero_add, Nat.add_zero, bI_or, bI_True, bI_False, Bool.false_eq_true, reduceCtorEq, eq_self, gi_si, gl_si, gr_si, hn_si, hL_si, hX_si, gi_sl, gl_sl, gr_sl, hn_sl, ob_si, ar_si, ob_sl, ar_sl, ks_8_0, oK, rK, aK, k1, c_bit_q, k_change_q (f.bs hB) hK, c_set_q])
      refine hn _ _ ⟨rfl, f.si (Or.inr rfl) _ _, hK, ?_⟩
      intro k hk
      simp only [gi_si, up_s]
      by_cases e : k = i
      · rw [up_t e, e]
      · rw [up_f e]; exact a k (by omega)
    · rintro L h' ⟨rfl, f, hK, a⟩
      (refine wp_go 600 ks_8_0.2.2.1 ?_; simp (disch := first | assumption | (simp only [ob_si, ar_si, ob_sl, ar_sl]; assumption) | omega) only [ci_0, ci_1, ci_5, inc_i, ldA_a, ldI_i, oc_9, p_0, p_2, p_3, p_30, p_44, p_6, p_60, p_62, p_80_3, p_81_2, p_81_3, p_9, p_94, wpn_succ, wpn_zero, stp_h, lk_0, lk_s, st1_0, st1_1, st1_2, st2_0, st2_1, st2_2, kj_i, kj_a, kj_l, kj_n, cat_n, cat_i, cat_a, cat_u, cat_l, vc_i, vc_a, rv_s, tl_n, tl_s, Cal'_s, List.length_cons, List.length_nil, i0, i1, iNd, iN_lt, iN_le, iN_eq, iN_add, iN_mul, iN_mod, iN_sub, iN_div, iN_clamp, iN_inb, zle_N, zlt_N, zN_le, zN_lt, zN_eq, Nz_eq, mI_t, mI_f, bI_0, bI_1, bI_t, bI_f, dltT, dltF, dleT, dleF, deqT, deqF, Nat.not_lt_zero, not_true_eq_false, not_false_eq_true, true_and, and_true, false_and, and_false, or_true, true_or, false_or, or_false, and_self, if_true, if_false, Classical.not_not, Nat.add_assoc, Nat.zero_add, Nat.add_zero, bI_or, bI_True, bI_False, Bool.false_eq_true, reduceCtorEq, eq_self, gi_si, gl_si, gr_si, hn_si, hL_si, hX_si, gi_sl, gl_sl, gr_sl, hn_sl, ob_si, ar_si, ob_sl, ar_sl, ks_8_0])
      exact hQ h' ⟨hK, a⟩ f
  obtain ⟨v, h', r, rfl, A, f⟩ := Ret_ex (d := 1) (y := 8) (as := [.ref 19, .int (iN c.1)]) [some (.ref 19), some (.int (iN c.1)), none] rfl rfl (key (fun v h' => v = none ∧ Kn h' c ∧ Fr Sk h h') fun h' a b => ⟨rfl, a, b⟩)
  exact ⟨h', r, A, f⟩
theorem M_ne {m : Nat} (hm : isM m) : m ≠ 19 ∧ m ≠ 20 ∧ (m + 5 < 19 ∨ 20 < m) := by unfold isM at hm; omega
theorem w_take {h : Hp} {m i j : Nat} {x : Mt} (hm : isM m) (hB : Bs h) (hA : At h m x) (hW : Wf x) (hi : i < 6) (hj : j < 6) : ∃ h', Ret 2 7 [.ref 19, .ref m, .int (iN i), .int (iN j)] h none h' ∧ Kn h' (kpx x i j) ∧ Fr Sk h h' := by
  have mn := M_ne hm
  obtain ⟨oM, rM0, rM1, rM2, rM3, rM4, aM1, aM2, aM3, aM4, aM5, sM1, sM2, sM3, sM4, sM5⟩ := M_facts hm hB; obtain ⟨fN, fD, fK, fF, fH, fM, fQ⟩ := id hA; obtain ⟨wN, wK, wF, wH, wM, wQ, wS, wZ, wT⟩ := id hW
  obtain ⟨oK, rK, aK, sK⟩ := K_facts hB
  have f1 : Fr Sk h (si (si (si (si h 19 1 (iN (xH x j))) 19 2 (iN (soN (xK x i) (xF x i) + soN (xK x j) (xF x j)))) 19 3 (iN (srN (xK x i) (xF x i)))) 19 4 (iN (srN (xK x j) (xF x j)))) := ((((Fr.rf Sk h).si (Or.inl rfl) _ _).si (Or.inl rfl) _ _).si (Or.inl rfl) _ _).si (Or.inl rfl) _ _
  have fa : Fr Sk h (si h 19 1 (iN (xH x j))) := (Fr.rf Sk h).si (Or.inl rfl) _ _
  have fb : Fr Sk h (si (si h 19 1 (iN (xH x j))) 19 2 (iN (soN (xK x i) (xF x i) + soN (xK x j) (xF x j)))) := fa.si (Or.inl rfl) _ _
  have fc : Fr Sk h (si (si (si h 19 1 (iN (xH x j))) 19 2 (iN (soN (xK x i) (xF x i) + soN (xK x j) (xF x j)))) 19 3 (iN (srN (xK x i) (xF x i)))) := fb.si (Or.inl rfl) _ _
  have hs : ∀ o, m ≤ o → o ≤ m + 5 → ¬ Sk o := by intro o h1 h2; unfold Sk; omega
  have A1 := hA.fr f1 hs
  have Aa := hA.fr fa hs
  have Ab := hA.fr fb hs
  have Ac := hA.fr fc hs
  have B1 := f1.bs hB
  obtain ⟨h2, r2, K2, f2⟩ := w_one (c := kpx x i j) B1 ⟨by simp (disch := omega) only [gi_si, up_s, up_f]; rfl, by simp (disch := omega) only [gi_si, up_s, up_f]; rfl, by simp (disch := omega) only [gi_si, up_s, up_f]; rfl, by simp (disch := omega) only [gi_si, up_s, up_f]; rfl⟩ (kb_x hW i j)
  refine ⟨h2, ?_, K2, f1.tr f2⟩
  refine Ret_L [some (.ref 19), some (.ref m), some (.int (iN i)), some (.int (iN j))] rfl rfl fun Q hQ => ?_
  have o1 := (M_facts hm B1).1
  simp only [kpx] at r2
  (refine wp_go 600 ks_7_0.1 ?_; simp (disch := first | assumption | (simp only [ob_si, ar_si, ob_sl, ar_sl]; assumption) | omega) only [ldA_a, ldI_i, oc_32, oc_38, oc_39, oc_8, p_0, p_10, p_2, p_63, p_80_2, p_94, wpn_succ, wpn_zero, stp_h, lk_0, lk_s, st1_0, st1_1, st1_2, st2_0, st2_1, st2_2, kj_i, kj_a, kj_l, kj_n, cat_n, cat_i, cat_a, cat_u, cat_l, vc_i, vc_a, rv_s, tl_n, tl_s, Cal'_s, List.length_cons, List.length_nil, i0, i1, iNd, iN_lt, iN_le, iN_eq, iN_add, iN_mul, iN_mod, iN_sub, iN_div, iN_clamp, iN_inb, zle_N, zlt_N, zN_le, zN_lt, zN_eq, Nz_eq, mI_t, mI_f, bI_0, bI_1, bI_t, bI_f, dltT, dltF, dleT, dleF, deqT, deqF, Nat.not_lt_zero, not_true_eq_false, not_false_eq_true, true_and, and_true, false_and, and_false, or_true, true_or, false_or, or_false, and_self, if_true, if_false, Classical.not_not, Nat.add_assoc, Nat.zero_add, Nat.add_zero, bI_or, bI_True, bI_False, Bool.false_eq_true, reduceCtorEq, eq_self, gi_si, gl_si, gr_si, hn_si, hL_si, hX_si, gi_sl, gl_sl, gr_sl, hn_sl, ob_si, ar_si, ob_sl, ar_sl, ks_7_0, ks_7_1, oK, oM, c_hours_q hm hB hA hW, c_soft_q hm (fa.bs hB) Aa hW, c_sore_q hm (fb.bs hB) Ab hW, c_sore_q hm (fc.bs hB) Ac hW, c_hours_q hm B1 A1 hW, Cal_eq r2])
  exact hQ
theorem k_hour {h : Hp} {c : Kp} {q t : Nat} (hB : Bs h) (hK : Kn h c) (hk : kb c) (hq : q ≤ 99) (ht : t < 5) : Ret 1 10 [.ref 19, .int (iN q), .int (iN t)] h (some (.int (iN (hrN c t q)))) (h) := by
  refine Ret_L [some (.ref 19), some (.int (iN q)), some (.int (iN t))] rfl rfl fun Q hQ => ?_
  obtain ⟨oK, rK, aK, sK⟩ := K_facts hB
  have k2 := hK.2
  (refine wp_go 600 ks_10_0.1 ?_; simp (disch := first | assumption | (simp only [ob_si, ar_si, ob_sl, ar_sl]; assumption) | omega) only [ci_0, ci_99, ldA_a, ldI_i, p_0, p_10, p_2, p_53, p_54, p_6, p_62, p_81_2, p_90, wpn_succ, wpn_zero, stp_h, lk_0, lk_s, st1_0, st1_1, st1_2, st2_0, st2_1, st2_2, kj_i, kj_a, kj_l, kj_n, cat_n, cat_i, cat_a, cat_u, cat_l, vc_i, vc_a, rv_s, tl_n, tl_s, Cal'_s, List.length_cons, List.length_nil, i0, i1, iNd, iN_lt, iN_le, iN_eq, iN_add, iN_mul, iN_mod, iN_sub, iN_div, iN_clamp, iN_inb, zle_N, zlt_N, zN_le, zN_lt, zN_eq, Nz_eq, mI_t, mI_f, bI_0, bI_1, bI_t, bI_f, dltT, dltF, dleT, dleF, deqT, deqF, Nat.not_lt_zero, not_true_eq_false, not_false_eq_true, true_and, and_true, false_and, and_false, or_true, true_or, false_or, or_false, and_self, if_true, if_false, Classical.not_not, Nat.add_assoc, Nat.zero_add, Nat.add_zero, bI_or, bI_True, bI_False, Bool.false_eq_true, reduceCtorEq, eq_self, gi_si, gl_si, gr_si, hn_si, hL_si, hX_si, gi_sl, gl_sl, gr_sl, hn_sl, ob_si, ar_si, ob_sl, ar_sl, ks_10_0, oK, rK, aK, k2, c_cell_q, hour_val hk hq])
  exact hQ
theorem k_hour_q {h : Hp} {c : Kp} {q t : Nat} (hB : Bs h) (hK : Kn h c) (hk : kb c) (hq : q ≤ 99) (ht : t < 5) {e : Nat} (hd : 1 ≤ e) (K : Option Value → Hp → Prop) : Cal e 10 [.ref 19, .int (iN q), .int (iN t)] h K = K (some (.int (iN (hrN c t q)))) (h) := Cal_eq (k_hour (hB := hB) (hK := hK) (hk := hk) (hq := hq) (ht := ht)) hd K
theorem k_day {h : Hp} {c : Kp} {q : Nat} (hB : Bs h) (hK : Kn h c) (hk : kb c) (hq : q ≤ 99) : Ret 2 11 [.ref 19, .int (iN q)] h (some (.int (iN (dyN c q)))) (h) := by
  refine Ret_L [some (.ref 19), some (.int (iN q)), none, none] rfl rfl fun Q hQ => ?_
  obtain ⟨oK, rK, aK, sK⟩ := K_facts hB
  (refine wp_go 600 ks_11_0.1 ?_; simp (disch := first | assumption | (simp only [ob_si, ar_si, ob_sl, ar_sl]; assumption) | omega) only [ci_0, ci_1, ci_5, inc_i, ldA_a, ldI_i, oc_10, p_0, p_2, p_3, p_30, p_44, p_6, p_80_3, p_9, p_90, wpn_succ, wpn_zero, stp_h, lk_0, lk_s, st1_0, st1_1, st1_2, st2_0, st2_1, st2_2, kj_i, kj_a, kj_l, kj_n, cat_n, cat_i, cat_a, cat_u, cat_l, vc_i, vc_a, rv_s, tl_n, tl_s, Cal'_s, List.length_cons, List.length_nil, i0, i1, iNd, iN_lt, iN_le, iN_eq, iN_add, iN_mul, iN_mod, iN_sub, iN_div, iN_clamp, iN_inb, zle_N, zlt_N, zN_le, zN_lt, zN_eq, Nz_eq, mI_t, mI_f, bI_0, bI_1, bI_t, bI_f, dltT, dltF, dleT, dleF, deqT, deqF, Nat.not_lt_zero, not_true_eq_false, not_false_eq_true, true_and, and_true, false_and, and_false, or_true, true_or, false_or, or_false, and_self, if_true, if_false, Classical.not_not, Nat.add_assoc, Nat.zero_add, Nat.add_zero, bI_or, bI_True, bI_False, Bool.false_eq_true, reduceCtorEq, eq_self, gi_si, gl_si, gr_si, hn_si, hL_si, hX_si, gi_sl, gl_sl, gr_sl, hn_sl, ob_si, ar_si, ob_sl, ar_sl, ks_11_0])
  refine wp_fold (α := {a : Nat // a ≤ 99}) (fun i a (_ : Unit) => [some (.ref 19), some (.int (iN q)), some (.int (iN a.val)), some (.int (iN i))]) (fun t a => ⟨hrN c t a.val, hrN_b a.2⟩) 5 ?_ 5 0 ⟨q, hq⟩ () (by omega) ?_
  · intro i a w hi hn
    have hn := hn ()
    have ha := a.2
    (refine wp_go 600 ks_11_0.2.2.2.2.1 ?_; simp (disch := first | assumption | (simp only [ob_si, ar_si, ob_sl, ar_sl]; assumption) | omega) only [ci_0, ci_1, ci_5, inc_i, ldA_a, ldI_i, oc_10, p_0, p_2, p_3, p_30, p_44, p_6, p_80_3, p_9, p_90, wpn_succ, wpn_zero, stp_h, lk_0, lk_s, st1_0, st1_1, st1_2, st2_0, st2_1, st2_2, kj_i, kj_a, kj_l, kj_n, cat_n, cat_i, cat_a, cat_u, cat_l, vc_i, vc_a, rv_s, tl_n, tl_s, Cal'_s, List.length_cons, List.length_nil, i0, i1, iNd, iN_lt, iN_le, iN_eq, iN_add, iN_mul, iN_mod, iN_sub, iN_div, iN_clamp, iN_inb, zle_N, zlt_N, zN_le, zN_lt, zN_eq, Nz_eq, mI_t, mI_f, bI_0, bI_1, bI_t, bI_f, dltT, dltF, dleT, dleF, deqT, deqF, Nat.not_lt_zero, not_true_eq_false, not_false_eq_true, true_and, and_true, false_and, and_false, or_true, true_or, false_or, or_false, and_self, if_true, if_false, Classical.not_not, Nat.add_assoc, Nat.zero_add, Nat.add_zero, bI_or, bI_True, bI_False, Bool.false_eq_true, reduceCtorEq, eq_self, gi_si, gl_si, gr_si, hn_si, hL_si, hX_si, gi_sl, gl_sl, gr_sl, hn_sl, ob_si, ar_si, ob_sl, ar_sl, ks_11_0, oK, k_hour_q hB hK hk])
    exact hn
  · intro w
    (refine wp_go 600 ks_11_0.2.2.2.2.1 ?_; simp (disch := first | assumption | (simp only [ob_si, ar_si, ob_sl, ar_sl]; assumption) | omega) only [ci_0, ci_1, ci_5, inc_i, ldA_a, ldI_i, oc_10, p_0, p_2, p_3, p_30, p_44, p_6, p_80_3, p_9, p_90, wpn_succ, wpn_zero, stp_h, lk_0, lk_s, st1_0, st1_1, st1_2, st2_0, st2_1, st2_2, kj_i, kj_a, kj_l, kj_n, cat_n, cat_i, cat_a, cat_u, cat_l, vc_i, vc_a, rv_s, tl_n, tl_s, Cal'_s, List.length_cons, List.length_nil, i0, i1, iNd, iN_lt, iN_le, iN_eq, iN_add, iN_mul, iN_mod, iN_sub, iN_div, iN_clamp, iN_inb, zle_N, zlt_N, zN_le, zN_lt, zN_eq, Nz_eq, mI_t, mI_f, bI_0, bI_1, bI_t, bI_f, dltT, dltF, dleT, dleF, deqT, deqF, Nat.not_lt_zero, not_true_eq_false, not_false_eq_true, true_and, and_true, false_and, and_false, or_true, true_or, false_or, or_false, and_self, if_true, if_false, Classical.not_not, Nat.add_assoc, Nat.zero_add, Nat.add_zero, bI_or, bI_True, bI_False, Bool.false_eq_true, reduceCtorEq, eq_self, gi_si, gl_si, gr_si, hn_si, hL_si, hX_si, gi_sl, gl_sl, gr_sl, hn_sl, ob_si, ar_si, ob_sl, ar_sl, ks_11_0])
    have e : ∀ (k i : Nat) (a : {a : Nat // a ≤ 99}), (itr (fun t (a : {a : Nat // a ≤ 99}) => (⟨hrN c t a.val, hrN_b a.2⟩ : {a : Nat // a ≤ 99})) i k a).val = itr (fun t a => hrN c t a) i k a.val := by
      intro k
      induction k with
      | zero => intro i a; rfl
      | succ k ih => intro i a; rw [itr_s, itr_s, ih]
    rw [e]
    exact hQ
theorem k_day_q {h : Hp} {c : Kp} {q : Nat} (hB : Bs h) (hK : Kn h c) (hk : kb c) (hq : q ≤ 99) {e : Nat} (hd : 2 ≤ e) (K : Option Value → Hp → Prop) : Cal e 11 [.ref 19, .int (iN q)] h K = K (some (.int (iN (dyN c q)))) (h) := Cal_eq (k_day (hB := hB) (hK := hK) (hk := hk) (hq := hq)) hd K
theorem dyN_s {c : Kp} {k q : Nat} (hq : q ≤ 99) : rp (dyN c) (k + 1) q = dyN c (rp (dyN c) k q) := rfl
theorem k_days {h : Hp} {c : Kp} {q n : Nat} (hB : Bs h) (hK : Kn h c) (hk : kb c) (hq : q ≤ 99) (hn : n ≤ 1000) : Ret 3 12 [.ref 19, .int (iN q), .int (iN n)] h (some (.int (iN (rp (dyN c) n q)))) (h) := by
  refine Ret_L [some (.ref 19), some (.int (iN q)), some (.int (iN n)), none, none] rfl rfl fun Q hQ => ?_
  obtain ⟨oK, rK, aK, sK⟩ := K_facts hB
  (refine wp_go 600 ks_12_0.1 ?_; simp (disch := first | assumption | (simp only [ob_si, ar_si, ob_sl, ar_sl]; assumption) | omega) only [ci_0, ci_1, inc_i, ldA_a, ldI_i, oc_11, p_0, p_2, p_3, p_30, p_44, p_6, p_80_2, p_9, p_90, wpn_succ, wpn_zero, stp_h, lk_0, lk_s, st1_0, st1_1, st1_2, st2_0, st2_1, st2_2, kj_i, kj_a, kj_l, kj_n, cat_n, cat_i, cat_a, cat_u, cat_l, vc_i, vc_a, rv_s, tl_n, tl_s, Cal'_s, List.length_cons, List.length_nil, i0, i1, iNd, iN_lt, iN_le, iN_eq, iN_add, iN_mul, iN_mod, iN_sub, iN_div, iN_clamp, iN_inb, zle_N, zlt_N, zN_le, zN_lt, zN_eq, Nz_eq, mI_t, mI_f, bI_0, bI_1, bI_t, bI_f, dltT, dltF, dleT, dleF, deqT, deqF, Nat.not_lt_zero, not_true_eq_false, not_false_eq_true, true_and, and_true, false_and, and_false, or_true, true_or, false_or, or_false, and_self, if_true, if_false, Classical.not_not, Nat.add_assoc, Nat.zero_add, Nat.add_zero, bI_or, bI_True, bI_False, Bool.false_eq_true, reduceCtorEq, eq_self, gi_si, gl_si, gr_si, hn_si, hL_si, hX_si, gi_sl, gl_sl, gr_sl, hn_sl, ob_si, ar_si, ob_sl, ar_sl, ks_12_0])
  refine wp_loop (fun i L h' => h' = h ∧ L = [some (.ref 19), some (.int (iN q)), some (.int (iN n)), some (.int (iN (rp (dyN c) i q))), some (.int (iN i))]) n ?_ ?_ n 0 _ h (by omega) ⟨rfl, rfl⟩
  · rintro i L h' hi ⟨rfl, rfl⟩ hn
    have ha := rp_dy (c := c) hq i
    (refine wp_go 600 ks_12_0.2.2.2.2.1 ?_; simp (disch := first | assumption | (simp only [ob_si, ar_si, ob_sl, ar_sl]; assumption) | omega) only [ci_0, ci_1, inc_i, ldA_a, ldI_i, oc_11, p_0, p_2, p_3, p_30, p_44, p_6, p_80_2, p_9, p_90, wpn_succ, wpn_zero, stp_h, lk_0, lk_s, st1_0, st1_1, st1_2, st2_0, st2_1, st2_2, kj_i, kj_a, kj_l, kj_n, cat_n, cat_i, cat_a, cat_u, cat_l, vc_i, vc_a, rv_s, tl_n, tl_s, Cal'_s, List.length_cons, List.length_nil, i0, i1, iNd, iN_lt, iN_le, iN_eq, iN_add, iN_mul, iN_mod, iN_sub, iN_div, iN_clamp, iN_inb, zle_N, zlt_N, zN_le, zN_lt, zN_eq, Nz_eq, mI_t, mI_f, bI_0, bI_1, bI_t, bI_f, dltT, dltF, dleT, dleF, deqT, deqF, Nat.not_lt_zero, not_true_eq_false, not_false_eq_true, true_and, and_true, false_and, and_false, or_true, true_or, false_or, or_false, and_self, if_true, if_false, Classical.not_not, Nat.add_assoc, Nat.zero_add, Nat.add_zero, bI_or, bI_True, bI_False, Bool.false_eq_true, reduceCtorEq, eq_self, gi_si, gl_si, gr_si, hn_si, hL_si, hX_si, gi_sl, gl_sl, gr_sl, hn_sl, ob_si, ar_si, ob_sl, ar_sl, ks_12_0, oK, k_day_q hB hK hk])
    exact hn _ _ ⟨rfl, rfl⟩
  · rintro L h' ⟨rfl, rfl⟩
    (refine wp_go 600 ks_12_0.2.2.2.2.1 ?_; simp (disch := first | assumption | (simp only [ob_si, ar_si, ob_sl, ar_sl]; assumption) | omega) only [ci_0, ci_1, inc_i, ldA_a, ldI_i, oc_11, p_0, p_2, p_3, p_30, p_44, p_6, p_80_2, p_9, p_90, wpn_succ, wpn_zero, stp_h, lk_0, lk_s, st1_0, st1_1, st1_2, st2_0, st2_1, st2_2, kj_i, kj_a, kj_l, kj_n, cat_n, cat_i, cat_a, cat_u, cat_l, vc_i, vc_a, rv_s, tl_n, tl_s, Cal'_s, List.length_cons, List.length_nil, i0, i1, iNd, iN_lt, iN_le, iN_eq, iN_add, iN_mul, iN_mod, iN_sub, iN_div, iN_clamp, iN_inb, zle_N, zlt_N, zN_le, zN_lt, zN_eq, Nz_eq, mI_t, mI_f, bI_0, bI_1, bI_t, bI_f, dltT, dltF, dleT, dleF, deqT, deqF, Nat.not_lt_zero, not_true_eq_false, not_false_eq_true, true_and, and_true, false_and, and_false, or_true, true_or, false_or, or_false, and_self, if_true, if_false, Classical.not_not, Nat.add_assoc, Nat.zero_add, Nat.add_zero, bI_or, bI_True, bI_False, Bool.false_eq_true, reduceCtorEq, eq_self, gi_si, gl_si, gr_si, hn_si, hL_si, hX_si, gi_sl, gl_sl, gr_sl, hn_sl, ob_si, ar_si, ob_sl, ar_sl, ks_12_0])
    exact hQ
theorem k_days_q {h : Hp} {c : Kp} {q n : Nat} (hB : Bs h) (hK : Kn h c) (hk : kb c) (hq : q ≤ 99) (hn : n ≤ 1000) {e : Nat} (hd : 3 ≤ e) (K : Option Value → Hp → Prop) : Cal e 12 [.ref 19, .int (iN q), .int (iN n)] h K = K (some (.int (iN (rp (dyN c) n q)))) (h) := Cal_eq (k_days (hB := hB) (hK := hK) (hk := hk) (hq := hq) (hn := hn)) hd K
noncomputable def oI (r : Option Nat) : Int32 := match r with | some k => iN k | none => zI (-9)
noncomputable def zeF (f : Nat → Nat) (q n : Nat) : Option Nat := if rp f n q = 0 then some n else none
/-- behind how many days, 99 at most, it is 0 first -/
noncomputable def fmO (f : Nat → Nat) (q : Nat) : Option Nat := itx (zeF f q) 0 100
theorem k_mend {h : Hp} {c : Kp} {q : Nat} (hB : Bs h) (hK : Kn h c) (hk : kb c) (hq : q ≤ 99) : Ret 3 13 [.ref 19, .int (iN q)] h (some (.int (oI (fmO (dyN c) q)))) (h) := by
  refine Ret_L [some (.ref 19), some (.int (iN q)), none, none] rfl rfl fun Q hQ => ?_
  obtain ⟨oK, rK, aK, sK⟩ := K_facts hB
  (refine wp_go 600 ks_13_0.1 ?_; simp (disch := first | assumption | (simp only [ob_si, ar_si, ob_sl, ar_sl]; assumption) | omega) only [ci_0, ci_1, ci_99, cm_9, inc_i, ldA_a, ldI_i, oc_11, p_0, p_2, p_3, p_30, p_32, p_45, p_6, p_80_2, p_9, p_90, wpn_succ, wpn_zero, stp_h, lk_0, lk_s, st1_0, st1_1, st1_2, st2_0, st2_1, st2_2, kj_i, kj_a, kj_l, kj_n, cat_n, cat_i, cat_a, cat_u, cat_l, vc_i, vc_a, rv_s, tl_n, tl_s, Cal'_s, List.length_cons, List.length_nil, i0, i1, iNd, iN_lt, iN_le, iN_eq, iN_add, iN_mul, iN_mod, iN_sub, iN_div, iN_clamp, iN_inb, zle_N, zlt_N, zN_le, zN_lt, zN_eq, Nz_eq, mI_t, mI_f, bI_0, bI_1, bI_t, bI_f, dltT, dltF, dleT, dleF, deqT, deqF, Nat.not_lt_zero, not_true_eq_false, not_false_eq_true, true_and, and_true, false_and, and_false, or_true, true_or, false_or, or_false, and_self, if_true, if_false, Classical.not_not, Nat.add_assoc, Nat.zero_add, Nat.add_zero, bI_or, bI_True, bI_False, Bool.false_eq_true, reduceCtorEq, eq_self, gi_si, gl_si, gr_si, hn_si, hL_si, hX_si, gi_sl, gl_sl, gr_sl, hn_sl, ob_si, ar_si, ob_sl, ar_sl, ks_13_0])
  refine wp_find (fun i (_ : Unit) => [some (.ref 19), some (.int (iN q)), some (.int (iN (rp (dyN c) i q))), some (.int (iN i))]) (zeF (dyN c) q) 100 ?_ 100 0 () (by omega) ?_ ?_
  · intro i w hi hf hn
    have ha := rp_dy (c := c) hq i
    have h0 : ¬ rp (dyN c) i q = 0 := fun e => by simp [zeF, e] at hf
    (refine wp_go 600 ks_13_0.2.2.2.2.1 ?_; simp (disch := first | assumption | (simp only [ob_si, ar_si, ob_sl, ar_sl]; assumption) | omega) only [ci_0, ci_1, ci_99, cm_9, inc_i, ldA_a, ldI_i, oc_11, p_0, p_2, p_3, p_30, p_32, p_45, p_6, p_80_2, p_9, p_90, wpn_succ, wpn_zero, stp_h, lk_0, lk_s, st1_0, st1_1, st1_2, st2_0, st2_1, st2_2, kj_i, kj_a, kj_l, kj_n, cat_n, cat_i, cat_a, cat_u, cat_l, vc_i, vc_a, rv_s, tl_n, tl_s, Cal'_s, List.length_cons, List.length_nil, i0, i1, iNd, iN_lt, iN_le, iN_eq, iN_add, iN_mul, iN_mod, iN_sub, iN_div, iN_clamp, iN_inb, zle_N, zlt_N, zN_le, zN_lt, zN_eq, Nz_eq, mI_t, mI_f, bI_0, bI_1, bI_t, bI_f, dltT, dltF, dleT, dleF, deqT, deqF, Nat.not_lt_zero, not_true_eq_false, not_false_eq_true, true_and, and_true, false_and, and_false, or_true, true_or, false_or, or_false, and_self, if_true, if_false, Classical.not_not, Nat.add_assoc, Nat.zero_add, Nat.add_zero, bI_or, bI_True, bI_False, Bool.false_eq_true, reduceCtorEq, eq_self, gi_si, gl_si, gr_si, hn_si, hL_si, hX_si, gi_sl, gl_sl, gr_sl, hn_sl, ob_si, ar_si, ob_sl, ar_sl, ks_13_0, oK, k_day_q hB hK hk, h0])
    exact hn ()
  · intro r hr j w hj hf
    have ha := rp_dy (c := c) hq j
    by_cases h0 : rp (dyN c) j q = 0
    · rw [zeF, if_pos h0] at hf
      rw [fmO, hr, ← hf] at hQ
      (refine wp_go 600 ks_13_0.2.2.2.2.1 ?_; simp (disch := first | assumption | (simp only [ob_si, ar_si, ob_sl, ar_sl]; assumption) | omega) only [ci_0, ci_1, ci_99, cm_9, inc_i, ldA_a, ldI_i, oc_11, p_0, p_2, p_3, p_30, p_32, p_45, p_6, p_80_2, p_9, p_90, wpn_succ, wpn_zero, stp_h, lk_0, lk_s, st1_0, st1_1, st1_2, st2_0, st2_1, st2_2, kj_i, kj_a, kj_l, kj_n, cat_n, cat_i, cat_a, cat_u, cat_l, vc_i, vc_a, rv_s, tl_n, tl_s, Cal'_s, List.length_cons, List.length_nil, i0, i1, iNd, iN_lt, iN_le, iN_eq, iN_add, iN_mul, iN_mod, iN_sub, iN_div, iN_clamp, iN_inb, zle_N, zlt_N, zN_le, zN_lt, zN_eq, Nz_eq, mI_t, mI_f, bI_0, bI_1, bI_t, bI_f, dltT, dltF, dleT, dleF, deqT, deqF, Nat.not_lt_zero, not_true_eq_false, not_false_eq_true, true_and, and_true, false_and, and_false, or_true, true_or, false_or, or_false, and_self, if_true, if_false, Classical.not_not, Nat.add_assoc, Nat.zero_add, Nat.add_zero, bI_or, bI_True, bI_False, Bool.false_eq_true, reduceCtorEq, eq_self, gi_si, gl_si, gr_si, hn_si, hL_si, hX_si, gi_sl, gl_sl, gr_sl, hn_sl, ob_si, ar_si, ob_sl, ar_sl, ks_13_0, oK, k_day_q hB hK hk, h0])
      exact hQ
    · rw [zeF, if_neg h0] at hf; cases hf
  · intro he w
    rw [fmO, he] at hQ
    (refine wp_go 600 ks_13_0.2.2.2.2.1 ?_; simp (disch := first | assumption | (simp only [ob_si, ar_si, ob_sl, ar_sl]; assumption) | omega) only [ci_0, ci_1, ci_99, cm_9, inc_i, ldA_a, ldI_i, oc_11, p_0, p_2, p_3, p_30, p_32, p_45, p_6, p_80_2, p_9, p_90, wpn_succ, wpn_zero, stp_h, lk_0, lk_s, st1_0, st1_1, st1_2, st2_0, st2_1, st2_2, kj_i, kj_a, kj_l, kj_n, cat_n, cat_i, cat_a, cat_u, cat_l, vc_i, vc_a, rv_s, tl_n, tl_s, Cal'_s, List.length_cons, List.length_nil, i0, i1, iNd, iN_lt, iN_le, iN_eq, iN_add, iN_mul, iN_mod, iN_sub, iN_div, iN_clamp, iN_inb, zle_N, zlt_N, zN_le, zN_lt, zN_eq, Nz_eq, mI_t, mI_f, bI_0, bI_1, bI_t, bI_f, dltT, dltF, dleT, dleF, deqT, deqF, Nat.not_lt_zero, not_true_eq_false, not_false_eq_true, true_and, and_true, false_and, and_false, or_true, true_or, false_or, or_false, and_self, if_true, if_false, Classical.not_not, Nat.add_assoc, Nat.zero_add, Nat.add_zero, bI_or, bI_True, bI_False, Bool.false_eq_true, reduceCtorEq, eq_self, gi_si, gl_si, gr_si, hn_si, hL_si, hX_si, gi_sl, gl_sl, gr_sl, hn_sl, ob_si, ar_si, ob_sl, ar_sl, ks_13_0, oK])
    exact hQ
theorem k_mend_q {h : Hp} {c : Kp} {q : Nat} (hB : Bs h) (hK : Kn h c) (hk : kb c) (hq : q ≤ 99) {e : Nat} (hd : 3 ≤ e) (K : Option Value → Hp → Prop) : Cal e 13 [.ref 19, .int (iN q)] h K = K (some (.int (oI (fmO (dyN c) q)))) (h) := Cal_eq (k_mend (hB := hB) (hK := hK) (hk := hk) (hq := hq)) hd K
/-! days gone by of all mats -/
noncomputable def lyQ (x : Mt) (g : Nat → Nat → Nat → Nat) (p : Nat) : Nat → Nat → Nat := fun i j => if i < xN x ∧ j < xN x ∧ xM x i = j ∧ (i < p ∨ j < p) then g (min i j) (max i j) (xQ x i j) else xQ x i j
noncomputable def lyM (x : Mt) (g : Nat → Nat → Nat → Nat) (p : Nat) : Mt := (xN x, xD x, xK x, xF x, xH x, xM x, lyQ x g p)
theorem wf_ly {x : Mt} {g : Nat → Nat → Nat → Nat} {p : Nat} (hW : Wf x) (hg : ∀ i j q, q ≤ 99 → g i j q ≤ 99) : Wf (lyM x g p) := by
  obtain ⟨wN, wK, wF, wH, wM, wQ, wS, wZ, wT⟩ := hW
  refine ⟨wN, wK, wF, wH, wM, ?_, ?_, ?_, wT⟩
  · intro i j
    show lyQ x g p i j ≤ 99
    unfold lyQ
    split
    · exact hg _ _ _ (wQ i j)
    · exact wQ i j
  · intro i j
    show lyQ x g p i j = lyQ x g p j i
    unfold lyQ
    by_cases h1 : i < xN x ∧ j < xN x
    · obtain ⟨h1, h2⟩ := h1
      by_cases h3 : xM x i = j
      · have h4 : xM x j = i := by rw [← h3]; exact (wT i h1 (by omega)).2.2
        by_cases h5 : i < p ∨ j < p
        · rw [if_pos ⟨h1, h2, h3, h5⟩, if_pos ⟨h2, h1, h4, h5.symm⟩, wS i j, Nat.min_comm, Nat.max_comm]
        · rw [if_neg (by omega), if_neg (by omega), wS i j]
      · have h4 : ¬ xM x j = i := fun e => h3 (by rw [← e]; exact (wT j h2 (by omega)).2.2)
        rw [if_neg (fun e => h3 e.2.2.1), if_neg (fun e => h4 e.2.2.1), wS i j]
    · rw [if_neg (fun e => h1 ⟨e.1, e.2.1⟩), if_neg (fun e => h1 ⟨e.2.1, e.1⟩), wS i j]
  · intro i j hj
    show lyQ x g p i j = 0
    change xN x ≤ j at hj
    unfold lyQ
    rw [if_neg (by omega)]
    exact wZ i j hj
theorem ly_0 (x : Mt) (g : Nat → Nat → Nat → Nat) : lyM x g 0 = x := by
  have : lyQ x g 0 = xQ x := by funext i j; unfold lyQ; rw [if_neg (by omega)]
  unfold lyM
  rw [this]
  rfl
theorem ly_same {x : Mt} {g : Nat → Nat → Nat → Nat} {p : Nat} (hW : Wf x) (hp : p < xN x) (hm : ¬ (xM x p < 6 ∧ p < xM x p)) : lyM x g (p + 1) = lyM x g p := by
  obtain ⟨wN, wK, wF, wH, wM, wQ, wS, wZ, wT⟩ := hW
  have : lyQ x g (p + 1) = lyQ x g p := by
    funext i j
    unfold lyQ
    by_cases h : i < xN x ∧ j < xN x ∧ xM x i = j
    · obtain ⟨h1, h2, h3⟩ := h
      have t := wT i h1 (by omega)
      have e : (i < p + 1 ∨ j < p + 1) ↔ (i < p ∨ j < p) := by
        constructor
        · intro hh
          by_cases e1 : i = p
          · subst e1; omega
          · by_cases e2 : j = p
            · subst e2
              have : xM x j = i := by rw [← h3]; exact t.2.2
              have t2 := wT j h2 (by omega)
              omega
            · omega
        · omega
      by_cases hh : i < p ∨ j < p
      · rw [if_pos ⟨h1, h2, h3, e.mpr hh⟩, if_pos ⟨h1, h2, h3, hh⟩]
      · rw [if_neg (fun q => hh (e.mp q.2.2.2)), if_neg (fun q => hh q.2.2.2)]
    · rw [if_neg (fun q => h ⟨q.1, q.2.1, q.2.2.1⟩), if_neg (fun q => h ⟨q.1, q.2.1, q.2.2.1⟩)]
  unfold lyM
  rw [this]
theorem ly_new {x : Mt} {g : Nat → Nat → Nat → Nat} {p : Nat} (hW : Wf x) (hp : p < xN x) (h6 : xM x p < 6) (hm : p < xM x p) : lyM x g (p + 1) = uQ (lyM x g p) p (xM x p) (g p (xM x p) (xQ x p (xM x p))) ∧ xQ (lyM x g p) p (xM x p) = xQ x p (xM x p) := by
  obtain ⟨wN, wK, wF, wH, wM, wQ, wS, wZ, wT⟩ := hW
  obtain ⟨t1, t2, t3⟩ := wT p hp h6
  have : lyQ x g (p + 1) = up2 (lyQ x g p) p (xM x p) (g p (xM x p) (xQ x p (xM x p))) := by
    funext i j
    unfold up2
    by_cases e1 : i = p ∧ j = xM x p
    · rw [if_pos (Or.inl e1)]
      obtain ⟨rfl, rfl⟩ := e1
      unfold lyQ
      rw [if_pos (by omega), show min i (xM x i) = i by omega, show max i (xM x i) = xM x i by omega]
    · by_cases e2 : i = xM x p ∧ j = p
      · rw [if_pos (Or.inr e2)]
        obtain ⟨e3, rfl⟩ := e2
        unfold lyQ
        rw [if_pos (by rw [e3, t3]; omega), show min i j = j by omega, show max i j = xM x j by omega, wS i j, e3]
      · rw [if_neg (by omega)]
        unfold lyQ
        by_cases h : i < xN x ∧ j < xN x ∧ xM x i = j
        · obtain ⟨h1, h2, h3⟩ := h
          have t := wT i h1 (by omega)
          have e3 : i ≠ p := fun e => e1 ⟨e, by rw [← e]; exact h3.symm⟩
          have e4 : j ≠ p := fun e => e2 ⟨by rw [← e, ← h3]; exact t.2.2.symm, e⟩
          by_cases hh : i < p ∨ j < p
          · rw [if_pos ⟨h1, h2, h3, by omega⟩, if_pos ⟨h1, h2, h3, hh⟩]
          · rw [if_neg (by omega), if_neg (by omega)]
        · rw [if_neg (fun q => h ⟨q.1, q.2.1, q.2.2.1⟩), if_neg (fun q => h ⟨q.1, q.2.1, q.2.2.1⟩)]
  refine ⟨?_, ?_⟩
  · unfold lyM
    rw [this]
    rfl
  · show lyQ x g p p (xM x p) = _
    unfold lyQ
    rw [if_neg (by omega)]
noncomputable def dgo (x : Mt) (n : Nat) : Nat → Nat → Nat → Nat := fun i j q => rp (dyN (kpx x i j)) n q
/-- n days of all -/
noncomputable def dayM (x : Mt) (n : Nat) : Mt := uD (lyM x (dgo x n) (xN x)) (xD x + iN n)
theorem wf_D {x : Mt} (hW : Wf x) (v : Int32) : Wf (uD x v) := hW
theorem wf_day {x : Mt} (hW : Wf x) (n : Nat) : Wf (dayM x n) := wf_D (wf_ly hW fun _ _ _ hq => rp_dy hq n) _
theorem w_live {h : Hp} {m n : Nat} {x : Mt} (hm : isM m) (hB : Bs h) (hA : At h m x) (hW : Wf x) (hn : n ≤ 1000) : ∃ h', Ret 4 50 [.ref m, .int (iN n), .ref 19] h none h' ∧ At h' m (dayM x n) ∧ Fr (fun o => Sm m o ∨ Sk o) h h' := by
  have mn := M_ne hm
  have hg : ∀ i j q, q ≤ 99 → dgo x n i j q ≤ 99 := fun _ _ _ hq => rp_dy hq n
  have key : ∀ Q : Option Value → Hp → Prop, (∀ h', At h' m (dayM x n) → Fr (fun o => Sm m o ∨ Sk o) h h' → Q none h') → wp 4 50 0 [some (.ref m), some (.int (iN n)), some (.ref 19), none, none] [] h Q := by
    intro Q hQ
    (refine wp_go 600 ks_50_0.1 ?_; simp (disch := first | assumption | (simp only [ob_si, ar_si, ob_sl, ar_sl]; assumption) | omega) only [ci_0, ci_1, inc_i, ldA_a, ldI_i, oc_12, oc_34, oc_36, oc_37, oc_7, p_0, p_10, p_2, p_3, p_30, p_44, p_45, p_50, p_6, p_60, p_63, p_80_2, p_80_3, p_80_4, p_9, p_94, wpn_succ, wpn_zero, stp_h, lk_0, lk_s, st1_0, st1_1, st1_2, st2_0, st2_1, st2_2, kj_i, kj_a, kj_l, kj_n, cat_n, cat_i, cat_a, cat_u, cat_l, vc_i, vc_a, rv_s, tl_n, tl_s, Cal'_s, List.length_cons, List.length_nil, i0, i1, iNd, iN_lt, iN_le, iN_eq, iN_add, iN_mul, iN_mod, iN_sub, iN_div, iN_clamp, iN_inb, zle_N, zlt_N, zN_le, zN_lt, zN_eq, Nz_eq, mI_t, mI_f, bI_0, bI_1, bI_t, bI_f, dltT, dltF, dleT, dleF, deqT, deqF, Nat.not_lt_zero, not_true_eq_false, not_false_eq_true, true_and, and_true, false_and, and_false, or_true, true_or, false_or, or_false, and_self, if_true, if_false, Classical.not_not, Nat.add_assoc, Nat.zero_add, Nat.add_zero, bI_or, bI_True, bI_False, Bool.false_eq_true, reduceCtorEq, eq_self, gi_si, gl_si, gr_si, hn_si, hL_si, hX_si, gi_sl, gl_sl, gr_sl, hn_sl, ob_si, ar_si, ob_sl, ar_sl, ks_50_0, ks_50_1])
    refine wp_loop (fun p L h' => (∃ w, L = [some (.ref m), some (.int (iN n)), some (.ref 19), some (.int (iN p)), w]) ∧ At h' m (lyM x (dgo x n) p) ∧ Fr (fun o => Sm m o ∨ Sk o) h h') (xN x) ?_ ?_ (xN x) 0 _ h (by omega) ⟨⟨_, rfl⟩, by rw [ly_0]; exact hA, Fr.rf _ h⟩
    · rintro p L h1 hp ⟨⟨w, rfl⟩, A1, f1⟩ hnx
      have B1 := f1.bs hB
      have W1 := wf_ly (p := p) hW hg
      obtain ⟨oM, rM0, rM1, rM2, rM3, rM4, aM1, aM2, aM3, aM4, aM5, sM1, sM2, sM3, sM4, sM5⟩ := M_facts hm B1
      have wN := hW.1
      have fN : gi h1 m 5 = iN (xN x) := A1.1
      have q1 : ∀ {e : Nat} (hd : 1 ≤ e) K, Cal e 34 [.ref m, .int (iN p)] h1 K = K (some (.int (mI (xM x p)))) h1 := c_mate_q hm B1 A1 W1 hp
      by_cases h6 : xM x p < 6
      · by_cases hc : p < xM x p
        · obtain ⟨e1, e2⟩ := ly_new (g := dgo x n) hW hp h6 hc
          have hq : xQ x p (xM x p) ≤ 99 := hW.2.2.2.2.2.1 _ _
          obtain ⟨h2, r2, K2, f2⟩ := w_take (i := p) (j := xM x p) hm B1 A1 W1 (by omega) h6
          have B2 := f2.bs B1
          have A2 := A1.fr f2 (by intro o h1 h2; unfold Sk; omega)
          have o2 := (M_facts hm B2).1
          have q2 := c_quar hm B2 A2 W1 (i := p) (j := xM x p) (by omega) h6
          rw [e2] at q2
          have ok2 := (K_facts B2).1
          have o1 := (K_facts B1).1
          (refine wp_go 600 ks_50_0.2.2.1 ?_; simp (disch := first | assumption | (simp only [ob_si, ar_si, ob_sl, ar_sl]; assumption) | omega) only [ci_0, ci_1, inc_i, ldA_a, ldI_i, oc_12, oc_34, oc_36, oc_37, oc_7, p_0, p_10, p_2, p_3, p_30, p_44, p_45, p_50, p_6, p_60, p_63, p_80_2, p_80_3, p_80_4, p_9, p_94, wpn_succ, wpn_zero, stp_h, lk_0, lk_s, st1_0, st1_1, st1_2, st2_0, st2_1, st2_2, kj_i, kj_a, kj_l, kj_n, cat_n, cat_i, cat_a, cat_u, cat_l, vc_i, vc_a, rv_s, tl_n, tl_s, Cal'_s, List.length_cons, List.length_nil, i0, i1, iNd, iN_lt, iN_le, iN_eq, iN_add, iN_mul, iN_mod, iN_sub, iN_div, iN_clamp, iN_inb, zle_N, zlt_N, zN_le, zN_lt, zN_eq, Nz_eq, mI_t, mI_f, bI_0, bI_1, bI_t, bI_f, dltT, dltF, dleT, dleF, deqT, deqF, Nat.not_lt_zero, not_true_eq_false, not_false_eq_true, true_and, and_true, false_and, and_false, or_true, true_or, false_or, or_false, and_self, if_true, if_false, Classical.not_not, Nat.add_assoc, Nat.zero_add, Nat.add_zero, bI_or, bI_True, bI_False, Bool.false_eq_true, reduceCtorEq, eq_self, gi_si, gl_si, gr_si, hn_si, hL_si, hX_si, gi_sl, gl_sl, gr_sl, hn_sl, ob_si, ar_si, ob_sl, ar_sl, ks_50_0, ks_50_1, oM, fN, q1, o1, Cal_eq r2, o2, Cal_eq q2, ok2, k_days_q B2 K2 (kb_x W1 _ _), c_setQ_q hm B2])
          refine hnx _ _ ⟨⟨_, rfl⟩, ?_, ?_⟩
          · rw [e1]
            exact At_Q (by omega) h6 A2
          · refine ((f1.tr (f2.mono fun o ho => Or.inr ho)).si ?_ _ _).si ?_ _ _ <;> left <;> unfold Sm <;> omega
        · (refine wp_go 600 ks_50_0.2.2.1 ?_; simp (disch := first | assumption | (simp only [ob_si, ar_si, ob_sl, ar_sl]; assumption) | omega) only [ci_0, ci_1, inc_i, ldA_a, ldI_i, oc_12, oc_34, oc_36, oc_37, oc_7, p_0, p_10, p_2, p_3, p_30, p_44, p_45, p_50, p_6, p_60, p_63, p_80_2, p_80_3, p_80_4, p_9, p_94, wpn_succ, wpn_zero, stp_h, lk_0, lk_s, st1_0, st1_1, st1_2, st2_0, st2_1, st2_2, kj_i, kj_a, kj_l, kj_n, cat_n, cat_i, cat_a, cat_u, cat_l, vc_i, vc_a, rv_s, tl_n, tl_s, Cal'_s, List.length_cons, List.length_nil, i0, i1, iNd, iN_lt, iN_le, iN_eq, iN_add, iN_mul, iN_mod, iN_sub, iN_div, iN_clamp, iN_inb, zle_N, zlt_N, zN_le, zN_lt, zN_eq, Nz_eq, mI_t, mI_f, bI_0, bI_1, bI_t, bI_f, dltT, dltF, dleT, dleF, deqT, deqF, Nat.not_lt_zero, not_true_eq_false, not_false_eq_true, true_and, and_true, false_and, and_false, or_true, true_or, false_or, or_false, and_self, if_true, if_false, Classical.not_not, Nat.add_assoc, Nat.zero_add, Nat.add_zero, bI_or, bI_True, bI_False, Bool.false_eq_true, reduceCtorEq, eq_self, gi_si, gl_si, gr_si, hn_si, hL_si, hX_si, gi_sl, gl_sl, gr_sl, hn_sl, ob_si, ar_si, ob_sl, ar_sl, ks_50_0, ks_50_1, oM, fN, q1])
          exact hnx _ _ ⟨⟨_, rfl⟩, by rw [ly_same hW hp (by omega)]; exact A1, f1⟩
      · (refine wp_go 600 ks_50_0.2.2.1 ?_; simp (disch := first | assumption | (simp only [ob_si, ar_si, ob_sl, ar_sl]; assumption) | omega) only [ci_0, ci_1, inc_i, ldA_a, ldI_i, oc_12, oc_34, oc_36, oc_37, oc_7, p_0, p_10, p_2, p_3, p_30, p_44, p_45, p_50, p_6, p_60, p_63, p_80_2, p_80_3, p_80_4, p_9, p_94, wpn_succ, wpn_zero, stp_h, lk_0, lk_s, st1_0, st1_1, st1_2, st2_0, st2_1, st2_2, kj_i, kj_a, kj_l, kj_n, cat_n, cat_i, cat_a, cat_u, cat_l, vc_i, vc_a, rv_s, tl_n, tl_s, Cal'_s, List.length_cons, List.length_nil, i0, i1, iNd, iN_lt, iN_le, iN_eq, iN_add, iN_mul, iN_mod, iN_sub, iN_div, iN_clamp, iN_inb, zle_N, zlt_N, zN_le, zN_lt, zN_eq, Nz_eq, mI_t, mI_f, bI_0, bI_1, bI_t, bI_f, dltT, dltF, dleT, dleF, deqT, deqF, Nat.not_lt_zero, not_true_eq_false, not_false_eq_true, true_and, and_true, false_and, and_false, or_true, true_or, false_or, or_false, and_self, if_true, if_false, Classical.not_not, Nat.add_assoc, Nat.zero_add, Nat.add_zero, bI_or, bI_True, bI_False, Bool.false_eq_true, reduceCtorEq, eq_self, gi_si, gl_si, gr_si, hn_si, hL_si, hX_si, gi_sl, gl_sl, gr_sl, hn_sl, ob_si, ar_si, ob_sl, ar_sl, ks_50_0, ks_50_1, oM, fN, q1])
        exact hnx _ _ ⟨⟨_, rfl⟩, by rw [ly_same hW hp (by omega)]; exact A1, f1⟩
    · rintro L h1 ⟨⟨w, rfl⟩, A1, f1⟩
      have B1 := f1.bs hB
      obtain ⟨oM, rM0, rM1, rM2, rM3, rM4, aM1, aM2, aM3, aM4, aM5, sM1, sM2, sM3, sM4, sM5⟩ := M_facts hm B1
      have wN := hW.1
      have fN : gi h1 m 5 = iN (xN x) := A1.1
      have fD : gi h1 m 6 = xD x := A1.2.1
      (refine wp_go 600 ks_50_0.2.2.1 ?_; simp (disch := first | assumption | (simp only [ob_si, ar_si, ob_sl, ar_sl]; assumption) | omega) only [ci_0, ci_1, inc_i, ldA_a, ldI_i, oc_12, oc_34, oc_36, oc_37, oc_7, p_0, p_10, p_2, p_3, p_30, p_44, p_45, p_50, p_6, p_60, p_63, p_80_2, p_80_3, p_80_4, p_9, p_94, wpn_succ, wpn_zero, stp_h, lk_0, lk_s, st1_0, st1_1, st1_2, st2_0, st2_1, st2_2, kj_i, kj_a, kj_l, kj_n, cat_n, cat_i, cat_a, cat_u, cat_l, vc_i, vc_a, rv_s, tl_n, tl_s, Cal'_s, List.length_cons, List.length_nil, i0, i1, iNd, iN_lt, iN_le, iN_eq, iN_add, iN_mul, iN_mod, iN_sub, iN_div, iN_clamp, iN_inb, zle_N, zlt_N, zN_le, zN_lt, zN_eq, Nz_eq, mI_t, mI_f, bI_0, bI_1, bI_t, bI_f, dltT, dltF, dleT, dleF, deqT, deqF, Nat.not_lt_zero, not_true_eq_false, not_false_eq_true, true_and, and_true, false_and, and_false, or_true, true_or, false_or, or_false, and_self, if_true, if_false, Classical.not_not, Nat.add_assoc, Nat.zero_add, Nat.add_zero, bI_or, bI_True, bI_False, Bool.false_eq_true, reduceCtorEq, eq_self, gi_si, gl_si, gr_si, hn_si, hL_si, hX_si, gi_sl, gl_sl, gr_sl, hn_sl, ob_si, ar_si, ob_sl, ar_sl, ks_50_0, ks_50_1, oM, fN, fD])
      exact hQ _ (At_D A1 _) (f1.si (by left; unfold Sm; omega) _ _)
  obtain ⟨v, h', r, rfl, A, f⟩ := Ret_ex (d := 4) (y := 50) (as := [.ref m, .int (iN n), .ref 19]) [some (.ref m), some (.int (iN n)), some (.ref 19), none, none] rfl rfl (key (fun v h' => v = none ∧ At h' m (dayM x n) ∧ Fr (fun o => Sm m o ∨ Sk o) h h') fun h' a b => ⟨rfl, a, b⟩)
  exact ⟨h', r, A, f⟩
