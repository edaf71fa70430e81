/-! the model's pairings by digits of a code -/
noncomputable def seekN (n u : Nat) : Nat → Nat → Nat → Nat × Nat
  | 0, d, q => (d, q)
  | f + 1, d, q => if d = 0 then (d, q) else seekN n u f (if q + 1 < n ∧ ¬ u.testBit (q + 1) = true then d - 1 else d) (q + 1)
theorem seek_0 (n u f q : Nat) : seekN n u f 0 q = (0, q) := by cases f <;> rfl
theorem seek_s {n u f d q : Nat} (hd : ¬ d = 0) : seekN n u (f + 1) d q = seekN n u f (if q + 1 < n ∧ ¬ u.testBit (q + 1) = true then d - 1 else d) (q + 1) := if_neg hd
theorem seek_b (n u : Nat) : ∀ f d q, q ≤ (seekN n u f d q).2 ∧ (seekN n u f d q).2 ≤ q + f ∧ (seekN n u f d q).1 ≤ d
  | 0, d, q => ⟨Nat.le_refl _, Nat.le_refl _, Nat.le_refl _⟩
  | f + 1, d, q => by
    by_cases hd : d = 0
    · rw [hd, seek_0]; exact ⟨Nat.le_refl _, by simp only; omega, Nat.le_refl _⟩
    · rw [seek_s hd]
      have h := seek_b n u f (if q + 1 < n ∧ ¬ u.testBit (q + 1) = true then d - 1 else d) (q + 1)
      by_cases hc : q + 1 < n ∧ ¬ u.testBit (q + 1) = true
      · rw [if_pos hc] at h ⊢; omega
      · rw [if_neg hc] at h ⊢; omega
noncomputable def wtD (w : Nat) : Nat := if 1 < w then w / 6 else 1
theorem wtD_p {w : Nat} (h : ∃ m, w = 6 ^ m) : ∃ m, wtD w = 6 ^ m := by
  obtain ⟨m, rfl⟩ := h
  unfold wtD
  cases m with
  | zero => exact ⟨0, rfl⟩
  | succ m =>
    refine ⟨m, ?_⟩
    have h6 : 0 < 6 ^ m := Nat.pow_pos (by omega)
    rw [Nat.pow_succ, if_pos (by omega)]
    omega
theorem pow_1 {w : Nat} (h : ∃ m, w = 6 ^ m) : 1 ≤ w := by
  obtain ⟨m, rfl⟩ := h
  exact Nat.pow_pos (by omega)
noncomputable def layT (n : Nat) : Nat → Nat → Nat → Nat → Nat → (Nat → Nat) → Option (Nat → Nat)
  | 0, _, _, _, r, T => if r = 0 then some T else none
  | k + 1, p, u, w, r, T => if u.testBit p = true then layT n k (p + 1) u w r T else
    if n ≤ (seekN n (u ||| 2 ^ p) (n - p) (r / w) p).2 then none else
    if p < (seekN n (u ||| 2 ^ p) (n - p) (r / w) p).2 then layT n k (p + 1) ((u ||| 2 ^ p) ||| 2 ^ (seekN n (u ||| 2 ^ p) (n - p) (r / w) p).2) (wtD w) (r % w) (up (up (up T p 6) p (seekN n (u ||| 2 ^ p) (n - p) (r / w) p).2) (seekN n (u ||| 2 ^ p) (n - p) (r / w) p).2 p) else
    layT n k (p + 1) (u ||| 2 ^ p) (wtD w) (r % w) (up T p 6)
theorem layT_0 {n p u w r : Nat} {T : Nat → Nat} : layT n 0 p u w r T = if r = 0 then some T else none := rfl
theorem layT_s (n k p u w r : Nat) (T : Nat → Nat) : layT n (k + 1) p u w r T = (if u.testBit p = true then layT n k (p + 1) u w r T else
    if n ≤ (seekN n (u ||| 2 ^ p) (n - p) (r / w) p).2 then none else
    if p < (seekN n (u ||| 2 ^ p) (n - p) (r / w) p).2 then layT n k (p + 1) ((u ||| 2 ^ p) ||| 2 ^ (seekN n (u ||| 2 ^ p) (n - p) (r / w) p).2) (wtD w) (r % w) (up (up (up T p 6) p (seekN n (u ||| 2 ^ p) (n - p) (r / w) p).2) (seekN n (u ||| 2 ^ p) (n - p) (r / w) p).2 p) else
    layT n k (p + 1) (u ||| 2 ^ p) (wtD w) (r % w) (up T p 6)) := rfl
theorem layT_u {n k p u w r : Nat} {T : Nat → Nat} (h : u.testBit p = true) : layT n (k + 1) p u w r T = layT n k (p + 1) u w r T := if_pos h
theorem layT_n {n k p u w r q : Nat} {T : Nat → Nat} (h : ¬ u.testBit p = true) (hq : (seekN n (u ||| 2 ^ p) (n - p) (r / w) p).2 = q) (h2 : n ≤ q) : layT n (k + 1) p u w r T = none := by
  rw [layT_s, if_neg h, hq, if_pos h2]
theorem layT_2 {n k p u w r q : Nat} {T : Nat → Nat} (h : ¬ u.testBit p = true) (hq : (seekN n (u ||| 2 ^ p) (n - p) (r / w) p).2 = q) (h2 : ¬ n ≤ q) (h3 : p < q) : layT n (k + 1) p u w r T = layT n k (p + 1) ((u ||| 2 ^ p) ||| 2 ^ q) (wtD w) (r % w) (up (up (up T p 6) p q) q p) := by
  rw [layT_s, if_neg h, hq, if_neg h2, if_pos h3]
theorem layT_1 {n k p u w r q : Nat} {T : Nat → Nat} (h : ¬ u.testBit p = true) (hq : (seekN n (u ||| 2 ^ p) (n - p) (r / w) p).2 = q) (h2 : ¬ n ≤ q) (h3 : ¬ p < q) : layT n (k + 1) p u w r T = layT n k (p + 1) (u ||| 2 ^ p) (wtD w) (r % w) (up T p 6) := by
  rw [layT_s, if_neg h, hq, if_neg h2, if_neg h3]
noncomputable def S103 : Nat → Prop := fun o => o = 103
noncomputable def Tr (h : Hp) (p u : Nat) (T : Nat → Nat) : Prop := ∀ i, i < 6 → (i < p ∨ u.testBit i = true) → gi h 103 i = mI (T i)
theorem or_bit {u p i : Nat} (h : (u ||| 2 ^ p).testBit i = true) : u.testBit i = true ∨ i = p := by
  rw [Nat.testBit_or, Nat.testBit_two_pow, Bool.or_eq_true, decide_eq_true_eq] at h
  exact h.imp id fun e => e.symm
theorem lay_seek {h : Hp} {x : Mt} {c w0 u w r p : Nat} {Q : Option Value → Hp → Prop} (hB : Bs h) (hN : gi h 87 0 = iN (xN x)) (hn : xN x ≤ 6) (hu : u < 64) : ∀ (f d q : Nat), q + f = xN x → d < 1000000 → (∀ d' q', seekN (xN x) u f d q = (d', q') → ¬ (0 < d' ∧ q' < xN x) → wp 1 260 83 [some (.ref 87), some (.int (iN c)), some (.int (iN w0)), some (.int (iN u)), some (.int (iN w)), some (.int (iN r)), some (.int (iN p)), some (.int (iN d')), some (.int (iN q'))] [] h Q) → wp 1 260 83 [some (.ref 87), some (.int (iN c)), some (.int (iN w0)), some (.int (iN u)), some (.int (iN w)), some (.int (iN r)), some (.int (iN p)), some (.int (iN d)), some (.int (iN q))] [] h Q
  | 0, d, q, hq, hd, hk => hk d q rfl (by omega)
  | f + 1, d, q, hq, hd, hk => by
    have oO := (O_facts hB).1
    by_cases h0 : d = 0
    · exact hk d q (by rw [h0, seek_0]) (by omega)
    · have ih := lay_seek (c := c) (w0 := w0) (w := w) (r := r) (p := p) (Q := Q) hB hN hn hu f (if q + 1 < xN x ∧ ¬ u.testBit (q + 1) = true then d - 1 else d) (q + 1) (by omega) (by split <;> omega) (fun d' q' e1 e2 => hk d' q' (by rw [seek_s h0]; exact e1) e2)
      by_cases c1 : q + 1 < xN x
      · by_cases c2 : u.testBit (q + 1) = true
        · rw [if_neg (fun e => e.2 c2)] at ih
          (refine wp_go 600 ks_260_1.2.2.2.2.2.2.2.2.2.2.2.2.2.2.2.2.2.2.2.2.2.2.2 ?_; simp (disch := first | with_reducible assumption | omega | (simp only [ob_si, ar_si, ob_sl, ar_sl]; with_reducible assumption)) only [ci_0, ci_1, ci_6, cm_9, inc_i, ldA_a, ldI_i, r_0, r_11, r_14, r_15, r_19, r_2, r_20, r_3, r_30, r_31, r_32, r_36, r_43, r_44, r_46, r_6, r_60, r_62, r_71, r_81_2, r_9, r_91, wpn_S, wpn_zero, stp_h, lk_0, lk_s, st1_0, st1_1, st1_2, st2_0, st2_1, st2_2, kj_i, kj_a, kj_l, kj_n, cat_n, cat_i, cat_a, cat_u, cat_l, vc_i, vc_a, rv_s, tl_n, tl_s, Cal'_s, List.length_cons, List.length_nil, i0, i1, iNd, iN_lt, iN_le, iN_eq, iN_add, iN_mul, iN_mod, iN_sub, iN_div, iN_clamp, iN_inb, zle_N, zlt_N, zN_le, zN_lt, zN_eq, Nz_eq, mI_t, mI_f, bI_0, bI_1, bI_t, bI_f, dltT, dltF, dleT, dleF, deqT, deqF, Nat.not_lt_zero, not_true_eq_false, not_false_eq_true, true_and, and_true, false_and, and_false, or_true, true_or, false_or, or_false, and_self, if_true, if_false, Classical.not_not, Nat.add_assoc, Nat.zero_add, Nat.add_zero, bI_or, bI_True, bI_False, Bool.false_eq_true, reduceCtorEq, eq_self, gi_si, gl_si, gr_si, hn_si, hL_si, hX_si, gi_sl, gl_sl, gr_sl, hn_sl, ob_si, ar_si, ob_sl, ar_sl, ks_260_0, ks_260_1, ks_260_2, ks_260_3, ks_260_4, oO, hN, o_bit_q, c2])
          exact ih
        · rw [if_pos ⟨c1, c2⟩] at ih
          (refine wp_go 600 ks_260_1.2.2.2.2.2.2.2.2.2.2.2.2.2.2.2.2.2.2.2.2.2.2.2 ?_; simp (disch := first | with_reducible assumption | omega | (simp only [ob_si, ar_si, ob_sl, ar_sl]; with_reducible assumption)) only [ci_0, ci_1, ci_6, cm_9, inc_i, ldA_a, ldI_i, r_0, r_11, r_14, r_15, r_19, r_2, r_20, r_3, r_30, r_31, r_32, r_36, r_43, r_44, r_46, r_6, r_60, r_62, r_71, r_81_2, r_9, r_91, wpn_S, wpn_zero, stp_h, lk_0, lk_s, st1_0, st1_1, st1_2, st2_0, st2_1, st2_2, kj_i, kj_a, kj_l, kj_n, cat_n, cat_i, cat_a, cat_u, cat_l, vc_i, vc_a, rv_s, tl_n, tl_s, Cal'_s, List.length_cons, List.length_nil, i0, i1, iNd, iN_lt, iN_le, iN_eq, iN_add, iN_mul, iN_mod, iN_sub, iN_div, iN_clamp, iN_inb, zle_N, zlt_N, zN_le, zN_lt, zN_eq, Nz_eq, mI_t, mI_f, bI_0, bI_1, bI_t, bI_f, dltT, dltF, dleT, dleF, deqT, deqF, Nat.not_lt_zero, not_true_eq_false, not_false_eq_true, true_and, and_true, false_and, and_false, or_true, true_or, false_or, or_false, and_self, if_true, if_false, Classical.not_not, Nat.add_assoc, Nat.zero_add, Nat.add_zero, bI_or, bI_True, bI_False, Bool.false_eq_true, reduceCtorEq, eq_self, gi_si, gl_si, gr_si, hn_si, hL_si, hX_si, gi_sl, gl_sl, gr_sl, hn_sl, ob_si, ar_si, ob_sl, ar_sl, ks_260_0, ks_260_1, ks_260_2, ks_260_3, ks_260_4, oO, hN, o_bit_q, c2])
          exact ih
      · rw [if_neg (fun e => c1 e.1)] at ih
        (refine wp_go 600 ks_260_1.2.2.2.2.2.2.2.2.2.2.2.2.2.2.2.2.2.2.2.2.2.2.2 ?_; simp (disch := first | with_reducible assumption | omega | (simp only [ob_si, ar_si, ob_sl, ar_sl]; with_reducible assumption)) only [ci_0, ci_1, ci_6, cm_9, inc_i, ldA_a, ldI_i, r_0, r_11, r_14, r_15, r_19, r_2, r_20, r_3, r_30, r_31, r_32, r_36, r_43, r_44, r_46, r_6, r_60, r_62, r_71, r_81_2, r_9, r_91, wpn_S, wpn_zero, stp_h, lk_0, lk_s, st1_0, st1_1, st1_2, st2_0, st2_1, st2_2, kj_i, kj_a, kj_l, kj_n, cat_n, cat_i, cat_a, cat_u, cat_l, vc_i, vc_a, rv_s, tl_n, tl_s, Cal'_s, List.length_cons, List.length_nil, i0, i1, iNd, iN_lt, iN_le, iN_eq, iN_add, iN_mul, iN_mod, iN_sub, iN_div, iN_clamp, iN_inb, zle_N, zlt_N, zN_le, zN_lt, zN_eq, Nz_eq, mI_t, mI_f, bI_0, bI_1, bI_t, bI_f, dltT, dltF, dleT, dleF, deqT, deqF, Nat.not_lt_zero, not_true_eq_false, not_false_eq_true, true_and, and_true, false_and, and_false, or_true, true_or, false_or, or_false, and_self, if_true, if_false, Classical.not_not, Nat.add_assoc, Nat.zero_add, Nat.add_zero, bI_or, bI_True, bI_False, Bool.false_eq_true, reduceCtorEq, eq_self, gi_si, gl_si, gr_si, hn_si, hL_si, hX_si, gi_sl, gl_sl, gr_sl, hn_sl, ob_si, ar_si, ob_sl, ar_sl, ks_260_0, ks_260_1, ks_260_2, ks_260_3, ks_260_4, oO, hN, o_bit_q])
        exact ih
theorem lay_w {x : Mt} {c w0 : Nat} (hn : xN x ≤ 6) : ∀ (k : Nat) {p u w r : Nat} {T : Nat → Nat} {h0 h : Hp} {w7 w8 : Option Value} {Q : Option Value → Hp → Prop}, p + k = xN x → Bs h → gi h 87 0 = iN (xN x) → u < 64 → (∃ m, w = 6 ^ m) → w < 1000000 → r < 1000000 → Tr h p u T → Fo S103 (fun _ => False) h0 h → (∀ h' o, o = layT (xN x) k p u w r T → (∀ T', o = some T' → ∀ i, i < xN x → gi h' 103 i = mI (T' i)) → Fo S103 (fun _ => False) h0 h' → Q (some (.int (bI (o ≠ none)))) h') → wp 1 260 11 [some (.ref 87), some (.int (iN c)), some (.int (iN w0)), some (.int (iN u)), some (.int (iN w)), some (.int (iN r)), some (.int (iN p)), w7, w8] [] h Q
  | 0, p, u, w, r, T, h0, h, w7, w8, Q, hp, hB, hN, hu, hw, hw2, hr, hT, f, hQ => by
    have oO := (O_facts hB).1
    by_cases hr0 : r = 0
    · have hq := hQ h (some T) (by rw [layT_0, if_pos hr0]) (fun T' e i hi => by cases e; exact hT i (by omega) (Or.inl (by omega))) f
      rw [bI_t (by intro e; cases e)] at hq
      (refine wp_go 600 ks_260_0.2.2.2.2.2.2.2.2.1 ?_; simp (disch := first | with_reducible assumption | omega | (simp only [ob_si, ar_si, ob_sl, ar_sl]; with_reducible assumption)) only [ci_0, ci_1, ci_6, cm_9, inc_i, ldA_a, ldI_i, r_0, r_11, r_14, r_15, r_19, r_2, r_20, r_3, r_30, r_31, r_32, r_36, r_43, r_44, r_46, r_6, r_60, r_62, r_71, r_81_2, r_9, r_91, wpn_S, wpn_zero, stp_h, lk_0, lk_s, st1_0, st1_1, st1_2, st2_0, st2_1, st2_2, kj_i, kj_a, kj_l, kj_n, cat_n, cat_i, cat_a, cat_u, cat_l, vc_i, vc_a, rv_s, tl_n, tl_s, Cal'_s, List.length_cons, List.length_nil, i0, i1, iNd, iN_lt, iN_le, iN_eq, iN_add, iN_mul, iN_mod, iN_sub, iN_div, iN_clamp, iN_inb, zle_N, zlt_N, zN_le, zN_lt, zN_eq, Nz_eq, mI_t, mI_f, bI_0, bI_1, bI_t, bI_f, dltT, dltF, dleT, dleF, deqT, deqF, Nat.not_lt_zero, not_true_eq_false, not_false_eq_true, true_and, and_true, false_and, and_false, or_true, true_or, false_or, or_false, and_self, if_true, if_false, Classical.not_not, Nat.add_assoc, Nat.zero_add, Nat.add_zero, bI_or, bI_True, bI_False, Bool.false_eq_true, reduceCtorEq, eq_self, gi_si, gl_si, gr_si, hn_si, hL_si, hX_si, gi_sl, gl_sl, gr_sl, hn_sl, ob_si, ar_si, ob_sl, ar_sl, ks_260_0, ks_260_1, ks_260_2, ks_260_3, ks_260_4, oO, hN])
      exact hq
    · have hq := hQ h none (by rw [layT_0, if_neg hr0]) (fun T' e => by cases e) f
      rw [bI_f (by intro e; exact e rfl)] at hq
      (refine wp_go 600 ks_260_0.2.2.2.2.2.2.2.2.1 ?_; simp (disch := first | with_reducible assumption | omega | (simp only [ob_si, ar_si, ob_sl, ar_sl]; with_reducible assumption)) only [ci_0, ci_1, ci_6, cm_9, inc_i, ldA_a, ldI_i, r_0, r_11, r_14, r_15, r_19, r_2, r_20, r_3, r_30, r_31, r_32, r_36, r_43, r_44, r_46, r_6, r_60, r_62, r_71, r_81_2, r_9, r_91, wpn_S, wpn_zero, stp_h, lk_0, lk_s, st1_0, st1_1, st1_2, st2_0, st2_1, st2_2, kj_i, kj_a, kj_l, kj_n, cat_n, cat_i, cat_a, cat_u, cat_l, vc_i, vc_a, rv_s, tl_n, tl_s, Cal'_s, List.length_cons, List.length_nil, i0, i1, iNd, iN_lt, iN_le, iN_eq, iN_add, iN_mul, iN_mod, iN_sub, iN_div, iN_clamp, iN_inb, zle_N, zlt_N, zN_le, zN_lt, zN_eq, Nz_eq, mI_t, mI_f, bI_0, bI_1, bI_t, bI_f, dltT, dltF, dleT, dleF, deqT, deqF, Nat.not_lt_zero, not_true_eq_false, not_false_eq_true, true_and, and_true, false_and, and_false, or_true, true_or, false_or, or_false, and_self, if_true, if_false, Classical.not_not, Nat.add_assoc, Nat.zero_add, Nat.add_zero, bI_or, bI_True, bI_False, Bool.false_eq_true, reduceCtorEq, eq_self, gi_si, gl_si, gr_si, hn_si, hL_si, hX_si, gi_sl, gl_sl, gr_sl, hn_sl, ob_si, ar_si, ob_sl, ar_sl, ks_260_0, ks_260_1, ks_260_2, ks_260_3, ks_260_4, oO, hN])
      exact hq
  | k + 1, p, u, w, r, T, h0, h, w7, w8, Q, hp, hB, hN, hu, hwp, hw2, hr, hT, f, hQ => by
    have hw := pow_1 hwp
    have oO := (O_facts hB).1
    have a29 : gr h 87 29 = some 103 := hB.r (by decide)
    have r103 : ar h 1 103 := hB.ar (by decide) (by decide)
    have s103 : (SH 103).2 = 6 := by decide
    by_cases hb : u.testBit p = true
    · rw [layT_u hb] at hQ
      have := lay_w (c := c) (w0 := w0) hn k (h0 := h0) (w7 := w7) (w8 := w8) (T := T) (p := p + 1) (by omega) hB hN hu hwp hw2 hr (fun i hi e => hT i hi (e.elim (fun e => by
        by_cases e2 : i = p
        · exact Or.inr (by rw [e2]; exact hb)
        · exact Or.inl (by omega)) Or.inr)) f hQ
      (refine wp_go 600 ks_260_0.2.2.2.2.2.2.2.2.1 ?_; simp (disch := first | with_reducible assumption | omega | (simp only [ob_si, ar_si, ob_sl, ar_sl]; with_reducible assumption)) only [ci_0, ci_1, ci_6, cm_9, inc_i, ldA_a, ldI_i, r_0, r_11, r_14, r_15, r_19, r_2, r_20, r_3, r_30, r_31, r_32, r_36, r_43, r_44, r_46, r_6, r_60, r_62, r_71, r_81_2, r_9, r_91, wpn_S, wpn_zero, stp_h, lk_0, lk_s, st1_0, st1_1, st1_2, st2_0, st2_1, st2_2, kj_i, kj_a, kj_l, kj_n, cat_n, cat_i, cat_a, cat_u, cat_l, vc_i, vc_a, rv_s, tl_n, tl_s, Cal'_s, List.length_cons, List.length_nil, i0, i1, iNd, iN_lt, iN_le, iN_eq, iN_add, iN_mul, iN_mod, iN_sub, iN_div, iN_clamp, iN_inb, zle_N, zlt_N, zN_le, zN_lt, zN_eq, Nz_eq, mI_t, mI_f, bI_0, bI_1, bI_t, bI_f, dltT, dltF, dleT, dleF, deqT, deqF, Nat.not_lt_zero, not_true_eq_false, not_false_eq_true, true_and, and_true, false_and, and_false, or_true, true_or, false_or, or_false, and_self, if_true, if_false, Classical.not_not, Nat.add_assoc, Nat.zero_add, Nat.add_zero, bI_or, bI_True, bI_False, Bool.false_eq_true, reduceCtorEq, eq_self, gi_si, gl_si, gr_si, hn_si, hL_si, hX_si, gi_sl, gl_sl, gr_sl, hn_sl, ob_si, ar_si, ob_sl, ar_sl, ks_260_0, ks_260_1, ks_260_2, ks_260_3, ks_260_4, oO, hN, o_bit_q, hb])
      exact this
    · have hdiv : r / w < 1000000 := Nat.lt_of_le_of_lt (Nat.div_le_self r w) hr
      have hmod : r % w < 1000000 := Nat.lt_of_le_of_lt (Nat.mod_le r w) hr
      have hu1 : u ||| 2 ^ p < 64 := or_64 hu (by omega)
      have ed : iN r / iN w = iN (r / w) := iN_div (by omega) (by omega)
      have em : iN r - iN (r / w * w) = iN (r % w) := iN_mod r w
      have f1 : Fo S103 (fun _ => False) h0 (si h 103 p (zI (-9))) := f.sa (by unfold S103; omega) (by omega) _ _
      have B1 : Bs (si h 103 p (zI (-9))) := hB
      have N1 : gi (si h 103 p (zI (-9))) 87 0 = iN (xN x) := by rw [gi_si, up_f (by omega)]; exact hN
      have oO1 : ob (si h 103 p (zI (-9))) 87 12 := oO
      have a291 : gr (si h 103 p (zI (-9))) 87 29 = some 103 := a29
      have r1031 : ar (si h 103 p (zI (-9))) 1 103 := r103
      have hwd : (∃ m, wtD w = 6 ^ m) ∧ wtD w < 1000000 := ⟨wtD_p hwp, by unfold wtD; split <;> omega⟩
      have main : wp 1 260 83 [some (.ref 87), some (.int (iN c)), some (.int (iN w0)), some (.int (iN (u ||| 2 ^ p))), some (.int (iN (wtD w))), some (.int (iN (r % w))), some (.int (iN p)), some (.int (iN (r / w))), some (.int (iN p))] [] (si h 103 p (zI (-9))) Q := by
        refine lay_seek B1 N1 hn hu1 (xN x - p) (r / w) p (by omega) hdiv fun d' q' e1 e2 => ?_
        have hsb := seek_b (xN x) (u ||| 2 ^ p) (xN x - p) (r / w) p
        have hq2 : (seekN (xN x) (u ||| 2 ^ p) (xN x - p) (r / w) p).2 = q' := by rw [e1]
        rw [e1] at hsb
        simp only at hsb
        by_cases c1 : xN x ≤ q'
        · have hq := hQ (si h 103 p (zI (-9))) none (by rw [layT_n hb hq2 c1]) (fun T' e => by cases e) f1
          rw [bI_f (by intro e; exact e rfl)] at hq
          by_cases d0 : 0 < d'
          · (refine wp_go 600 ks_260_1.2.2.2.2.2.2.2.2.2.2.2.2.2.2.2.2.2.2.2.2.2.2.2 ?_; simp (disch := first | with_reducible assumption | omega | (simp only [ob_si, ar_si, ob_sl, ar_sl]; with_reducible assumption)) only [ci_0, ci_1, ci_6, cm_9, inc_i, ldA_a, ldI_i, r_0, r_11, r_14, r_15, r_19, r_2, r_20, r_3, r_30, r_31, r_32, r_36, r_43, r_44, r_46, r_6, r_60, r_62, r_71, r_81_2, r_9, r_91, wpn_S, wpn_zero, stp_h, lk_0, lk_s, st1_0, st1_1, st1_2, st2_0, st2_1, st2_2, kj_i, kj_a, kj_l, kj_n, cat_n, cat_i, cat_a, cat_u, cat_l, vc_i, vc_a, rv_s, tl_n, tl_s, Cal'_s, List.length_cons, List.length_nil, i0, i1, iNd, iN_lt, iN_le, iN_eq, iN_add, iN_mul, iN_mod, iN_sub, iN_div, iN_clamp, iN_inb, zle_N, zlt_N, zN_le, zN_lt, zN_eq, Nz_eq, mI_t, mI_f, bI_0, bI_1, bI_t, bI_f, dltT, dltF, dleT, dleF, deqT, deqF, Nat.not_lt_zero, not_true_eq_false, not_false_eq_true, true_and, and_true, false_and, and_false, or_true, true_or, false_or, or_false, and_self, if_true, if_false, Classical.not_not, Nat.add_assoc, Nat.zero_add, Nat.add_zero, bI_or, bI_True, bI_False, Bool.false_eq_true, reduceCtorEq, eq_self, gi_si, gl_si, gr_si, hn_si, hL_si, hX_si, gi_sl, gl_sl, gr_sl, hn_sl, ob_si, ar_si, ob_sl, ar_sl, ks_260_0, ks_260_1, ks_260_2, ks_260_3, ks_260_4, oO1, N1])
            exact hq
          · (refine wp_go 600 ks_260_1.2.2.2.2.2.2.2.2.2.2.2.2.2.2.2.2.2.2.2.2.2.2.2 ?_; simp (disch := first | with_reducible assumption | omega | (simp only [ob_si, ar_si, ob_sl, ar_sl]; with_reducible assumption)) only [ci_0, ci_1, ci_6, cm_9, inc_i, ldA_a, ldI_i, r_0, r_11, r_14, r_15, r_19, r_2, r_20, r_3, r_30, r_31, r_32, r_36, r_43, r_44, r_46, r_6, r_60, r_62, r_71, r_81_2, r_9, r_91, wpn_S, wpn_zero, stp_h, lk_0, lk_s, st1_0, st1_1, st1_2, st2_0, st2_1, st2_2, kj_i, kj_a, kj_l, kj_n, cat_n, cat_i, cat_a, cat_u, cat_l, vc_i, vc_a, rv_s, tl_n, tl_s, Cal'_s, List.length_cons, List.length_nil, i0, i1, iNd, iN_lt, iN_le, iN_eq, iN_add, iN_mul, iN_mod, iN_sub, iN_div, iN_clamp, iN_inb, zle_N, zlt_N, zN_le, zN_lt, zN_eq, Nz_eq, mI_t, mI_f, bI_0, bI_1, bI_t, bI_f, dltT, dltF, dleT, dleF, deqT, deqF, Nat.not_lt_zero, not_true_eq_false, not_false_eq_true, true_and, and_true, false_and, and_false, or_true, true_or, false_or, or_false, and_self, if_true, if_false, Classical.not_not, Nat.add_assoc, Nat.zero_add, Nat.add_zero, bI_or, bI_True, bI_False, Bool.false_eq_true, reduceCtorEq, eq_self, gi_si, gl_si, gr_si, hn_si, hL_si, hX_si, gi_sl, gl_sl, gr_sl, hn_sl, ob_si, ar_si, ob_sl, ar_sl, ks_260_0, ks_260_1, ks_260_2, ks_260_3, ks_260_4, oO1, N1])
            exact hq
        · have d0 : ¬ 0 < d' := fun e => e2 ⟨e, by omega⟩
          by_cases c2 : p < q'
          · rw [layT_2 hb hq2 c1 c2] at hQ
            have f2 : Fo S103 (fun _ => False) h0 (si (si (si h 103 p (zI (-9))) 103 p (iN q')) 103 q' (iN p)) := (f1.sa (by unfold S103; omega) (by omega) _ _).sa (by unfold S103; omega) (by omega) _ _
            have N2 : gi (si (si (si h 103 p (zI (-9))) 103 p (iN q')) 103 q' (iN p)) 87 0 = iN (xN x) := by rw [gi_si, up_f (by omega), gi_si, up_f (by omega)]; exact N1
            have := lay_w (c := c) (w0 := w0) hn k (h0 := h0) (w7 := some (.int (iN d'))) (w8 := some (.int (iN q'))) (p := p + 1) (by omega) (show Bs (si (si (si h 103 p (zI (-9))) 103 p (iN q')) 103 q' (iN p)) from hB) N2 (or_64 hu1 (show q' < 6 by omega)) hwd.1 hwd.2 hmod (fun i hi e => by
              rw [gi_si, up_s]
              by_cases i1 : i = q'
              · rw [up_t i1, up_t i1, mI_t (by omega)]
              · rw [up_f i1, up_f i1, gi_si, up_s]
                by_cases i2 : i = p
                · rw [up_t i2, up_t i2, mI_t (by omega)]
                · rw [up_f i2, up_f i2, up_f i2, gi_si, up_s, up_f i2]
                  refine hT i hi ?_
                  rcases e with e | e
                  · exact Or.inl (by omega)
                  · exact Or.inr ((or_bit e).elim (fun e => (or_bit e).elim id (fun e => absurd e i2)) (fun e => absurd e i1))) f2 hQ
            (refine wp_go 600 ks_260_1.2.2.2.2.2.2.2.2.2.2.2.2.2.2.2.2.2.2.2.2.2.2.2 ?_; simp (disch := first | with_reducible assumption | omega | (simp only [ob_si, ar_si, ob_sl, ar_sl]; with_reducible assumption)) only [ci_0, ci_1, ci_6, cm_9, inc_i, ldA_a, ldI_i, r_0, r_11, r_14, r_15, r_19, r_2, r_20, r_3, r_30, r_31, r_32, r_36, r_43, r_44, r_46, r_6, r_60, r_62, r_71, r_81_2, r_9, r_91, wpn_S, wpn_zero, stp_h, lk_0, lk_s, st1_0, st1_1, st1_2, st2_0, st2_1, st2_2, kj_i, kj_a, kj_l, kj_n, cat_n, cat_i, cat_a, cat_u, cat_l, vc_i, vc_a, rv_s, tl_n, tl_s, Cal'_s, List.length_cons, List.length_nil, i0, i1, iNd, iN_lt, iN_le, iN_eq, iN_add, iN_mul, iN_mod, iN_sub, iN_div, iN_clamp, iN_inb, zle_N, zlt_N, zN_le, zN_lt, zN_eq, Nz_eq, mI_t, mI_f, bI_0, bI_1, bI_t, bI_f, dltT, dltF, dleT, dleF, deqT, deqF, Nat.not_lt_zero, not_true_eq_false, not_false_eq_true, true_and, and_true, false_and, and_false, or_true, true_or, false_or, or_false, and_self, if_true, if_false, Classical.not_not, Nat.add_assoc, Nat.zero_add, Nat.add_zero, bI_or, bI_True, bI_False, Bool.false_eq_true, reduceCtorEq, eq_self, gi_si, gl_si, gr_si, hn_si, hL_si, hX_si, gi_sl, gl_sl, gr_sl, hn_sl, ob_si, ar_si, ob_sl, ar_sl, ks_260_0, ks_260_1, ks_260_2, ks_260_3, ks_260_4, oO1, N1, a291, r1031, s103, shl_eq, iN_or])
            exact this
          · rw [layT_1 hb hq2 c1 c2] at hQ
            have := lay_w (c := c) (w0 := w0) hn k (h0 := h0) (w7 := some (.int (iN d'))) (w8 := some (.int (iN q'))) (p := p + 1) (by omega) B1 N1 hu1 hwd.1 hwd.2 hmod (fun i hi e => by
              rw [gi_si, up_s]
              by_cases i2 : i = p
              · rw [up_t i2, up_t i2]; rfl
              · rw [up_f i2, up_f i2]
                refine hT i hi ?_
                rcases e with e | e
                · exact Or.inl (by omega)
                · exact Or.inr ((or_bit e).elim id (fun e => absurd e i2))) f1 hQ
            (refine wp_go 600 ks_260_1.2.2.2.2.2.2.2.2.2.2.2.2.2.2.2.2.2.2.2.2.2.2.2 ?_; simp (disch := first | with_reducible assumption | omega | (simp only [ob_si, ar_si, ob_sl, ar_sl]; with_reducible assumption)) only [ci_0, ci_1, ci_6, cm_9, inc_i, ldA_a, ldI_i, r_0, r_11, r_14, r_15, r_19, r_2, r_20, r_3, r_30, r_31, r_32, r_36, r_43, r_44, r_46, r_6, r_60, r_62, r_71, r_81_2, r_9, r_91, wpn_S, wpn_zero, stp_h, lk_0, lk_s, st1_0, st1_1, st1_2, st2_0, st2_1, st2_2, kj_i, kj_a, kj_l, kj_n, cat_n, cat_i, cat_a, cat_u, cat_l, vc_i, vc_a, rv_s, tl_n, tl_s, Cal'_s, List.length_cons, List.length_nil, i0, i1, iNd, iN_lt, iN_le, iN_eq, iN_add, iN_mul, iN_mod, iN_sub, iN_div, iN_clamp, iN_inb, zle_N, zlt_N, zN_le, zN_lt, zN_eq, Nz_eq, mI_t, mI_f, bI_0, bI_1, bI_t, bI_f, dltT, dltF, dleT, dleF, deqT, deqF, Nat.not_lt_zero, not_true_eq_false, not_false_eq_true, true_and, and_true, false_and, and_false, or_true, true_or, false_or, or_false, and_self, if_true, if_false, Classical.not_not, Nat.add_assoc, Nat.zero_add, Nat.add_zero, bI_or, bI_True, bI_False, Bool.false_eq_true, reduceCtorEq, eq_self, gi_si, gl_si, gr_si, hn_si, hL_si, hX_si, gi_sl, gl_sl, gr_sl, hn_sl, ob_si, ar_si, ob_sl, ar_sl, ks_260_0, ks_260_1, ks_260_2, ks_260_3, ks_260_4, oO1, N1, a291, r1031, s103, shl_eq, iN_or])
            exact this
      unfold wtD at main
      by_cases cw1 : 1 < w
      · rw [if_pos cw1] at main
        (refine wp_go 600 ks_260_0.2.2.2.2.2.2.2.2.1 ?_; simp (disch := first | with_reducible assumption | omega | (simp only [ob_si, ar_si, ob_sl, ar_sl]; with_reducible assumption)) only [ci_0, ci_1, ci_6, cm_9, inc_i, ldA_a, ldI_i, r_0, r_11, r_14, r_15, r_19, r_2, r_20, r_3, r_30, r_31, r_32, r_36, r_43, r_44, r_46, r_6, r_60, r_62, r_71, r_81_2, r_9, r_91, wpn_S, wpn_zero, stp_h, lk_0, lk_s, st1_0, st1_1, st1_2, st2_0, st2_1, st2_2, kj_i, kj_a, kj_l, kj_n, cat_n, cat_i, cat_a, cat_u, cat_l, vc_i, vc_a, rv_s, tl_n, tl_s, Cal'_s, List.length_cons, List.length_nil, i0, i1, iNd, iN_lt, iN_le, iN_eq, iN_add, iN_mul, iN_mod, iN_div, iN_clamp, iN_inb, zle_N, zlt_N, zN_le, zN_lt, zN_eq, Nz_eq, mI_t, mI_f, bI_0, bI_1, bI_t, bI_f, dltT, dltF, dleT, dleF, deqT, deqF, Nat.not_lt_zero, not_true_eq_false, not_false_eq_true, true_and, and_true, false_and, and_false, or_true, true_or, false_or, or_false, and_self, if_true, if_false, Classical.not_not, Nat.add_assoc, Nat.zero_add, Nat.add_zero, bI_or, bI_True, bI_False, Bool.false_eq_true, reduceCtorEq, eq_self, gi_si, gl_si, gr_si, hn_si, hL_si, hX_si, gi_sl, gl_sl, gr_sl, hn_sl, ob_si, ar_si, ob_sl, ar_sl, ks_260_0, ks_260_1, ks_260_2, ks_260_3, ks_260_4, oO, hN, o_bit_q, hb, ed, em, a29, r103, s103, shl_eq, iN_or])
        exact main
      · rw [if_neg cw1] at main
        (refine wp_go 600 ks_260_0.2.2.2.2.2.2.2.2.1 ?_; simp (disch := first | with_reducible assumption | omega | (simp only [ob_si, ar_si, ob_sl, ar_sl]; with_reducible assumption)) only [ci_0, ci_1, ci_6, cm_9, inc_i, ldA_a, ldI_i, r_0, r_11, r_14, r_15, r_19, r_2, r_20, r_3, r_30, r_31, r_32, r_36, r_43, r_44, r_46, r_6, r_60, r_62, r_71, r_81_2, r_9, r_91, wpn_S, wpn_zero, stp_h, lk_0, lk_s, st1_0, st1_1, st1_2, st2_0, st2_1, st2_2, kj_i, kj_a, kj_l, kj_n, cat_n, cat_i, cat_a, cat_u, cat_l, vc_i, vc_a, rv_s, tl_n, tl_s, Cal'_s, List.length_cons, List.length_nil, i0, i1, iNd, iN_lt, iN_le, iN_eq, iN_add, iN_mul, iN_mod, iN_div, iN_clamp, iN_inb, zle_N, zlt_N, zN_le, zN_lt, zN_eq, Nz_eq, mI_t, mI_f, bI_0, bI_1, bI_t, bI_f, dltT, dltF, dleT, dleF, deqT, deqF, Nat.not_lt_zero, not_true_eq_false, not_false_eq_true, true_and, and_true, false_and, and_false, or_true, true_or, false_or, or_false, and_self, if_true, if_false, Classical.not_not, Nat.add_assoc, Nat.zero_add, Nat.add_zero, bI_or, bI_True, bI_False, Bool.false_eq_true, reduceCtorEq, eq_self, gi_si, gl_si, gr_si, hn_si, hL_si, hX_si, gi_sl, gl_sl, gr_sl, hn_sl, ob_si, ar_si, ob_sl, ar_sl, ks_260_0, ks_260_1, ks_260_2, ks_260_3, ks_260_4, oO, hN, o_bit_q, hb, ed, em, a29, r103, s103, shl_eq, iN_or])
        exact main
theorem o_lay {h : Hp} {c w0 : Nat} {x : Mt} (hB : Bs h) (hN : gi h 87 0 = iN (xN x)) (hn : xN x ≤ 6) (hw : ∃ m, w0 = 6 ^ m) (hw2 : w0 < 1000000) (hc : c < 1000000) (T : Nat → Nat) : ∃ h', Ret 1 260 [.ref 87, .int (iN c), .int (iN w0)] h (some (.int (bI (layT (xN x) (xN x) 0 0 w0 c T ≠ none)))) h' ∧ (∀ T', layT (xN x) (xN x) 0 0 w0 c T = some T' → ∀ i, i < xN x → gi h' 103 i = mI (T' i)) ∧ Fo S103 (fun _ => False) h h' := by
  have key : ∀ Q : Option Value → Hp → Prop, (∀ h', (∀ T', layT (xN x) (xN x) 0 0 w0 c T = some T' → ∀ i, i < xN x → gi h' 103 i = mI (T' i)) → Fo S103 (fun _ => False) h h' → Q (some (.int (bI (layT (xN x) (xN x) 0 0 w0 c T ≠ none)))) h') → wp 1 260 0 [some (.ref 87), some (.int (iN c)), some (.int (iN w0)), none, none, none, none, none, none] [] h Q := by
    intro Q hQ
    have := lay_w (c := c) (w0 := w0) hn (xN x) (p := 0) (u := 0) (w := w0) (r := c) (T := T) (h0 := h) (h := h) (w7 := none) (w8 := none) (Q := Q) (by omega) hB hN (by omega) hw hw2 hc (fun i hi e => by
      rcases e with e | e
      · omega
      · rw [Nat.zero_testBit] at e; cases e) (Fo.rf _ _ h) (fun h' o e1 e2 e3 => by subst e1; exact hQ h' e2 e3)
    (refine wp_go 600 ks_260_0.1 ?_; simp (disch := first | with_reducible assumption | omega | (simp only [ob_si, ar_si, ob_sl, ar_sl]; with_reducible assumption)) only [ci_0, ci_1, ci_6, cm_9, inc_i, ldA_a, ldI_i, r_0, r_11, r_14, r_15, r_19, r_2, r_20, r_3, r_30, r_31, r_32, r_36, r_43, r_44, r_46, r_6, r_60, r_62, r_71, r_81_2, r_9, r_91, wpn_S, wpn_zero, stp_h, lk_0, lk_s, st1_0, st1_1, st1_2, st2_0, st2_1, st2_2, kj_i, kj_a, kj_l, kj_n, cat_n, cat_i, cat_a, cat_u, cat_l, vc_i, vc_a, rv_s, tl_n, tl_s, Cal'_s, List.length_cons, List.length_nil, i0, i1, iNd, iN_lt, iN_le, iN_eq, iN_add, iN_mul, iN_mod, iN_sub, iN_div, iN_clamp, iN_inb, zle_N, zlt_N, zN_le, zN_lt, zN_eq, Nz_eq, mI_t, mI_f, bI_0, bI_1, bI_t, bI_f, dltT, dltF, dleT, dleF, deqT, deqF, Nat.not_lt_zero, not_true_eq_false, not_false_eq_true, true_and, and_true, false_and, and_false, or_true, true_or, false_or, or_false, and_self, if_true, if_false, Classical.not_not, Nat.add_assoc, Nat.zero_add, Nat.add_zero, bI_or, bI_True, bI_False, Bool.false_eq_true, reduceCtorEq, eq_self, gi_si, gl_si, gr_si, hn_si, hL_si, hX_si, gi_sl, gl_sl, gr_sl, hn_sl, ob_si, ar_si, ob_sl, ar_sl, ks_260_0, ks_260_1, ks_260_2, ks_260_3, ks_260_4])
    exact this
  obtain ⟨v, h', r, rfl, a, b⟩ := Ret_ex (d := 1) (y := 260) (as := [.ref 87, .int (iN c), .int (iN w0)]) [some (.ref 87), some (.int (iN c)), some (.int (iN w0)), none, none, none, none, none, none] rfl rfl (key (fun v h' => v = some (.int (bI (layT (xN x) (xN x) 0 0 w0 c T ≠ none))) ∧ (∀ T', layT (xN x) (xN x) 0 0 w0 c T = some T' → ∀ i, i < xN x → gi h' 103 i = mI (T' i)) ∧ Fo S103 (fun _ => False) h h') fun h' a b => ⟨rfl, a, b⟩)
  exact ⟨h', r, a, b⟩
/-! the codes that spell one, in order, are the ways -/
noncomputable def cod (g : Nat → Option (List Nat)) (i k : Nat) (L : List (List Nat)) : List (List Nat) := itr (fun c L => match g c with | some l => L ++ [l] | none => L) i k L
theorem cod_0 (g : Nat → Option (List Nat)) (i : Nat) (L : List (List Nat)) : cod g i 0 L = L := rfl
theorem cod_n {g : Nat → Option (List Nat)} {i : Nat} (h : g i = none) (k : Nat) (L : List (List Nat)) : cod g i (k + 1) L = cod g (i + 1) k L := by unfold cod; rw [itr_s, h]
theorem cod_r {g : Nat → Option (List Nat)} {i : Nat} {l : List Nat} (h : g i = some l) (k : Nat) (L : List (List Nat)) : cod g i (k + 1) L = cod g (i + 1) k (L ++ [l]) := by unfold cod; rw [itr_s, h]
theorem cod_add (g : Nat → Option (List Nat)) : ∀ (a b i : Nat) (L : List (List Nat)), cod g i (a + b) L = cod g (i + a) b (cod g i a L)
  | 0, b, i, L => by rw [Nat.zero_add, Nat.add_zero, cod_0]
  | a + 1, b, i, L => by
    rw [show a + 1 + b = a + b + 1 by omega]
    cases h : g i with
    | none => rw [cod_n h, cod_n h, cod_add g a b (i + 1) L, show i + 1 + a = i + (a + 1) by omega]
    | some l => rw [cod_r h, cod_r h, cod_add g a b (i + 1) _, show i + 1 + a = i + (a + 1) by omega]
theorem cod_cg {g g' : Nat → Option (List Nat)} {i i' : Nat} : ∀ (k : Nat) (L : List (List Nat)), (∀ r, r < k → g (i + r) = g' (i' + r)) → cod g i k L = cod g' i' k L
  | 0, L, _ => rfl
  | k + 1, L, h => by
    have h0 := h k (by omega)
    rw [cod_add g k 1 i L, cod_add g' k 1 i' L, cod_cg k L (fun r hr => h r (by omega))]
    cases e : g' (i' + k) with
    | none => rw [cod_n e, cod_n (by rw [h0]; exact e)]; rfl
    | some l => rw [cod_r e, cod_r (by rw [h0]; exact e)]; rfl
theorem cod_z {g : Nat → Option (List Nat)} : ∀ (k i : Nat) (L : List (List Nat)), (∀ r, r < k → g (i + r) = none) → cod g i k L = L
  | 0, i, L, _ => rfl
  | k + 1, i, L, h => by rw [cod_n (show g i = none from h 0 (by omega))]; exact cod_z k (i + 1) L fun r hr => by rw [show i + 1 + r = i + (r + 1) by omega]; exact h (r + 1) (by omega)
theorem cod_le (g : Nat → Option (List Nat)) : ∀ (k i : Nat) (L : List (List Nat)), L.length ≤ (cod g i k L).length
  | 0, i, L => Nat.le_refl _
  | k + 1, i, L => by
    cases h : g i with
    | none => rw [cod_n h]; exact cod_le g k (i + 1) L
    | some l => rw [cod_r h]; have := cod_le g k (i + 1) (L ++ [l]); rw [List.length_append] at this; omega
/-- what a digit chooses, block by block -/
noncomputable def blk (X : Nat → List (List Nat) → List (List Nat)) (n u q d : Nat) (L : List (List Nat)) : List (List Nat) := if n ≤ (seekN n u (n - q) d q).2 then L else X (seekN n u (n - q) d q).2 L
noncomputable def chs (X : Nat → List (List Nat) → List (List Nat)) (u : Nat) (o : Nat) (L : List (List Nat)) : List (List Nat) := if u.testBit o = true then L else X o L
theorem itr_id {α : Type} {f : Nat → α → α} : ∀ (k i : Nat) (a : α), (∀ j, i ≤ j → j < i + k → ∀ a, f j a = a) → itr f i k a = a
  | 0, i, a, _ => rfl
  | k + 1, i, a, h => by rw [itr_s, h i (by omega) (by omega) a]; exact itr_id k (i + 1) a fun j h1 h2 => h j (by omega) (by omega)
theorem itr_cg2 {α : Type} {f g : Nat → α → α} {i i' : Nat} : ∀ (k : Nat) (a : α), (∀ j, j < k → ∀ a, f (i + j) a = g (i' + j) a) → itr f i k a = itr g i' k a
  | 0, a, _ => rfl
  | k + 1, a, h => by rw [itr_last, itr_last, itr_cg2 k a (fun j hj => h j (by omega)), h k (by omega)]
theorem seek_n {n u : Nat} : ∀ d q, q + 1 = n → ¬ d = 0 → (seekN n u (n - q) d q).2 = n := by
  intro d q hq hd
  rw [show n - q = 0 + 1 by omega, seek_s hd]
  show q + 1 = n
  exact hq
theorem blk_chs (X : Nat → List (List Nat) → List (List Nat)) (n u : Nat) : ∀ (j q D : Nat) (L : List (List Nat)), q + 1 + j = n → j ≤ D → itr (blk X n u q) 1 D L = itr (chs X u) (q + 1) j L
  | 0, q, D, L, hq, _ => by
    rw [itr_0]
    refine itr_id D 1 L fun d h1 _ L => ?_
    unfold blk
    rw [if_pos (by rw [seek_n d q (by omega) (by omega)]; omega)]
  | j + 1, q, D, L, hq, hD => by
    rw [itr_s]
    have hf : n - q = (n - (q + 1)) + 1 := by omega
    by_cases hb : u.testBit (q + 1) = true
    · rw [show chs X u (q + 1) L = L from if_pos hb, ← blk_chs X n u j (q + 1) D L (by omega) (by omega)]
      refine itr_cg2 D L fun d _ L => ?_
      have e : seekN n u (n - q) (1 + d) q = seekN n u (n - (q + 1)) (1 + d) (q + 1) := by rw [hf, seek_s (by omega), if_neg (fun e => e.2 hb)]
      unfold blk
      rw [e]
    · rw [show chs X u (q + 1) L = X (q + 1) L from if_neg hb]
      obtain ⟨D, rfl⟩ : ∃ D', D = D' + 1 := ⟨D - 1, by omega⟩
      have h1 : blk X n u q 1 L = X (q + 1) L := by
        have e : seekN n u (n - q) 1 q = (0, q + 1) := by
          rw [hf, seek_s (by omega), if_pos ⟨by omega, hb⟩]
          exact seek_0 n u _ _
        unfold blk
        rw [e, if_neg (by show ¬ n ≤ q + 1; omega)]
      rw [itr_s, h1, ← blk_chs X n u j (q + 1) D (X (q + 1) L) (by omega) (by omega)]
      refine itr_cg2 D _ fun d _ L => ?_
      have e : seekN n u (n - q) (1 + 1 + d) q = seekN n u (n - (q + 1)) (1 + d) (q + 1) := by rw [hf, seek_s (by omega), if_pos ⟨by omega, hb⟩, show 1 + 1 + d - 1 = 1 + d by omega]
      unfold blk
      rw [e]
/-- the ways, one behind the other, put so far u and T -/
noncomputable def putL (n : Nat) : Nat → Nat → Nat → (Nat → Nat) → List (List Nat) → List (List Nat)
  | 0, _, _, T, L => L ++ [(List.range n).map T]
  | k + 1, p, u, T, L => if u.testBit p = true then putL n k (p + 1) u T L else
    itr (chs (fun o L => putL n k (p + 1) ((u ||| 2 ^ p) ||| 2 ^ o) (up (up (up T p 6) p o) o p) L) (u ||| 2 ^ p)) (p + 1) k (putL n k (p + 1) (u ||| 2 ^ p) (up T p 6) L)
noncomputable def layL (n k p u w r : Nat) (T : Nat → Nat) : Option (List Nat) := match layT n k p u w r T with | some T' => some ((List.range n).map T') | none => none
theorem cod_6 (g : Nat → Option (List Nat)) (w : Nat) (L : List (List Nat)) : cod g 0 (6 * w) L = itr (fun d L => cod g (d * w) w L) 0 6 L := by
  rw [show 6 * w = w + (w + (w + (w + (w + w)))) by omega, cod_add, cod_add, cod_add, cod_add, cod_add, itr_s, itr_s, itr_s, itr_s, itr_s, itr_s, itr_0]
  rw [show 0 + w = (0 + 1) * w by omega, show (0 + 1) * w + w = (0 + 1 + 1) * w by omega, show (0 + 1 + 1) * w + w = (0 + 1 + 1 + 1) * w by omega, show (0 + 1 + 1 + 1) * w + w = (0 + 1 + 1 + 1 + 1) * w by omega, show (0 + 1 + 1 + 1 + 1) * w + w = (0 + 1 + 1 + 1 + 1 + 1) * w by omega, Nat.zero_mul]
theorem lay_put (n : Nat) (hn : n ≤ 6) : ∀ (k m p u : Nat) (T : Nat → Nat) (L : List (List Nat)), p + k = n → k ≤ m → cod (fun r => layL n k p u (if m = 0 then 1 else 6 ^ (m - 1)) r T) 0 (6 ^ m) L = putL n k p u T L
  | 0, m, p, u, T, L, hp, hm => by
    have h0 : layL n 0 p u (if m = 0 then 1 else 6 ^ (m - 1)) 0 T = some ((List.range n).map T) := rfl
    have hpos : 0 < 6 ^ m := Nat.pow_pos (by omega)
    rw [show 6 ^ m = (6 ^ m - 1) + 1 by omega, cod_r h0]
    show cod _ (0 + 1) (6 ^ m - 1) _ = L ++ [(List.range n).map T]
    refine cod_z _ _ _ fun r _ => ?_
    unfold layL
    rw [layT_0, if_neg (by omega)]
  | k + 1, m, p, u, T, L, hp, hm => by
    by_cases hb : u.testBit p = true
    · rw [show putL n (k + 1) p u T L = putL n k (p + 1) u T L from if_pos hb, ← lay_put n hn k m (p + 1) u T L (by omega) (by omega)]
      refine cod_cg _ _ fun r _ => ?_
      unfold layL
      rw [layT_u hb]
    · obtain ⟨m, rfl⟩ : ∃ m', m = m' + 1 := ⟨m - 1, by omega⟩
      rw [if_neg (by omega), show m + 1 - 1 = m by omega]
      obtain ⟨w, hw⟩ : ∃ w, w = 6 ^ m := ⟨_, rfl⟩
      have hw0 : 0 < w := by rw [hw]; exact Nat.pow_pos (by omega)
      have hwd : wtD w = if m = 0 then 1 else 6 ^ (m - 1) := by
        unfold wtD
        by_cases h0 : m = 0
        · rw [if_pos h0, if_neg (by rw [hw, h0]; omega)]
        · obtain ⟨m2, rfl⟩ : ∃ m2, m = m2 + 1 := ⟨m - 1, by omega⟩
          have h6 : 0 < 6 ^ m2 := Nat.pow_pos (by omega)
          rw [if_neg h0, hw, Nat.pow_succ, if_pos (by omega), show m2 + 1 - 1 = m2 by omega]
          omega
      rw [← hw, Nat.pow_succ, ← hw, Nat.mul_comm w 6, cod_6]
      rw [show putL n (k + 1) p u T L = itr (chs (fun o L => putL n k (p + 1) ((u ||| 2 ^ p) ||| 2 ^ o) (up (up (up T p 6) p o) o p) L) (u ||| 2 ^ p)) (p + 1) k (putL n k (p + 1) (u ||| 2 ^ p) (up T p 6) L) from if_neg hb]
      rw [← blk_chs (fun o L => putL n k (p + 1) ((u ||| 2 ^ p) ||| 2 ^ o) (up (up (up T p 6) p o) o p) L) n (u ||| 2 ^ p) k p 5 _ (by omega) (by omega)]
      have hdr : ∀ d r, r < w → (d * w + r) / w = d ∧ (d * w + r) % w = r := by
        intro d r hr
        rw [Nat.mul_comm d w, Nat.mul_add_div hw0, Nat.div_eq_of_lt hr, Nat.mul_add_mod, Nat.mod_eq_of_lt hr]
        exact ⟨rfl, rfl⟩
      have hs0 : (seekN n (u ||| 2 ^ p) (n - p) 0 p).2 = p := by rw [seek_0]
      rw [itr_s]
      have e0 : cod (fun r => layL n (k + 1) p u w r T) (0 * w) w L = putL n k (p + 1) (u ||| 2 ^ p) (up T p 6) L := by
        rw [← lay_put n hn k m (p + 1) (u ||| 2 ^ p) (up T p 6) L (by omega) (by omega), ← hw, ← hwd]
        refine cod_cg _ _ fun r hr => ?_
        obtain ⟨e1, e2⟩ := hdr 0 r hr
        unfold layL
        rw [layT_1 (q := p) hb (by rw [e1]; exact hs0) (by omega) (by omega), e2, Nat.zero_add]
      rw [e0]
      refine itr_cg2 5 _ fun d _ L => ?_
      show cod (fun r => layL n (k + 1) p u w r T) ((0 + 1 + d) * w) w L = blk _ n (u ||| 2 ^ p) p (1 + d) L
      rw [show 0 + 1 + d = 1 + d by omega]
      obtain ⟨q, hq⟩ : ∃ q, (seekN n (u ||| 2 ^ p) (n - p) (1 + d) p).2 = q := ⟨_, rfl⟩
      unfold blk
      rw [hq]
      by_cases c1 : n ≤ q
      · rw [if_pos c1]
        refine cod_z _ _ _ fun r hr => ?_
        obtain ⟨e1, e2⟩ := hdr (1 + d) r hr
        unfold layL
        rw [layT_n hb (by rw [e1]; exact hq) c1]
      · rw [if_neg c1]
        have hpq : p < q := by
          have h1 : n - p = (n - p - 1) + 1 := by omega
          rw [h1, seek_s (by omega)] at hq
          have := (seek_b n (u ||| 2 ^ p) (n - p - 1) (if p + 1 < n ∧ ¬ (u ||| 2 ^ p).testBit (p + 1) = true then 1 + d - 1 else 1 + d) (p + 1)).1
          omega
        show _ = putL n k (p + 1) ((u ||| 2 ^ p) ||| 2 ^ q) (up (up (up T p 6) p q) q p) L
        rw [← lay_put n hn k m (p + 1) ((u ||| 2 ^ p) ||| 2 ^ q) (up (up (up T p 6) p q) q p) L (by omega) (by omega), ← hw, ← hwd]
        refine cod_cg _ _ fun r hr => ?_
        obtain ⟨e1, e2⟩ := hdr (1 + d) r hr
        unfold layL
        rw [layT_2 hb (by rw [e1]; exact hq) c1 hpq, e2, Nat.zero_add]
theorem put_dec : ∀ n < 7, putL n n 0 0 (fun _ => 0) [] = wyL n := by decide +kernel
theorem lay_ways {n : Nat} (hn : n ≤ 6) : cod (fun r => layL n n 0 0 (if n = 0 then 1 else 6 ^ (n - 1)) r (fun _ => 0)) 0 (6 ^ n) [] = wyL n := by
  rw [lay_put n hn n n 0 0 (fun _ => 0) [] (by omega) (Nat.le_refl _)]; exact put_dec n (by omega)
