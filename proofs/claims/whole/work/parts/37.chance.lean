/-! the lowest terms -/
noncomputable def euS (a : Nat × Nat) : Nat × Nat := if a.2 = 0 then a else (a.2, a.1 % a.2)
noncomputable def gcdN (a b : Nat) : Nat := (rp euS 100 (a, b)).1
theorem euS_0 {a : Nat × Nat} (h : a.2 = 0) : euS a = a := if_pos h
theorem euS_s {a : Nat × Nat} (h : ¬ a.2 = 0) : euS a = (a.2, a.1 % a.2) := if_neg h
theorem rp_ss {α : Type} (f : α → α) (m : Nat) (z : α) : rp f (m + 1 + 1) z = rp f m (f (f z)) := by rw [rp_f f m (f z), rp_f f m z]; rfl
theorem eu_stop : ∀ (k : Nat) (a b : Nat), b < 2 ^ k → (rp euS (2 * k + 1) (a, b)).2 = 0
  | 0, a, b, h => by
    have : b = 0 := by simpa using h
    subst this
    rfl
  | k + 1, a, b, h => by
    by_cases hb : b = 0
    · rw [rp_fix (euS_0 (by exact hb))]; exact hb
    · rw [show 2 * (k + 1) + 1 = (2 * k + 1) + 1 + 1 by omega, rp_ss, euS_s (show ¬ (a, b).2 = 0 from hb)]
      show (rp euS (2 * k + 1) (euS (b, a % b))).2 = 0
      have hlt : a % b < b := Nat.mod_lt _ (by omega)
      by_cases hr : a % b = 0
      · rw [euS_0 (show (b, a % b).2 = 0 from hr), rp_fix (euS_0 (show (b, a % b).2 = 0 from hr))]; exact hr
      · rw [euS_s (show ¬ (b, a % b).2 = 0 from hr)]
        refine eu_stop k (a % b) (b % (a % b)) ?_
        have h1 : b % (a % b) < a % b := Nat.mod_lt _ (by omega)
        have h2 : b % (a % b) ≤ b - a % b := by rw [Nat.mod_eq_sub_mod (by omega)]; exact Nat.mod_le _ _
        rw [Nat.pow_succ] at h
        omega
theorem eu_0 {a b : Nat} (hb : b < 2 ^ 45) : (rp euS 100 (a, b)).2 = 0 := by
  have h := eu_stop 45 a b hb
  rw [show 100 = (2 * 45 + 1) + 9 by omega, rp_add, rp_fix (euS_0 h)]
  exact h
theorem eu_pos {a b : Nat} (ha : ¬ a = 0) (hb : b < 2 ^ 45) : ¬ gcdN a b = 0 := by
  have h : ∀ k, ¬ (rp euS k (a, b)).1 = 0 ∨ ¬ (rp euS k (a, b)).2 = 0 := by
    intro k
    refine rp_inv (P := fun z : Nat × Nat => ¬ z.1 = 0 ∨ ¬ z.2 = 0) (fun z hz => ?_) k (a, b) (Or.inl ha)
    by_cases e : z.2 = 0
    · rw [euS_0 e]; exact hz
    · rw [euS_s e]; exact Or.inl e
  exact (h 100).resolve_right (fun e => e (eu_0 hb))
theorem eu_lt {a b M : Nat} (ha : a < M) (hb : b < M) (k : Nat) : (rp euS k (a, b)).1 < M ∧ (rp euS k (a, b)).2 < M := by
  refine rp_inv (P := fun z : Nat × Nat => z.1 < M ∧ z.2 < M) (fun z hz => ?_) k (a, b) ⟨ha, hb⟩
  by_cases e : z.2 = 0
  · rw [euS_0 e]; exact hz
  · rw [euS_s e]; exact ⟨hz.2, Nat.lt_trans (Nat.mod_lt _ (by omega)) hz.2⟩
theorem eu_at {a b k : Nat} (hk : k ≤ 100) (h : (rp euS k (a, b)).2 = 0) : (rp euS k (a, b)).1 = gcdN a b := by
  unfold gcdN
  rw [show 100 = k + (100 - k) by omega, rp_add, rp_fix (euS_0 h)]
theorem jN_mod2 {a b : Nat} : jN a - jN (a / b) * jN b = jN (a % b) := by rw [jN_mul]; exact jN_mod a b
theorem g_div {h : Hp} {a b : Nat} (ha : a < 4611686018427387904) (hb : b < 35184372088832) : Ret 0 198 [.long (jN a), .long (jN b)] h (some (.long (jN (gcdN a b)))) (h) := by
  refine Ret_L [some (.long (jN a)), none, some (.long (jN b)), none, none, none, none, none, none, none, none] rfl rfl fun Q hQ => ?_
  (refine wp_go 600 ks_198_0.1 ?_; simp (disch := first | assumption | (simp only [ob_si, ar_si, ob_sl, ar_sl]; assumption) | omega) only [ci_0, ci_1, ci_100, cl_0, iN_l, inc_i, jN_add, jN_div, jN_eq, jN_le, jN_lt, jN_mod, jN_mul, jN_sub, l0, lc_eq, lc_ge, lc_gt, lc_le, lc_lt, ldI_i, ldL_l, r_0, r_1, r_25, r_26, r_3, r_30, r_31, r_4, r_44, r_6, r_7, r_9, r_92, wpn_S, wpn_zero, stp_h, lk_0, lk_s, st1_0, st1_1, st1_2, st2_0, st2_1, st2_2, kj_i, kj_a, kj_l, kj_n, cat_n, cat_i, cat_a, cat_u, cat_l, vc_i, vc_a, rv_s, tl_n, tl_s, Cal'_s, List.length_cons, List.length_nil, i0, i1, iNd, iN_lt, iN_le, iN_eq, iN_add, iN_mul, iN_mod, iN_sub, iN_div, iN_clamp, iN_inb, zle_N, zlt_N, zN_le, zN_lt, zN_eq, Nz_eq, mI_t, mI_f, bI_0, bI_1, bI_t, bI_f, dltT, dltF, dleT, dleF, deqT, deqF, Nat.not_lt_zero, not_true_eq_false, not_false_eq_true, true_and, and_true, false_and, and_false, or_true, true_or, false_or, or_false, and_self, if_true, if_false, Classical.not_not, Nat.add_assoc, Nat.zero_add, Nat.add_zero, bI_or, bI_True, bI_False, Bool.false_eq_true, reduceCtorEq, eq_self, gi_si, gl_si, gr_si, hn_si, hL_si, hX_si, gi_sl, gl_sl, gr_sl, hn_sl, ob_si, ar_si, ob_sl, ar_sl, ks_198_0, ks_198_1])
  refine wp_loop (fun k L h' => h' = h ∧ ∃ w1 w2, L = [some (.long (jN a)), none, some (.long (jN b)), none, some (.long (jN (rp euS k (a, b)).1)), none, some (.long (jN (rp euS k (a, b)).2)), none, some (.int (iN k)), w1, w2]) 100 ?_ ?_ 100 0 _ h (by omega) ⟨rfl, none, none, rfl⟩
  · rintro k L h' hk ⟨rfl, w1, w2, rfl⟩ hn
    have hb := eu_lt (a := a) (b := b) (M := 4611686018427387904) ha (by omega) k
    by_cases e : (rp euS k (a, b)).2 = 0
    · rw [← eu_at (Nat.le_of_lt hk) e] at hQ
      (refine wp_go 600 ks_198_0.2.2.2.2.2.2.1 ?_; simp (disch := first | assumption | (simp only [ob_si, ar_si, ob_sl, ar_sl]; assumption) | omega) only [ci_0, ci_1, ci_100, cl_0, iN_l, inc_i, jN_add, jN_div, jN_eq, jN_le, jN_lt, jN_mod, jN_mul, jN_sub, l0, lc_eq, lc_ge, lc_gt, lc_le, lc_lt, ldI_i, ldL_l, r_0, r_1, r_25, r_26, r_3, r_30, r_31, r_4, r_44, r_6, r_7, r_9, r_92, wpn_S, wpn_zero, stp_h, lk_0, lk_s, st1_0, st1_1, st1_2, st2_0, st2_1, st2_2, kj_i, kj_a, kj_l, kj_n, cat_n, cat_i, cat_a, cat_u, cat_l, vc_i, vc_a, rv_s, tl_n, tl_s, Cal'_s, List.length_cons, List.length_nil, i0, i1, iNd, iN_lt, iN_le, iN_eq, iN_add, iN_mul, iN_mod, iN_sub, iN_div, iN_clamp, iN_inb, zle_N, zlt_N, zN_le, zN_lt, zN_eq, Nz_eq, mI_t, mI_f, bI_0, bI_1, bI_t, bI_f, dltT, dltF, dleT, dleF, deqT, deqF, Nat.not_lt_zero, not_true_eq_false, not_false_eq_true, true_and, and_true, false_and, and_false, or_true, true_or, false_or, or_false, and_self, if_true, if_false, Classical.not_not, Nat.add_assoc, Nat.zero_add, Nat.add_zero, bI_or, bI_True, bI_False, Bool.false_eq_true, reduceCtorEq, eq_self, gi_si, gl_si, gr_si, hn_si, hL_si, hX_si, gi_sl, gl_sl, gr_sl, hn_sl, ob_si, ar_si, ob_sl, ar_sl, ks_198_0, ks_198_1, e])
      exact hQ
    · have hs : rp euS (k + 1) (a, b) = ((rp euS k (a, b)).2, (rp euS k (a, b)).1 % (rp euS k (a, b)).2) := euS_s e
      have hn := fun w1 w2 => hn [some (.long (jN a)), none, some (.long (jN b)), none, some (.long (jN (rp euS k (a, b)).2)), none, some (.long (jN ((rp euS k (a, b)).1 % (rp euS k (a, b)).2))), none, some (.int (iN (k + 1))), w1, w2] h' ⟨rfl, w1, w2, by rw [hs]⟩
      generalize rp euS k (a, b) = z at *
      obtain ⟨g, l⟩ := z
      simp only at hb e hn ⊢
      obtain ⟨hb1, hb2⟩ := hb
      have e1 : (jN l = jN 0) = False := by rw [jN_eq (by omega) (by omega)]; exact eq_false e
      have e2 : jN g - jN g / jN l * jN l = jN (g % l) := by rw [jN_div (by omega) (by omega)]; exact jN_mod2
      (refine wp_go 600 ks_198_0.2.2.2.2.2.2.1 ?_; simp (disch := first | assumption | (simp only [ob_si, ar_si, ob_sl, ar_sl]; assumption) | omega) only [ci_0, ci_1, ci_100, cl_0, iN_l, inc_i, jN_add, jN_le, jN_lt, jN_mod, jN_sub, l0, lc_eq, lc_ge, lc_gt, lc_le, lc_lt, ldI_i, ldL_l, r_0, r_1, r_25, r_26, r_3, r_30, r_31, r_4, r_44, r_6, r_7, r_9, r_92, wpn_S, wpn_zero, stp_h, lk_0, lk_s, st1_0, st1_1, st1_2, st2_0, st2_1, st2_2, kj_i, kj_a, kj_l, kj_n, cat_n, cat_i, cat_a, cat_u, cat_l, vc_i, vc_a, rv_s, tl_n, tl_s, Cal'_s, List.length_cons, List.length_nil, i0, i1, iNd, iN_lt, iN_le, iN_eq, iN_add, iN_mul, iN_mod, iN_sub, iN_div, iN_clamp, iN_inb, zle_N, zlt_N, zN_le, zN_lt, zN_eq, Nz_eq, mI_t, mI_f, bI_0, bI_1, bI_t, bI_f, dltT, dltF, dleT, dleF, deqT, deqF, Nat.not_lt_zero, not_true_eq_false, not_false_eq_true, true_and, and_true, false_and, and_false, or_true, true_or, false_or, or_false, and_self, if_true, if_false, Classical.not_not, Nat.add_assoc, Nat.zero_add, Nat.add_zero, bI_or, bI_True, bI_False, Bool.false_eq_true, reduceCtorEq, eq_self, gi_si, gl_si, gr_si, hn_si, hL_si, hX_si, gi_sl, gl_sl, gr_sl, hn_sl, ob_si, ar_si, ob_sl, ar_sl, ks_198_0, ks_198_1, e1, e2])
      exact hn _ _
  · rintro L h' ⟨rfl, w1, w2, rfl⟩
    (refine wp_go 600 ks_198_0.2.2.2.2.2.2.1 ?_; simp (disch := first | assumption | (simp only [ob_si, ar_si, ob_sl, ar_sl]; assumption) | omega) only [ci_0, ci_1, ci_100, cl_0, iN_l, inc_i, jN_add, jN_div, jN_eq, jN_le, jN_lt, jN_mod, jN_mul, jN_sub, l0, lc_eq, lc_ge, lc_gt, lc_le, lc_lt, ldI_i, ldL_l, r_0, r_1, r_25, r_26, r_3, r_30, r_31, r_4, r_44, r_6, r_7, r_9, r_92, wpn_S, wpn_zero, stp_h, lk_0, lk_s, st1_0, st1_1, st1_2, st2_0, st2_1, st2_2, kj_i, kj_a, kj_l, kj_n, cat_n, cat_i, cat_a, cat_u, cat_l, vc_i, vc_a, rv_s, tl_n, tl_s, Cal'_s, List.length_cons, List.length_nil, i0, i1, iNd, iN_lt, iN_le, iN_eq, iN_add, iN_mul, iN_mod, iN_sub, iN_div, iN_clamp, iN_inb, zle_N, zlt_N, zN_le, zN_lt, zN_eq, Nz_eq, mI_t, mI_f, bI_0, bI_1, bI_t, bI_f, dltT, dltF, dleT, dleF, deqT, deqF, Nat.not_lt_zero, not_true_eq_false, not_false_eq_true, true_and, and_true, false_and, and_false, or_true, true_or, false_or, or_false, and_self, if_true, if_false, Classical.not_not, Nat.add_assoc, Nat.zero_add, Nat.add_zero, bI_or, bI_True, bI_False, Bool.false_eq_true, reduceCtorEq, eq_self, gi_si, gl_si, gr_si, hn_si, hL_si, hX_si, gi_sl, gl_sl, gr_sl, hn_sl, ob_si, ar_si, ob_sl, ar_sl, ks_198_0, ks_198_1])
    exact hQ
theorem g_div_q {h : Hp} {a b : Nat} (ha : a < 4611686018427387904) (hb : b < 35184372088832) {e : Nat} (hd : 0 ≤ e) (K : Option Value → Hp → Prop) : Cal e 198 [.long (jN a), .long (jN b)] h K = K (some (.long (jN (gcdN a b)))) (h) := Cal_eq (g_div (ha := ha) (hb := hb)) hd K
theorem o_div {h : Hp} {a b : Nat} (ha : a < 4611686018427387904) (hb : b < 35184372088832) : Ret 0 276 [.long (jN a), .long (jN b)] h (some (.long (jN (gcdN a b)))) (h) := by
  refine Ret_L [some (.long (jN a)), none, some (.long (jN b)), none, none, none, none, none, none, none] rfl rfl fun Q hQ => ?_
  (refine wp_go 600 ks_276_0.1 ?_; simp (disch := first | assumption | (simp only [ob_si, ar_si, ob_sl, ar_sl]; assumption) | omega) only [cl_0, iN_l, jN_add, jN_div, jN_eq, jN_le, jN_lt, jN_mod, jN_mul, jN_sub, l0, lc_eq, lc_ge, lc_gt, lc_le, lc_lt, ldL_l, r_1, r_25, r_26, r_30, r_31, r_4, r_7, r_92, wpn_S, wpn_zero, stp_h, lk_0, lk_s, st1_0, st1_1, st1_2, st2_0, st2_1, st2_2, kj_i, kj_a, kj_l, kj_n, cat_n, cat_i, cat_a, cat_u, cat_l, vc_i, vc_a, rv_s, tl_n, tl_s, Cal'_s, List.length_cons, List.length_nil, i0, i1, iNd, iN_lt, iN_le, iN_eq, iN_add, iN_mul, iN_mod, iN_sub, iN_div, iN_clamp, iN_inb, zle_N, zlt_N, zN_le, zN_lt, zN_eq, Nz_eq, mI_t, mI_f, bI_0, bI_1, bI_t, bI_f, dltT, dltF, dleT, dleF, deqT, deqF, Nat.not_lt_zero, not_true_eq_false, not_false_eq_true, true_and, and_true, false_and, and_false, or_true, true_or, false_or, or_false, and_self, if_true, if_false, Classical.not_not, Nat.add_assoc, Nat.zero_add, Nat.add_zero, bI_or, bI_True, bI_False, Bool.false_eq_true, reduceCtorEq, eq_self, gi_si, gl_si, gr_si, hn_si, hL_si, hX_si, gi_sl, gl_sl, gr_sl, hn_sl, ob_si, ar_si, ob_sl, ar_sl, ks_276_0])
  refine wp_loop (fun k L h' => h' = h ∧ ∃ w1 w2, L = [some (.long (jN a)), none, some (.long (jN b)), none, some (.long (jN (rp euS k (a, b)).1)), none, some (.long (jN (rp euS k (a, b)).2)), none, w1, w2]) 100 ?_ ?_ 100 0 _ h (by omega) ⟨rfl, none, none, rfl⟩
  · rintro k L h' hk ⟨rfl, w1, w2, rfl⟩ hn
    have hb := eu_lt (a := a) (b := b) (M := 4611686018427387904) ha (by omega) k
    by_cases e : (rp euS k (a, b)).2 = 0
    · rw [← eu_at (Nat.le_of_lt hk) e] at hQ
      (refine wp_go 600 ks_276_0.2.2.2.2.1 ?_; simp (disch := first | assumption | (simp only [ob_si, ar_si, ob_sl, ar_sl]; assumption) | omega) only [cl_0, iN_l, jN_add, jN_div, jN_eq, jN_le, jN_lt, jN_mod, jN_mul, jN_sub, l0, lc_eq, lc_ge, lc_gt, lc_le, lc_lt, ldL_l, r_1, r_25, r_26, r_30, r_31, r_4, r_7, r_92, wpn_S, wpn_zero, stp_h, lk_0, lk_s, st1_0, st1_1, st1_2, st2_0, st2_1, st2_2, kj_i, kj_a, kj_l, kj_n, cat_n, cat_i, cat_a, cat_u, cat_l, vc_i, vc_a, rv_s, tl_n, tl_s, Cal'_s, List.length_cons, List.length_nil, i0, i1, iNd, iN_lt, iN_le, iN_eq, iN_add, iN_mul, iN_mod, iN_sub, iN_div, iN_clamp, iN_inb, zle_N, zlt_N, zN_le, zN_lt, zN_eq, Nz_eq, mI_t, mI_f, bI_0, bI_1, bI_t, bI_f, dltT, dltF, dleT, dleF, deqT, deqF, Nat.not_lt_zero, not_true_eq_false, not_false_eq_true, true_and, and_true, false_and, and_false, or_true, true_or, false_or, or_false, and_self, if_true, if_false, Classical.not_not, Nat.add_assoc, Nat.zero_add, Nat.add_zero, bI_or, bI_True, bI_False, Bool.false_eq_true, reduceCtorEq, eq_self, gi_si, gl_si, gr_si, hn_si, hL_si, hX_si, gi_sl, gl_sl, gr_sl, hn_sl, ob_si, ar_si, ob_sl, ar_sl, ks_276_0, e])
      exact hQ
    · have hs : rp euS (k + 1) (a, b) = ((rp euS k (a, b)).2, (rp euS k (a, b)).1 % (rp euS k (a, b)).2) := euS_s e
      have hn := fun w1 w2 => hn [some (.long (jN a)), none, some (.long (jN b)), none, some (.long (jN (rp euS k (a, b)).2)), none, some (.long (jN ((rp euS k (a, b)).1 % (rp euS k (a, b)).2))), none, w1, w2] h' ⟨rfl, w1, w2, by rw [hs]⟩
      generalize rp euS k (a, b) = z at *
      obtain ⟨g, l⟩ := z
      simp only at hb e hn ⊢
      obtain ⟨hb1, hb2⟩ := hb
      have e1 : (jN l = jN 0) = False := by rw [jN_eq (by omega) (by omega)]; exact eq_false e
      have e2 : jN g - jN g / jN l * jN l = jN (g % l) := by rw [jN_div (by omega) (by omega)]; exact jN_mod2
      (refine wp_go 600 ks_276_0.2.2.2.2.1 ?_; simp (disch := first | assumption | (simp only [ob_si, ar_si, ob_sl, ar_sl]; assumption) | omega) only [cl_0, iN_l, jN_add, jN_le, jN_lt, jN_mod, jN_sub, l0, lc_eq, lc_ge, lc_gt, lc_le, lc_lt, ldL_l, r_1, r_25, r_26, r_30, r_31, r_4, r_7, r_92, wpn_S, wpn_zero, stp_h, lk_0, lk_s, st1_0, st1_1, st1_2, st2_0, st2_1, st2_2, kj_i, kj_a, kj_l, kj_n, cat_n, cat_i, cat_a, cat_u, cat_l, vc_i, vc_a, rv_s, tl_n, tl_s, Cal'_s, List.length_cons, List.length_nil, i0, i1, iNd, iN_lt, iN_le, iN_eq, iN_add, iN_mul, iN_mod, iN_sub, iN_div, iN_clamp, iN_inb, zle_N, zlt_N, zN_le, zN_lt, zN_eq, Nz_eq, mI_t, mI_f, bI_0, bI_1, bI_t, bI_f, dltT, dltF, dleT, dleF, deqT, deqF, Nat.not_lt_zero, not_true_eq_false, not_false_eq_true, true_and, and_true, false_and, and_false, or_true, true_or, false_or, or_false, and_self, if_true, if_false, Classical.not_not, Nat.add_assoc, Nat.zero_add, Nat.add_zero, bI_or, bI_True, bI_False, Bool.false_eq_true, reduceCtorEq, eq_self, gi_si, gl_si, gr_si, hn_si, hL_si, hX_si, gi_sl, gl_sl, gr_sl, hn_sl, ob_si, ar_si, ob_sl, ar_sl, ks_276_0, e1, e2])
      exact hn _ _
  · rintro L h' ⟨rfl, w1, w2, rfl⟩
    have e := eu_0 (a := a) (b := b) (by omega)
    rw [← eu_at (Nat.le_refl 100) e] at hQ
    (refine wp_go 600 ks_276_0.2.2.2.2.1 ?_; simp (disch := first | assumption | (simp only [ob_si, ar_si, ob_sl, ar_sl]; assumption) | omega) only [cl_0, iN_l, jN_add, jN_div, jN_eq, jN_le, jN_lt, jN_mod, jN_mul, jN_sub, l0, lc_eq, lc_ge, lc_gt, lc_le, lc_lt, ldL_l, r_1, r_25, r_26, r_30, r_31, r_4, r_7, r_92, wpn_S, wpn_zero, stp_h, lk_0, lk_s, st1_0, st1_1, st1_2, st2_0, st2_1, st2_2, kj_i, kj_a, kj_l, kj_n, cat_n, cat_i, cat_a, cat_u, cat_l, vc_i, vc_a, rv_s, tl_n, tl_s, Cal'_s, List.length_cons, List.length_nil, i0, i1, iNd, iN_lt, iN_le, iN_eq, iN_add, iN_mul, iN_mod, iN_sub, iN_div, iN_clamp, iN_inb, zle_N, zlt_N, zN_le, zN_lt, zN_eq, Nz_eq, mI_t, mI_f, bI_0, bI_1, bI_t, bI_f, dltT, dltF, dleT, dleF, deqT, deqF, Nat.not_lt_zero, not_true_eq_false, not_false_eq_true, true_and, and_true, false_and, and_false, or_true, true_or, false_or, or_false, and_self, if_true, if_false, Classical.not_not, Nat.add_assoc, Nat.zero_add, Nat.add_zero, bI_or, bI_True, bI_False, Bool.false_eq_true, reduceCtorEq, eq_self, gi_si, gl_si, gr_si, hn_si, hL_si, hX_si, gi_sl, gl_sl, gr_sl, hn_sl, ob_si, ar_si, ob_sl, ar_sl, ks_276_0, e])
    exact hQ
theorem o_div_q {h : Hp} {a b : Nat} (ha : a < 4611686018427387904) (hb : b < 35184372088832) {e : Nat} (hd : 0 ≤ e) (K : Option Value → Hp → Prop) : Cal e 276 [.long (jN a), .long (jN b)] h K = K (some (.long (jN (gcdN a b)))) (h) := Cal_eq (o_div (ha := ha) (hb := hb)) hd K
noncomputable def lowT (a b p : Nat) : Nat := if a = 0 then p else (if p = 0 then a else b) / gcdN a b
theorem g_low {h : Hp} {a b p : Nat} (ha : a < 35184372088832) (hb : b < 35184372088832) (hp : p < 2) : Ret 1 197 [.long (jN a), .long (jN b), .int (iN p)] h (some (.long (jN (lowT a b p)))) (h) := by
  refine Ret_L [some (.long (jN a)), none, some (.long (jN b)), none, some (.int (iN p)), none, none] rfl rfl fun Q hQ => ?_
  have hd := g_div (h := h) (a := a) (b := b) (by omega) hb
  have hg : gcdN a b < 35184372088832 := (eu_lt ha hb 100).1
  by_cases h0 : a = 0
  · rw [lowT, if_pos h0] at hQ
    subst h0
    (refine wp_go 600 ks_197_0.1 ?_; simp (disch := first | assumption | (simp only [ob_si, ar_si, ob_sl, ar_sl]; assumption) | omega) only [cl_0, iN_l, jN_add, jN_div, jN_eq, jN_le, jN_lt, jN_mod, jN_mul, jN_sub, l0, lc_eq, lc_ge, lc_gt, lc_le, lc_lt, ldI_i, ldL_l, r_0, r_1, r_24, r_26, r_27, r_30, r_31, r_32, r_4, r_7, r_81_2, r_92, wpn_S, wpn_zero, stp_h, lk_0, lk_s, st1_0, st1_1, st1_2, st2_0, st2_1, st2_2, kj_i, kj_a, kj_l, kj_n, cat_n, cat_i, cat_a, cat_u, cat_l, vc_i, vc_a, rv_s, tl_n, tl_s, Cal'_s, List.length_cons, List.length_nil, i0, i1, iNd, iN_lt, iN_le, iN_eq, iN_add, iN_mul, iN_mod, iN_sub, iN_div, iN_clamp, iN_inb, zle_N, zlt_N, zN_le, zN_lt, zN_eq, Nz_eq, mI_t, mI_f, bI_0, bI_1, bI_t, bI_f, dltT, dltF, dleT, dleF, deqT, deqF, Nat.not_lt_zero, not_true_eq_false, not_false_eq_true, true_and, and_true, false_and, and_false, or_true, true_or, false_or, or_false, and_self, if_true, if_false, Classical.not_not, Nat.add_assoc, Nat.zero_add, Nat.add_zero, bI_or, bI_True, bI_False, Bool.false_eq_true, reduceCtorEq, eq_self, gi_si, gl_si, gr_si, hn_si, hL_si, hX_si, gi_sl, gl_sl, gr_sl, hn_sl, ob_si, ar_si, ob_sl, ar_sl, ks_197_0, Cal_eq hd])
    exact hQ
  · have hne := eu_pos h0 (b := b) (by omega)
    by_cases hp0 : p = 0
    · rw [lowT, if_neg h0, if_pos hp0] at hQ
      (refine wp_go 600 ks_197_0.1 ?_; simp (disch := first | assumption | (simp only [ob_si, ar_si, ob_sl, ar_sl]; assumption) | omega) only [cl_0, iN_l, jN_add, jN_div, jN_eq, jN_le, jN_lt, jN_mod, jN_mul, jN_sub, l0, lc_eq, lc_ge, lc_gt, lc_le, lc_lt, ldI_i, ldL_l, r_0, r_1, r_24, r_26, r_27, r_30, r_31, r_32, r_4, r_7, r_81_2, r_92, wpn_S, wpn_zero, stp_h, lk_0, lk_s, st1_0, st1_1, st1_2, st2_0, st2_1, st2_2, kj_i, kj_a, kj_l, kj_n, cat_n, cat_i, cat_a, cat_u, cat_l, vc_i, vc_a, rv_s, tl_n, tl_s, Cal'_s, List.length_cons, List.length_nil, i0, i1, iNd, iN_lt, iN_le, iN_eq, iN_add, iN_mul, iN_mod, iN_sub, iN_div, iN_clamp, iN_inb, zle_N, zlt_N, zN_le, zN_lt, zN_eq, Nz_eq, mI_t, mI_f, bI_0, bI_1, bI_t, bI_f, dltT, dltF, dleT, dleF, deqT, deqF, Nat.not_lt_zero, not_true_eq_false, not_false_eq_true, true_and, and_true, false_and, and_false, or_true, true_or, false_or, or_false, and_self, if_true, if_false, Classical.not_not, Nat.add_assoc, Nat.zero_add, Nat.add_zero, bI_or, bI_True, bI_False, Bool.false_eq_true, reduceCtorEq, eq_self, gi_si, gl_si, gr_si, hn_si, hL_si, hX_si, gi_sl, gl_sl, gr_sl, hn_sl, ob_si, ar_si, ob_sl, ar_sl, ks_197_0, Cal_eq hd, h0, hne])
      exact hQ
    · rw [lowT, if_neg h0, if_neg hp0] at hQ
      (refine wp_go 600 ks_197_0.1 ?_; simp (disch := first | assumption | (simp only [ob_si, ar_si, ob_sl, ar_sl]; assumption) | omega) only [cl_0, iN_l, jN_add, jN_div, jN_eq, jN_le, jN_lt, jN_mod, jN_mul, jN_sub, l0, lc_eq, lc_ge, lc_gt, lc_le, lc_lt, ldI_i, ldL_l, r_0, r_1, r_24, r_26, r_27, r_30, r_31, r_32, r_4, r_7, r_81_2, r_92, wpn_S, wpn_zero, stp_h, lk_0, lk_s, st1_0, st1_1, st1_2, st2_0, st2_1, st2_2, kj_i, kj_a, kj_l, kj_n, cat_n, cat_i, cat_a, cat_u, cat_l, vc_i, vc_a, rv_s, tl_n, tl_s, Cal'_s, List.length_cons, List.length_nil, i0, i1, iNd, iN_lt, iN_le, iN_eq, iN_add, iN_mul, iN_mod, iN_sub, iN_div, iN_clamp, iN_inb, zle_N, zlt_N, zN_le, zN_lt, zN_eq, Nz_eq, mI_t, mI_f, bI_0, bI_1, bI_t, bI_f, dltT, dltF, dleT, dleF, deqT, deqF, Nat.not_lt_zero, not_true_eq_false, not_false_eq_true, true_and, and_true, false_and, and_false, or_true, true_or, false_or, or_false, and_self, if_true, if_false, Classical.not_not, Nat.add_assoc, Nat.zero_add, Nat.add_zero, bI_or, bI_True, bI_False, Bool.false_eq_true, reduceCtorEq, eq_self, gi_si, gl_si, gr_si, hn_si, hL_si, hX_si, gi_sl, gl_sl, gr_sl, hn_sl, ob_si, ar_si, ob_sl, ar_sl, ks_197_0, Cal_eq hd, h0, hne])
      exact hQ
theorem g_low_q {h : Hp} {a b p : Nat} (ha : a < 35184372088832) (hb : b < 35184372088832) (hp : p < 2) {e : Nat} (hd : 1 ≤ e) (K : Option Value → Hp → Prop) : Cal e 197 [.long (jN a), .long (jN b), .int (iN p)] h K = K (some (.long (jN (lowT a b p)))) (h) := Cal_eq (g_low (ha := ha) (hb := hb) (hp := hp)) hd K
theorem o_low {h : Hp} {a b p : Nat} (ha : a < 35184372088832) (hb : b < 35184372088832) (hp : p < 2) : Ret 1 277 [.long (jN a), .long (jN b), .int (iN p)] h (some (.long (jN (lowT a b p)))) (h) := by
  refine Ret_L [some (.long (jN a)), none, some (.long (jN b)), none, some (.int (iN p)), none, none] rfl rfl fun Q hQ => ?_
  have hd := o_div (h := h) (a := a) (b := b) (by omega) hb
  have hg : gcdN a b < 35184372088832 := (eu_lt ha hb 100).1
  by_cases h0 : a = 0
  · rw [lowT, if_pos h0] at hQ
    (refine wp_go 600 ks_277_0.1 ?_; simp (disch := first | assumption | (simp only [ob_si, ar_si, ob_sl, ar_sl]; assumption) | omega) only [cl_0, iN_l, jN_add, jN_div, jN_eq, jN_le, jN_lt, jN_mod, jN_mul, jN_sub, l0, lc_eq, lc_ge, lc_gt, lc_le, lc_lt, ldI_i, ldL_l, r_0, r_1, r_24, r_26, r_27, r_30, r_32, r_4, r_7, r_81_2, r_92, wpn_S, wpn_zero, stp_h, lk_0, lk_s, st1_0, st1_1, st1_2, st2_0, st2_1, st2_2, kj_i, kj_a, kj_l, kj_n, cat_n, cat_i, cat_a, cat_u, cat_l, vc_i, vc_a, rv_s, tl_n, tl_s, Cal'_s, List.length_cons, List.length_nil, i0, i1, iNd, iN_lt, iN_le, iN_eq, iN_add, iN_mul, iN_mod, iN_sub, iN_div, iN_clamp, iN_inb, zle_N, zlt_N, zN_le, zN_lt, zN_eq, Nz_eq, mI_t, mI_f, bI_0, bI_1, bI_t, bI_f, dltT, dltF, dleT, dleF, deqT, deqF, Nat.not_lt_zero, not_true_eq_false, not_false_eq_true, true_and, and_true, false_and, and_false, or_true, true_or, false_or, or_false, and_self, if_true, if_false, Classical.not_not, Nat.add_assoc, Nat.zero_add, Nat.add_zero, bI_or, bI_True, bI_False, Bool.false_eq_true, reduceCtorEq, eq_self, gi_si, gl_si, gr_si, hn_si, hL_si, hX_si, gi_sl, gl_sl, gr_sl, hn_sl, ob_si, ar_si, ob_sl, ar_sl, ks_277_0, h0])
    exact hQ
  · have hne := eu_pos h0 (b := b) (by omega)
    by_cases hp0 : p = 0
    · rw [lowT, if_neg h0, if_pos hp0] at hQ
      (refine wp_go 600 ks_277_0.1 ?_; simp (disch := first | assumption | (simp only [ob_si, ar_si, ob_sl, ar_sl]; assumption) | omega) only [cl_0, iN_l, jN_add, jN_div, jN_eq, jN_le, jN_lt, jN_mod, jN_mul, jN_sub, l0, lc_eq, lc_ge, lc_gt, lc_le, lc_lt, ldI_i, ldL_l, r_0, r_1, r_24, r_26, r_27, r_30, r_32, r_4, r_7, r_81_2, r_92, wpn_S, wpn_zero, stp_h, lk_0, lk_s, st1_0, st1_1, st1_2, st2_0, st2_1, st2_2, kj_i, kj_a, kj_l, kj_n, cat_n, cat_i, cat_a, cat_u, cat_l, vc_i, vc_a, rv_s, tl_n, tl_s, Cal'_s, List.length_cons, List.length_nil, i0, i1, iNd, iN_lt, iN_le, iN_eq, iN_add, iN_mul, iN_mod, iN_sub, iN_div, iN_clamp, iN_inb, zle_N, zlt_N, zN_le, zN_lt, zN_eq, Nz_eq, mI_t, mI_f, bI_0, bI_1, bI_t, bI_f, dltT, dltF, dleT, dleF, deqT, deqF, Nat.not_lt_zero, not_true_eq_false, not_false_eq_true, true_and, and_true, false_and, and_false, or_true, true_or, false_or, or_false, and_self, if_true, if_false, Classical.not_not, Nat.add_assoc, Nat.zero_add, Nat.add_zero, bI_or, bI_True, bI_False, Bool.false_eq_true, reduceCtorEq, eq_self, gi_si, gl_si, gr_si, hn_si, hL_si, hX_si, gi_sl, gl_sl, gr_sl, hn_sl, ob_si, ar_si, ob_sl, ar_sl, ks_277_0, Cal_eq hd, h0, hne])
      exact hQ
    · rw [lowT, if_neg h0, if_neg hp0] at hQ
      (refine wp_go 600 ks_277_0.1 ?_; simp (disch := first | assumption | (simp only [ob_si, ar_si, ob_sl, ar_sl]; assumption) | omega) only [cl_0, iN_l, jN_add, jN_div, jN_eq, jN_le, jN_lt, jN_mod, jN_mul, jN_sub, l0, lc_eq, lc_ge, lc_gt, lc_le, lc_lt, ldI_i, ldL_l, r_0, r_1, r_24, r_26, r_27, r_30, r_32, r_4, r_7, r_81_2, r_92, wpn_S, wpn_zero, stp_h, lk_0, lk_s, st1_0, st1_1, st1_2, st2_0, st2_1, st2_2, kj_i, kj_a, kj_l, kj_n, cat_n, cat_i, cat_a, cat_u, cat_l, vc_i, vc_a, rv_s, tl_n, tl_s, Cal'_s, List.length_cons, List.length_nil, i0, i1, iNd, iN_lt, iN_le, iN_eq, iN_add, iN_mul, iN_mod, iN_sub, iN_div, iN_clamp, iN_inb, zle_N, zlt_N, zN_le, zN_lt, zN_eq, Nz_eq, mI_t, mI_f, bI_0, bI_1, bI_t, bI_f, dltT, dltF, dleT, dleF, deqT, deqF, Nat.not_lt_zero, not_true_eq_false, not_false_eq_true, true_and, and_true, false_and, and_false, or_true, true_or, false_or, or_false, and_self, if_true, if_false, Classical.not_not, Nat.add_assoc, Nat.zero_add, Nat.add_zero, bI_or, bI_True, bI_False, Bool.false_eq_true, reduceCtorEq, eq_self, gi_si, gl_si, gr_si, hn_si, hL_si, hX_si, gi_sl, gl_sl, gr_sl, hn_sl, ob_si, ar_si, ob_sl, ar_sl, ks_277_0, Cal_eq hd, h0, hne])
      exact hQ
theorem o_low_q {h : Hp} {a b p : Nat} (ha : a < 35184372088832) (hb : b < 35184372088832) (hp : p < 2) {e : Nat} (hd : 1 ≤ e) (K : Option Value → Hp → Prop) : Cal e 277 [.long (jN a), .long (jN b), .int (iN p)] h K = K (some (.long (jN (lowT a b p)))) (h) := Cal_eq (o_low (ha := ha) (hb := hb) (hp := hp)) hd K
