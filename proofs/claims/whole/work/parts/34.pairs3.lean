/-! the pairing by which most mends -/
noncomputable def chZ (x : Mt) (d i j : Nat) : Int := ((rp (dyN (kpx x i j)) d (xQ x i j) : Nat) : Int) - (xQ x i j : Int)
theorem chZ_b {x : Mt} (hW : Wf x) (d i j : Nat) : -99 ≤ chZ x d i j ∧ chZ x d i j ≤ 99 := by
  have h1 := hW.2.2.2.2.2.1 i j
  have h2 := rp_dy (c := kpx x i j) h1 d
  unfold chZ
  omega
noncomputable def Ch (h : Hp) (x : Mt) (d : Nat) : Prop := ∀ i j, i < j → j < xN x → gi h 27 (i * 6 + j) = zI (chZ x d i j)
theorem p_meas {h : Hp} {d : Nat} {x : Mt} (hB : Bs h) (hA : At h 1 x) (hW : Wf x) (hd : d ≤ 99) : ∃ h', Ret 4 85 [.ref 23, .int (iN d)] h none h' ∧ Ch h' x d ∧ Fr Sp h h' := by
  have wN := hW.1
  have key : ∀ Q : Option Value → Hp → Prop, (∀ h', Ch h' x d → Fr Sp h h' → Q none h') → wp 4 85 0 [some (.ref 23), some (.int (iN d)), none, none, none, none] [] h Q := by
    intro Q hQ
    (refine wp_go 600 ks_85_0.1 ?_; simp (disch := first | assumption | (simp only [ob_si, ar_si, ob_sl, ar_sl]; assumption) | omega) only [ci_0, ci_1, ci_6, inc_i, ldA_a, ldI_i, oc_12, oc_22, oc_36, oc_7, p_0, p_10, p_11, p_12, p_2, p_3, p_30, p_44, p_6, p_62, p_80_1, p_80_3, p_80_4, p_81_3, p_9, p_94, wpn_succ, wpn_zero, stp_h, lk_0, lk_s, st1_0, st1_1, st1_2, st2_0, st2_1, st2_2, kj_i, kj_a, kj_l, kj_n, cat_n, cat_i, cat_a, cat_u, cat_l, vc_i, vc_a, rv_s, tl_n, tl_s, Cal'_s, List.length_cons, List.length_nil, i0, i1, iNd, iN_lt, iN_le, iN_eq, iN_add, iN_mul, iN_mod, iN_sub, iN_div, iN_clamp, iN_inb, zle_N, zlt_N, zN_le, zN_lt, zN_eq, Nz_eq, mI_t, mI_f, bI_0, bI_1, bI_t, bI_f, dltT, dltF, dleT, dleF, deqT, deqF, Nat.not_lt_zero, not_true_eq_false, not_false_eq_true, true_and, and_true, false_and, and_false, or_true, true_or, false_or, or_false, and_self, if_true, if_false, Classical.not_not, Nat.add_assoc, Nat.zero_add, Nat.add_zero, bI_or, bI_True, bI_False, Bool.false_eq_true, reduceCtorEq, eq_self, gi_si, gl_si, gr_si, hn_si, hL_si, hX_si, gi_sl, gl_sl, gr_sl, hn_sl, ob_si, ar_si, ob_sl, ar_sl, ks_85_0, ks_85_1, ks_85_2])
    refine wp_loop (fun i L h' => Fr Sp h h' ∧ (∀ a b, a < i → a < b → b < xN x → gi h' 27 (a * 6 + b) = zI (chZ x d a b)) ∧ ∃ w1 w2 w3, L = [some (.ref 23), some (.int (iN d)), some (.int (iN i)), w1, w2, w3]) (xN x) ?_ ?_ (xN x) 0 _ h (by omega) ⟨Fr.rf _ h, fun a b ha => by omega, none, none, none, rfl⟩
    · rintro i L h1 hi ⟨f1, c1, w1, w2, w3, rfl⟩ hnx
      have hA0 := At1_p hA f1
      have hB0 := f1.bs hB
      have fin : ∀ (h1 : Hp) w2 w3, Fr Sp h h1 → Bs h1 → At h1 1 x → (∀ a b, a < i → a < b → b < xN x → gi h1 27 (a * 6 + b) = zI (chZ x d a b)) → wp 4 85 17 [some (.ref 23), some (.int (iN d)), some (.int (iN i)), some (.int (iN (i + 1))), w2, w3] [] h1 Q := by
        intro h1 w2 w3 f1 hB1 hA1 c1
        refine wp_loop (fun j L h' => Fr Sp h h' ∧ (∀ a b, a < i → a < b → b < xN x → gi h' 27 (a * 6 + b) = zI (chZ x d a b)) ∧ (∀ b, i < b → b < j → gi h' 27 (i * 6 + b) = zI (chZ x d i b)) ∧ i < j ∧ ∃ w2 w3, L = [some (.ref 23), some (.int (iN d)), some (.int (iN i)), some (.int (iN j)), w2, w3]) (xN x) ?_ ?_ (xN x - (i + 1)) (i + 1) _ h1 (by omega) ⟨f1, c1, fun b hb hb2 => by omega, by omega, _, _, rfl⟩
        · rintro j L h2 hj ⟨f2, c2, c3, hij, w2, w3, rfl⟩ hn2
          replace hA := At1_p hA f2
          replace hB := f2.bs hB
          clear hA0 hB0 hA1 hB1 c1
          have h := h2
          have hq := hW.2.2.2.2.2.1 i j
          have oP : ob h2 23 5 := hB.ob (by decide) (by decide)
          have rP0 : gr h2 23 0 = some 1 := hB.r (by decide)
          have rP2 : gr h2 23 2 = some 19 := hB.r (by decide)
          have oK : ob h2 19 1 := hB.ob (by decide) (by decide)
          have oM : ob h2 1 3 := hB.ob (by decide) (by decide)
          have hm : isM 1 := Or.inl rfl
          obtain ⟨h3, r3, K3, f3⟩ := w_take (i := i) (j := j) hm hB hA hW (by omega) (by omega)
          have B3 := f3.bs hB
          have oP3 : ob h3 23 5 := B3.ob (by decide) (by decide)
          have q2 : gr h3 23 2 = some 19 := B3.r (by decide)
          have q4 : gr h3 23 4 = some 27 := B3.r (by decide)
          have oK3 : ob h3 19 1 := B3.ob (by decide) (by decide)
          have a27 : ar h3 1 27 := B3.ar (by decide) (by decide)
          have s27 : (SH 27).2 = 36 := by decide
          have e27 := f3.i (o := 27) (by unfold Sk; omega)
          (refine wp_go 600 ks_85_0.2.2.2.2.2.2.2.2.2.2.2.1 ?_; simp (disch := first | assumption | (simp only [ob_si, ar_si, ob_sl, ar_sl]; assumption) | omega) only [ci_0, ci_1, ci_6, inc_i, ldA_a, ldI_i, oc_12, oc_22, oc_36, oc_7, p_0, p_10, p_11, p_12, p_2, p_3, p_30, p_44, p_6, p_62, p_80_1, p_80_3, p_80_4, p_81_3, p_9, p_94, wpn_succ, wpn_zero, stp_h, lk_0, lk_s, st1_0, st1_1, st1_2, st2_0, st2_1, st2_2, kj_i, kj_a, kj_l, kj_n, cat_n, cat_i, cat_a, cat_u, cat_l, vc_i, vc_a, rv_s, tl_n, tl_s, Cal'_s, List.length_cons, List.length_nil, i0, i1, iNd, iN_lt, iN_le, iN_eq, iN_add, iN_mul, iN_mod, iN_div, iN_clamp, iN_inb, zle_N, zlt_N, zN_le, zN_lt, zN_eq, Nz_eq, mI_t, mI_f, bI_0, bI_1, bI_t, bI_f, dltT, dltF, dleT, dleF, deqT, deqF, Nat.not_lt_zero, not_true_eq_false, not_false_eq_true, true_and, and_true, false_and, and_false, or_true, true_or, false_or, or_false, and_self, if_true, if_false, Classical.not_not, Nat.add_assoc, Nat.zero_add, Nat.add_zero, bI_or, bI_True, bI_False, Bool.false_eq_true, reduceCtorEq, eq_self, gi_si, gl_si, gr_si, hn_si, hL_si, hX_si, gi_sl, gl_sl, gr_sl, hn_sl, ob_si, ar_si, ob_sl, ar_sl, ks_85_0, ks_85_1, ks_85_2, oP, rP0, rP2, oK, oM, c_people_q hm hB hA hW, c_quar_q hm hB hA hW, Cal_eq r3, oP3, q2, q4, oK3, a27, k_days_q B3 K3 (kb_x hW _ _), c_set_q, NN_sub])
          refine hn2 _ _ ⟨(f2.tr (Sp_k f3)).si (by unfold Sp; omega) _ _, ?_, ?_, by omega, _, _, rfl⟩
          · intro a b ha hab hb
            rw [gi_si, up_s, up_f (by omega), e27]
            exact c2 a b ha hab hb
          · intro b hb hb2
            rw [gi_si, up_s]
            by_cases e : b = j
            · rw [up_t (by omega), e]; rfl
            · rw [up_f (by omega), e27]; exact c3 b hb (by omega)
        · rintro L h2 ⟨f2, c2, c3, hij, w2, w3, rfl⟩
          replace hA := At1_p hA f2
          replace hB := f2.bs hB
          have oP : ob h2 23 5 := hB.ob (by decide) (by decide)
          have rP0 : gr h2 23 0 = some 1 := hB.r (by decide)
          have oM : ob h2 1 3 := hB.ob (by decide) (by decide)
          have hm : isM 1 := Or.inl rfl
          (refine wp_go 600 ks_85_0.2.2.2.2.2.2.2.2.2.2.2.1 ?_; simp (disch := first | assumption | (simp only [ob_si, ar_si, ob_sl, ar_sl]; assumption) | omega) only [ci_0, ci_1, ci_6, inc_i, ldA_a, ldI_i, oc_12, oc_22, oc_36, oc_7, p_0, p_10, p_11, p_12, p_2, p_3, p_30, p_44, p_6, p_62, p_80_1, p_80_3, p_80_4, p_81_3, p_9, p_94, wpn_succ, wpn_zero, stp_h, lk_0, lk_s, st1_0, st1_1, st1_2, st2_0, st2_1, st2_2, kj_i, kj_a, kj_l, kj_n, cat_n, cat_i, cat_a, cat_u, cat_l, vc_i, vc_a, rv_s, tl_n, tl_s, Cal'_s, List.length_cons, List.length_nil, i0, i1, iNd, iN_lt, iN_le, iN_eq, iN_add, iN_mul, iN_mod, iN_sub, iN_div, iN_clamp, iN_inb, zle_N, zlt_N, zN_le, zN_lt, zN_eq, Nz_eq, mI_t, mI_f, bI_0, bI_1, bI_t, bI_f, dltT, dltF, dleT, dleF, deqT, deqF, Nat.not_lt_zero, not_true_eq_false, not_false_eq_true, true_and, and_true, false_and, and_false, or_true, true_or, false_or, or_false, and_self, if_true, if_false, Classical.not_not, Nat.add_assoc, Nat.zero_add, Nat.add_zero, bI_or, bI_True, bI_False, Bool.false_eq_true, reduceCtorEq, eq_self, gi_si, gl_si, gr_si, hn_si, hL_si, hX_si, gi_sl, gl_sl, gr_sl, hn_sl, ob_si, ar_si, ob_sl, ar_sl, ks_85_0, ks_85_1, ks_85_2, oP, rP0, oM, c_people_q hm hB hA hW])
          refine hnx _ _ ⟨f2, ?_, _, _, _, rfl⟩
          intro a b ha hab hb
          by_cases e : a = i
          · rw [e]; rw [e] at hab; exact c3 b hab hb
          · exact c2 a b (by omega) hab hb
      have oP : ob h1 23 5 := hB0.ob (by decide) (by decide)
      have rP0 : gr h1 23 0 = some 1 := hB0.r (by decide)
      have oM : ob h1 1 3 := hB0.ob (by decide) (by decide)
      have hm : isM 1 := Or.inl rfl
      (refine wp_go 600 ks_85_0.2.2.1 ?_; simp (disch := first | assumption | (simp only [ob_si, ar_si, ob_sl, ar_sl]; assumption) | omega) only [ci_0, ci_1, ci_6, inc_i, ldA_a, ldI_i, oc_12, oc_22, oc_36, oc_7, p_0, p_10, p_11, p_12, p_2, p_3, p_30, p_44, p_6, p_62, p_80_1, p_80_3, p_80_4, p_81_3, p_9, p_94, wpn_succ, wpn_zero, stp_h, lk_0, lk_s, st1_0, st1_1, st1_2, st2_0, st2_1, st2_2, kj_i, kj_a, kj_l, kj_n, cat_n, cat_i, cat_a, cat_u, cat_l, vc_i, vc_a, rv_s, tl_n, tl_s, Cal'_s, List.length_cons, List.length_nil, i0, i1, iNd, iN_lt, iN_le, iN_eq, iN_add, iN_mul, iN_mod, iN_sub, iN_div, iN_clamp, iN_inb, zle_N, zlt_N, zN_le, zN_lt, zN_eq, Nz_eq, mI_t, mI_f, bI_0, bI_1, bI_t, bI_f, dltT, dltF, dleT, dleF, deqT, deqF, Nat.not_lt_zero, not_true_eq_false, not_false_eq_true, true_and, and_true, false_and, and_false, or_true, true_or, false_or, or_false, and_self, if_true, if_false, Classical.not_not, Nat.add_assoc, Nat.zero_add, Nat.add_zero, bI_or, bI_True, bI_False, Bool.false_eq_true, reduceCtorEq, eq_self, gi_si, gl_si, gr_si, hn_si, hL_si, hX_si, gi_sl, gl_sl, gr_sl, hn_sl, ob_si, ar_si, ob_sl, ar_sl, ks_85_0, ks_85_1, ks_85_2, oP, rP0, oM, c_people_q hm hB0 hA0 hW])
      exact fin h1 w2 w3 f1 hB0 hA0 c1
    · rintro L h1 ⟨f1, c1, w1, w2, w3, rfl⟩
      replace hA := At1_p hA f1
      replace hB := f1.bs hB
      have oP : ob h1 23 5 := hB.ob (by decide) (by decide)
      have rP0 : gr h1 23 0 = some 1 := hB.r (by decide)
      have oM : ob h1 1 3 := hB.ob (by decide) (by decide)
      have hm : isM 1 := Or.inl rfl
      (refine wp_go 600 ks_85_0.2.2.1 ?_; simp (disch := first | assumption | (simp only [ob_si, ar_si, ob_sl, ar_sl]; assumption) | omega) only [ci_0, ci_1, ci_6, inc_i, ldA_a, ldI_i, oc_12, oc_22, oc_36, oc_7, p_0, p_10, p_11, p_12, p_2, p_3, p_30, p_44, p_6, p_62, p_80_1, p_80_3, p_80_4, p_81_3, p_9, p_94, wpn_succ, wpn_zero, stp_h, lk_0, lk_s, st1_0, st1_1, st1_2, st2_0, st2_1, st2_2, kj_i, kj_a, kj_l, kj_n, cat_n, cat_i, cat_a, cat_u, cat_l, vc_i, vc_a, rv_s, tl_n, tl_s, Cal'_s, List.length_cons, List.length_nil, i0, i1, iNd, iN_lt, iN_le, iN_eq, iN_add, iN_mul, iN_mod, iN_sub, iN_div, iN_clamp, iN_inb, zle_N, zlt_N, zN_le, zN_lt, zN_eq, Nz_eq, mI_t, mI_f, bI_0, bI_1, bI_t, bI_f, dltT, dltF, dleT, dleF, deqT, deqF, Nat.not_lt_zero, not_true_eq_false, not_false_eq_true, true_and, and_true, false_and, and_false, or_true, true_or, false_or, or_false, and_self, if_true, if_false, Classical.not_not, Nat.add_assoc, Nat.zero_add, Nat.add_zero, bI_or, bI_True, bI_False, Bool.false_eq_true, reduceCtorEq, eq_self, gi_si, gl_si, gr_si, hn_si, hL_si, hX_si, gi_sl, gl_sl, gr_sl, hn_sl, ob_si, ar_si, ob_sl, ar_sl, ks_85_0, ks_85_1, ks_85_2, oP, rP0, oM, c_people_q hm hB hA hW])
      exact hQ _ (fun i j hij hj => c1 i j (by omega) hij hj) f1
  obtain ⟨v, h', r, rfl, A, f⟩ := Ret_ex (d := 4) (y := 85) (as := [.ref 23, .int (iN d)]) [some (.ref 23), some (.int (iN d)), none, none, none, none] rfl rfl (key (fun v h' => v = none ∧ Ch h' x d ∧ Fr Sp h h') fun h' a b => ⟨rfl, a, b⟩)
  exact ⟨h', r, A, f⟩
noncomputable def cbS (x : Mt) (d k p : Nat) (a : Int) : Int := if wy (xN x) k p < 6 ∧ p < wy (xN x) k p then a + chZ x d p (wy (xN x) k p) else a
noncomputable def cbZ (x : Mt) (d k : Nat) : Int := itr (cbS x d k) 0 (xN x) 0
theorem cbZ_b {x : Mt} (hW : Wf x) (d k : Nat) : -1000 ≤ cbZ x d k ∧ cbZ x d k ≤ 1000 := by
  have h : ∀ (m i : Nat) (a : Int), a - 99 * m ≤ itr (cbS x d k) i m a ∧ itr (cbS x d k) i m a ≤ a + 99 * m := by
    intro m
    induction m with
    | zero => intro i a; rw [itr_0]; omega
    | succ m ih =>
      intro i a
      rw [itr_s]
      have h2 := chZ_b hW d i (wy (xN x) k i)
      by_cases e : wy (xN x) k i < 6 ∧ i < wy (xN x) k i
      · rw [show cbS x d k i a = a + chZ x d i (wy (xN x) k i) from if_pos e]
        have h1 := ih (i + 1) (a + chZ x d i (wy (xN x) k i))
        omega
      · rw [show cbS x d k i a = a from if_neg e]
        have h1 := ih (i + 1) a
        omega
  have := h (xN x) 0 0
  have := hW.1
  unfold cbZ
  omega
theorem pch_a {h : Hp} {k p v : Nat} {a : Int} {w : Option Value} {x : Mt} {Q : Option Value → Hp → Prop} (hB : Bs h) (hA : At h 1 x) (hW : Wf x) (rm : Ret 1 143 [.ref 24, .int (iN k), .int (iN p)] h (some (.int (mI v))) h) (hp : p < xN x) (h6 : v < 6) (hl : p < v) {z : Int} (e : gi h 27 (p * 6 + v) = zI z) (hn : wp 2 86 4 [some (.ref 23), some (.int (iN k)), some (.int (zI (a + z))), some (.int (iN (p + 1))), some (.int (iN v))] [] h Q) : wp 2 86 4 [some (.ref 23), some (.int (iN k)), some (.int (zI a)), some (.int (iN p)), w] [] h Q := by
  have oP : ob h 23 5 := hB.ob (by decide) (by decide); have rP0 : gr h 23 0 = some 1 := hB.r (by decide); have rP1 : gr h 23 1 = some 7 := hB.r (by decide); have rP2 : gr h 23 2 = some 19 := hB.r (by decide); have rP3 : gr h 23 3 = some 24 := hB.r (by decide); have rP4 : gr h 23 4 = some 27 := hB.r (by decide); have oK : ob h 19 1 := hB.ob (by decide) (by decide); have oY : ob h 24 10 := hB.ob (by decide) (by decide); have a27 : ar h 1 27 := hB.ar (by decide) (by decide); have s27 : (SH 27).2 = 36 := (by decide); have hm : isM 1 := Or.inl rfl; have h7 : isM 7 := Or.inr (Or.inl rfl); have oM : ob h 1 3 := hB.ob (by decide) (by decide); have o7 : ob h 7 3 := hB.ob (by decide) (by decide)
  have wN := hW.1
  (refine wp_go 600 ks_86_0.2.2.2.2.1 ?_; simp (disch := first | assumption | (simp only [ob_si, ar_si, ob_sl, ar_sl]; assumption) | omega) only [ci_0, ci_1, ci_6, inc_i, ldA_a, ldI_i, oc_143, oc_22, p_0, p_10, p_12, p_2, p_3, p_30, p_44, p_46, p_6, p_62, p_80_1, p_80_3, p_81_2, p_9, p_90, wpn_succ, wpn_zero, stp_h, lk_0, lk_s, st1_0, st1_1, st1_2, st2_0, st2_1, st2_2, kj_i, kj_a, kj_l, kj_n, cat_n, cat_i, cat_a, cat_u, cat_l, vc_i, vc_a, rv_s, tl_n, tl_s, Cal'_s, List.length_cons, List.length_nil, i0, i1, iNd, iN_lt, iN_le, iN_eq, iN_add, iN_mul, iN_mod, iN_sub, iN_div, iN_clamp, iN_inb, zle_N, zlt_N, zN_le, zN_lt, zN_eq, Nz_eq, mI_t, mI_f, bI_0, bI_1, bI_t, bI_f, dltT, dltF, dleT, dleF, deqT, deqF, Nat.not_lt_zero, not_true_eq_false, not_false_eq_true, true_and, and_true, false_and, and_false, or_true, true_or, false_or, or_false, and_self, if_true, if_false, Classical.not_not, Nat.add_assoc, Nat.zero_add, Nat.add_zero, bI_or, bI_True, bI_False, Bool.false_eq_true, reduceCtorEq, eq_self, gi_si, gl_si, gr_si, hn_si, hL_si, hX_si, gi_sl, gl_sl, gr_sl, hn_sl, ob_si, ar_si, ob_sl, ar_sl, ks_86_0, ks_86_1, oP, rP0, rP1, rP2, rP3, rP4, oK, oY, a27, o7, oM, oM, c_people_q hm hB hA hW, Cal_eq rm, c_cell_q, e, z_add])
  exact hn
theorem pch_b {h : Hp} {k p v : Nat} {a : Int} {w : Option Value} {x : Mt} {Q : Option Value → Hp → Prop} (hB : Bs h) (hA : At h 1 x) (hW : Wf x) (rm : Ret 1 143 [.ref 24, .int (iN k), .int (iN p)] h (some (.int (mI v))) h) (hp : p < xN x) (h6 : v < 6) (hl : ¬ p < v) (hn : wp 2 86 4 [some (.ref 23), some (.int (iN k)), some (.int (zI a)), some (.int (iN (p + 1))), some (.int (iN v))] [] h Q) : wp 2 86 4 [some (.ref 23), some (.int (iN k)), some (.int (zI a)), some (.int (iN p)), w] [] h Q := by
  have oP : ob h 23 5 := hB.ob (by decide) (by decide); have rP0 : gr h 23 0 = some 1 := hB.r (by decide); have rP1 : gr h 23 1 = some 7 := hB.r (by decide); have rP2 : gr h 23 2 = some 19 := hB.r (by decide); have rP3 : gr h 23 3 = some 24 := hB.r (by decide); have rP4 : gr h 23 4 = some 27 := hB.r (by decide); have oK : ob h 19 1 := hB.ob (by decide) (by decide); have oY : ob h 24 10 := hB.ob (by decide) (by decide); have a27 : ar h 1 27 := hB.ar (by decide) (by decide); have s27 : (SH 27).2 = 36 := (by decide); have hm : isM 1 := Or.inl rfl; have h7 : isM 7 := Or.inr (Or.inl rfl); have oM : ob h 1 3 := hB.ob (by decide) (by decide); have o7 : ob h 7 3 := hB.ob (by decide) (by decide)
  have wN := hW.1
  (refine wp_go 600 ks_86_0.2.2.2.2.1 ?_; simp (disch := first | assumption | (simp only [ob_si, ar_si, ob_sl, ar_sl]; assumption) | omega) only [ci_0, ci_1, ci_6, inc_i, ldA_a, ldI_i, oc_143, oc_22, p_0, p_10, p_12, p_2, p_3, p_30, p_44, p_46, p_6, p_62, p_80_1, p_80_3, p_81_2, p_9, p_90, wpn_succ, wpn_zero, stp_h, lk_0, lk_s, st1_0, st1_1, st1_2, st2_0, st2_1, st2_2, kj_i, kj_a, kj_l, kj_n, cat_n, cat_i, cat_a, cat_u, cat_l, vc_i, vc_a, rv_s, tl_n, tl_s, Cal'_s, List.length_cons, List.length_nil, i0, i1, iNd, iN_lt, iN_le, iN_eq, iN_add, iN_mul, iN_mod, iN_sub, iN_div, iN_clamp, iN_inb, zle_N, zlt_N, zN_le, zN_lt, zN_eq, Nz_eq, mI_t, mI_f, bI_0, bI_1, bI_t, bI_f, dltT, dltF, dleT, dleF, deqT, deqF, Nat.not_lt_zero, not_true_eq_false, not_false_eq_true, true_and, and_true, false_and, and_false, or_true, true_or, false_or, or_false, and_self, if_true, if_false, Classical.not_not, Nat.add_assoc, Nat.zero_add, Nat.add_zero, bI_or, bI_True, bI_False, Bool.false_eq_true, reduceCtorEq, eq_self, gi_si, gl_si, gr_si, hn_si, hL_si, hX_si, gi_sl, gl_sl, gr_sl, hn_sl, ob_si, ar_si, ob_sl, ar_sl, ks_86_0, ks_86_1, oP, rP0, rP1, rP2, rP3, rP4, oK, oY, a27, o7, oM, oM, c_people_q hm hB hA hW, Cal_eq rm])
  exact hn
theorem pch_c {h : Hp} {k p : Nat} {a : Int} {u : Int32} {w : Option Value} {x : Mt} {Q : Option Value → Hp → Prop} (hB : Bs h) (hA : At h 1 x) (hW : Wf x) (rm : Ret 1 143 [.ref 24, .int (iN k), .int (iN p)] h (some (.int u)) h) (hp : p < xN x) (hu : u ≤ iN p) (hn : wp 2 86 4 [some (.ref 23), some (.int (iN k)), some (.int (zI a)), some (.int (iN (p + 1))), some (.int u)] [] h Q) : wp 2 86 4 [some (.ref 23), some (.int (iN k)), some (.int (zI a)), some (.int (iN p)), w] [] h Q := by
  have oP : ob h 23 5 := hB.ob (by decide) (by decide); have rP0 : gr h 23 0 = some 1 := hB.r (by decide); have rP1 : gr h 23 1 = some 7 := hB.r (by decide); have rP2 : gr h 23 2 = some 19 := hB.r (by decide); have rP3 : gr h 23 3 = some 24 := hB.r (by decide); have rP4 : gr h 23 4 = some 27 := hB.r (by decide); have oK : ob h 19 1 := hB.ob (by decide) (by decide); have oY : ob h 24 10 := hB.ob (by decide) (by decide); have a27 : ar h 1 27 := hB.ar (by decide) (by decide); have s27 : (SH 27).2 = 36 := (by decide); have hm : isM 1 := Or.inl rfl; have h7 : isM 7 := Or.inr (Or.inl rfl); have oM : ob h 1 3 := hB.ob (by decide) (by decide); have o7 : ob h 7 3 := hB.ob (by decide) (by decide)
  have wN := hW.1
  (refine wp_go 600 ks_86_0.2.2.2.2.1 ?_; simp (disch := first | assumption | (simp only [ob_si, ar_si, ob_sl, ar_sl]; assumption) | omega) only [ci_0, ci_1, ci_6, inc_i, ldA_a, ldI_i, oc_143, oc_22, p_0, p_10, p_12, p_2, p_3, p_30, p_44, p_46, p_6, p_62, p_80_1, p_80_3, p_81_2, p_9, p_90, wpn_succ, wpn_zero, stp_h, lk_0, lk_s, st1_0, st1_1, st1_2, st2_0, st2_1, st2_2, kj_i, kj_a, kj_l, kj_n, cat_n, cat_i, cat_a, cat_u, cat_l, vc_i, vc_a, rv_s, tl_n, tl_s, Cal'_s, List.length_cons, List.length_nil, i0, i1, iNd, iN_lt, iN_le, iN_eq, iN_add, iN_mul, iN_mod, iN_sub, iN_div, iN_clamp, iN_inb, zle_N, zlt_N, zN_le, zN_lt, zN_eq, Nz_eq, mI_t, mI_f, bI_0, bI_1, bI_t, bI_f, dltT, dltF, dleT, dleF, deqT, deqF, Nat.not_lt_zero, not_true_eq_false, not_false_eq_true, true_and, and_true, false_and, and_false, or_true, true_or, false_or, or_false, and_self, if_true, if_false, Classical.not_not, Nat.add_assoc, Nat.zero_add, Nat.add_zero, bI_or, bI_True, bI_False, Bool.false_eq_true, reduceCtorEq, eq_self, gi_si, gl_si, gr_si, hn_si, hL_si, hX_si, gi_sl, gl_sl, gr_sl, hn_sl, ob_si, ar_si, ob_sl, ar_sl, ks_86_0, ks_86_1, oP, rP0, rP1, rP2, rP3, rP4, oK, oY, a27, o7, oM, oM, c_people_q hm hB hA hW, Cal_eq rm, hu])
  exact hn
theorem pch_d {h : Hp} {k : Nat} {a : Int} {w : Option Value} {x : Mt} {Q : Option Value → Hp → Prop} (hB : Bs h) (hA : At h 1 x) (hW : Wf x) (hQ : Q (some (.int (zI a))) h) : wp 2 86 4 [some (.ref 23), some (.int (iN k)), some (.int (zI a)), some (.int (iN (xN x))), w] [] h Q := by
  have oP : ob h 23 5 := hB.ob (by decide) (by decide); have rP0 : gr h 23 0 = some 1 := hB.r (by decide); have rP1 : gr h 23 1 = some 7 := hB.r (by decide); have rP2 : gr h 23 2 = some 19 := hB.r (by decide); have rP3 : gr h 23 3 = some 24 := hB.r (by decide); have rP4 : gr h 23 4 = some 27 := hB.r (by decide); have oK : ob h 19 1 := hB.ob (by decide) (by decide); have oY : ob h 24 10 := hB.ob (by decide) (by decide); have a27 : ar h 1 27 := hB.ar (by decide) (by decide); have s27 : (SH 27).2 = 36 := (by decide); have hm : isM 1 := Or.inl rfl; have h7 : isM 7 := Or.inr (Or.inl rfl); have oM : ob h 1 3 := hB.ob (by decide) (by decide); have o7 : ob h 7 3 := hB.ob (by decide) (by decide)
  have wN := hW.1
  (refine wp_go 600 ks_86_0.2.2.2.2.1 ?_; simp (disch := first | assumption | (simp only [ob_si, ar_si, ob_sl, ar_sl]; assumption) | omega) only [ci_0, ci_1, ci_6, inc_i, ldA_a, ldI_i, oc_143, oc_22, p_0, p_10, p_12, p_2, p_3, p_30, p_44, p_46, p_6, p_62, p_80_1, p_80_3, p_81_2, p_9, p_90, wpn_succ, wpn_zero, stp_h, lk_0, lk_s, st1_0, st1_1, st1_2, st2_0, st2_1, st2_2, kj_i, kj_a, kj_l, kj_n, cat_n, cat_i, cat_a, cat_u, cat_l, vc_i, vc_a, rv_s, tl_n, tl_s, Cal'_s, List.length_cons, List.length_nil, i0, i1, iNd, iN_lt, iN_le, iN_eq, iN_add, iN_mul, iN_mod, iN_sub, iN_div, iN_clamp, iN_inb, zle_N, zlt_N, zN_le, zN_lt, zN_eq, Nz_eq, mI_t, mI_f, bI_0, bI_1, bI_t, bI_f, dltT, dltF, dleT, dleF, deqT, deqF, Nat.not_lt_zero, not_true_eq_false, not_false_eq_true, true_and, and_true, false_and, and_false, or_true, true_or, false_or, or_false, and_self, if_true, if_false, Classical.not_not, Nat.add_assoc, Nat.zero_add, Nat.add_zero, bI_or, bI_True, bI_False, Bool.false_eq_true, reduceCtorEq, eq_self, gi_si, gl_si, gr_si, hn_si, hL_si, hX_si, gi_sl, gl_sl, gr_sl, hn_sl, ob_si, ar_si, ob_sl, ar_sl, ks_86_0, ks_86_1, oP, rP0, rP1, rP2, rP3, rP4, oK, oY, a27, o7, oM, oM, c_people_q hm hB hA hW])
  exact hQ
theorem pch_0 {h : Hp} {k : Nat} {Q : Option Value → Hp → Prop} (hn : wp 2 86 4 [some (.ref 23), some (.int (iN k)), some (.int (iN 0)), some (.int (iN 0)), none] [] h Q) : wp 2 86 0 [some (.ref 23), some (.int (iN k)), none, none, none] [] h Q := by
  (refine wp_go 600 ks_86_0.1 ?_; simp (disch := first | assumption | (simp only [ob_si, ar_si, ob_sl, ar_sl]; assumption) | omega) only [ci_0, ci_1, ci_6, inc_i, ldA_a, ldI_i, oc_143, oc_22, p_0, p_10, p_12, p_2, p_3, p_30, p_44, p_46, p_6, p_62, p_80_1, p_80_3, p_81_2, p_9, p_90, wpn_succ, wpn_zero, stp_h, lk_0, lk_s, st1_0, st1_1, st1_2, st2_0, st2_1, st2_2, kj_i, kj_a, kj_l, kj_n, cat_n, cat_i, cat_a, cat_u, cat_l, vc_i, vc_a, rv_s, tl_n, tl_s, Cal'_s, List.length_cons, List.length_nil, i0, i1, iNd, iN_lt, iN_le, iN_eq, iN_add, iN_mul, iN_mod, iN_sub, iN_div, iN_clamp, iN_inb, zle_N, zlt_N, zN_le, zN_lt, zN_eq, Nz_eq, mI_t, mI_f, bI_0, bI_1, bI_t, bI_f, dltT, dltF, dleT, dleF, deqT, deqF, Nat.not_lt_zero, not_true_eq_false, not_false_eq_true, true_and, and_true, false_and, and_false, or_true, true_or, false_or, or_false, and_self, if_true, if_false, Classical.not_not, Nat.add_assoc, Nat.zero_add, Nat.add_zero, bI_or, bI_True, bI_False, Bool.false_eq_true, reduceCtorEq, eq_self, gi_si, gl_si, gr_si, hn_si, hL_si, hX_si, gi_sl, gl_sl, gr_sl, hn_sl, ob_si, ar_si, ob_sl, ar_sl, ks_86_0, ks_86_1])
  exact hn
theorem p_change {h : Hp} {d k : Nat} {x : Mt} (hB : Bs h) (hA : At h 1 x) (hW : Wf x) (hC : Ch h x d) (hY : Wl h (xN x)) (hk : k < cw (xN x)) : Ret 2 86 [.ref 23, .int (iN k)] h (some (.int (zI (cbZ x d k)))) (h) := by
  refine Ret_L [some (.ref 23), some (.int (iN k)), none, none, none] rfl rfl fun Q hQ => ?_
  have wN := hW.1
  refine pch_0 ?_
  suffices hz : ∀ u, u = zI 0 → wp 2 86 4 [some (.ref 23), some (.int (iN k)), some (.int u), some (.int (iN 0)), none] [] h Q from hz _ z_0
  rintro _ rfl
  refine wp_fold (fun p a (w : Option Value) => [some (.ref 23), some (.int (iN k)), some (.int (zI a)), some (.int (iN p)), w]) (cbS x d k) (xN x) ?_ (xN x) 0 0 none (by omega) (fun w => pch_d hB hA hW hQ)
  intro p a w hp hn
  have w2 := fun h6 => ((wy_ok wN hk hp).2 h6).1
  have rm := y_mate hB hY wN hk hp
  by_cases h6 : wy (xN x) k p < 6
  · by_cases hl : p < wy (xN x) k p
    · rw [cbS, if_pos ⟨h6, hl⟩] at hn
      exact pch_a hB hA hW rm hp h6 hl (hC p _ hl (w2 h6)) (hn _)
    · rw [cbS, if_neg (fun q => hl q.2)] at hn
      exact pch_b hB hA hW rm hp h6 hl (hn _)
  · rw [cbS, if_neg (fun q => h6 q.1)] at hn
    exact pch_c hB hA hW rm hp (by rw [mI_f h6, zle_N (by omega) (by omega) (by omega)]; trivial) (hn _)
theorem p_change_q {h : Hp} {d k : Nat} {x : Mt} (hB : Bs h) (hA : At h 1 x) (hW : Wf x) (hC : Ch h x d) (hY : Wl h (xN x)) (hk : k < cw (xN x)) {e : Nat} (hd : 2 ≤ e) (K : Option Value → Hp → Prop) : Cal e 86 [.ref 23, .int (iN k)] h K = K (some (.int (zI (cbZ x d k)))) (h) := Cal_eq (p_change (hB := hB) (hA := hA) (hW := hW) (hC := hC) (hY := hY) (hk := hk)) hd K
noncomputable def bwS (x : Mt) (d k a : Nat) : Nat := if cbZ x d k < cbZ x d a then k else a
noncomputable def bwN (x : Mt) (d : Nat) : Nat := itr (bwS x d) 1 (cw (xN x) - 1) 0
theorem p_best {h : Hp} {d : Nat} {x : Mt} (hB : Bs h) (hA : At h 1 x) (hW : Wf x) (hd : d ≤ 99) : ∃ h', Ret 11 84 [.ref 23, .int (iN d)] h (some (.int (iN (bwN x d)))) h' ∧ Ch h' x d ∧ Wl h' (xN x) ∧ bwN x d < cw (xN x) ∧ Fr Sp h h' := by
  have wN := hW.1
  have hc := wyL_le (xN x) (by omega)
  have oP : ob h 23 5 := hB.ob (by decide) (by decide); have rP0 : gr h 23 0 = some 1 := hB.r (by decide); have rP1 : gr h 23 1 = some 7 := hB.r (by decide); have rP2 : gr h 23 2 = some 19 := hB.r (by decide); have rP3 : gr h 23 3 = some 24 := hB.r (by decide); have rP4 : gr h 23 4 = some 27 := hB.r (by decide); have oK : ob h 19 1 := hB.ob (by decide) (by decide); have oY : ob h 24 10 := hB.ob (by decide) (by decide); have a27 : ar h 1 27 := hB.ar (by decide) (by decide); have s27 : (SH 27).2 = 36 := (by decide); have hm : isM 1 := Or.inl rfl; have h7 : isM 7 := Or.inr (Or.inl rfl); have oM : ob h 1 3 := hB.ob (by decide) (by decide); have o7 : ob h 7 3 := hB.ob (by decide) (by decide)
  obtain ⟨h1, r1, C1, f1⟩ := p_meas hB hA hW hd
  have B1 := f1.bs hB
  have A1 := At1_p hA f1
  obtain ⟨h2, r2, Y2, f2⟩ := y_list (n := xN x) B1 wN
  have B2 := f2.bs B1
  have A2 := At1_p A1 (Sp_w f2)
  have C2 : Ch h2 x d := fun i j hij hj => by rw [f2.i (by unfold Sw; omega)]; exact C1 i j hij hj
  have oP1 : ob h1 23 5 := B1.ob (by decide) (by decide)
  have q0 : gr h1 23 0 = some 1 := B1.r (by decide)
  have q3 : gr h1 23 3 = some 24 := B1.r (by decide)
  have oY1 : ob h1 24 10 := B1.ob (by decide) (by decide)
  have oM1 : ob h1 1 3 := B1.ob (by decide) (by decide)
  have oP2 : ob h2 23 5 := B2.ob (by decide) (by decide)
  have q32 : gr h2 23 3 = some 24 := B2.r (by decide)
  have oY2 : ob h2 24 10 := B2.ob (by decide) (by decide)
  have hlt : bwN x d < cw (xN x) := by
    refine itr_inv2 (P := fun a => a < cw (xN x)) _ _ _ (fun j a h1 h2 ha => ?_) (by omega)
    unfold bwS
    split <;> omega
  refine ⟨h2, ?_, C2, Y2, hlt, f1.tr (Sp_w f2)⟩
  refine Ret_L [some (.ref 23), some (.int (iN d)), none, none] rfl rfl fun Q hQ => ?_
  (refine wp_go 600 ks_84_0.1 ?_; simp (disch := first | assumption | (simp only [ob_si, ar_si, ob_sl, ar_sl]; assumption) | omega) only [ci_0, ci_1, inc_i, ldA_a, ldI_i, oc_141, oc_142, oc_22, oc_85, oc_86, p_0, p_2, p_3, p_30, p_44, p_6, p_62, p_80_1, p_80_2, p_9, p_90, wpn_succ, wpn_zero, stp_h, lk_0, lk_s, st1_0, st1_1, st1_2, st2_0, st2_1, st2_2, kj_i, kj_a, kj_l, kj_n, cat_n, cat_i, cat_a, cat_u, cat_l, vc_i, vc_a, rv_s, tl_n, tl_s, Cal'_s, List.length_cons, List.length_nil, i0, i1, iNd, iN_lt, iN_le, iN_eq, iN_add, iN_mul, iN_mod, iN_sub, iN_div, iN_clamp, iN_inb, zle_N, zlt_N, zN_le, zN_lt, zN_eq, Nz_eq, mI_t, mI_f, bI_0, bI_1, bI_t, bI_f, dltT, dltF, dleT, dleF, deqT, deqF, Nat.not_lt_zero, not_true_eq_false, not_false_eq_true, true_and, and_true, false_and, and_false, or_true, true_or, false_or, or_false, and_self, if_true, if_false, Classical.not_not, Nat.add_assoc, Nat.zero_add, Nat.add_zero, bI_or, bI_True, bI_False, Bool.false_eq_true, reduceCtorEq, eq_self, gi_si, gl_si, gr_si, hn_si, hL_si, hX_si, gi_sl, gl_sl, gr_sl, hn_sl, ob_si, ar_si, ob_sl, ar_sl, ks_84_0, ks_84_1, oP, rP0, rP1, rP2, rP3, rP4, oK, oY, a27, o7, oM, Cal_eq r1, oP1, q0, q3, oY1, oM1, c_people_q hm B1 A1 hW, Cal_eq r2])
  refine wp_loop (fun k L h' => h' = h2 ∧ ∃ a, a < cw (xN x) ∧ itr (bwS x d) k (cw (xN x) - k) a = bwN x d ∧ L = [some (.ref 23), some (.int (iN d)), some (.int (iN a)), some (.int (iN k))]) (cw (xN x)) ?_ ?_ (cw (xN x) - 1) 1 _ h2 (by omega) ⟨rfl, 0, by omega, rfl, rfl⟩
  · rintro k L h' hk ⟨rfl, a, ha, he, rfl⟩ hn
    have b1 := cbZ_b hW d k
    have b2 := cbZ_b hW d a
    rw [show cw (xN x) - k = cw (xN x) - (k + 1) + 1 by omega, itr_s] at he
    by_cases hcc : cbZ x d k < cbZ x d a
    · rw [bwS, if_pos hcc] at he
      (refine wp_go 600 ks_84_0.2.2.2.2.2.2.2.2.2.2.2.2.2.1 ?_; simp (disch := first | assumption | (simp only [ob_si, ar_si, ob_sl, ar_sl]; assumption) | omega) only [ci_0, ci_1, inc_i, ldA_a, ldI_i, oc_141, oc_142, oc_22, oc_85, oc_86, p_0, p_2, p_3, p_30, p_44, p_6, p_62, p_80_1, p_80_2, p_9, p_90, wpn_succ, wpn_zero, stp_h, lk_0, lk_s, st1_0, st1_1, st1_2, st2_0, st2_1, st2_2, kj_i, kj_a, kj_l, kj_n, cat_n, cat_i, cat_a, cat_u, cat_l, vc_i, vc_a, rv_s, tl_n, tl_s, Cal'_s, List.length_cons, List.length_nil, i0, i1, iNd, iN_lt, iN_le, iN_eq, iN_add, iN_mul, iN_mod, iN_sub, iN_div, iN_clamp, iN_inb, zle_N, zlt_N, zN_le, zN_lt, zN_eq, Nz_eq, mI_t, mI_f, bI_0, bI_1, bI_t, bI_f, dltT, dltF, dleT, dleF, deqT, deqF, Nat.not_lt_zero, not_true_eq_false, not_false_eq_true, true_and, and_true, false_and, and_false, or_true, true_or, false_or, or_false, and_self, if_true, if_false, Classical.not_not, Nat.add_assoc, Nat.zero_add, Nat.add_zero, bI_or, bI_True, bI_False, Bool.false_eq_true, reduceCtorEq, eq_self, gi_si, gl_si, gr_si, hn_si, hL_si, hX_si, gi_sl, gl_sl, gr_sl, hn_sl, ob_si, ar_si, ob_sl, ar_sl, ks_84_0, ks_84_1, oP2, q32, oY2, y_num_q B2 Y2 wN, p_change_q B2 A2 hW C2 Y2, z_lt, z_le, z_eq, Nz_lt, Nz_le, zN_lt2, zN_le2, diltT, diltF, dileT, dileF])
      exact hn _ _ ⟨rfl, k, hk, he, rfl⟩
    · rw [bwS, if_neg hcc] at he
      (refine wp_go 600 ks_84_0.2.2.2.2.2.2.2.2.2.2.2.2.2.1 ?_; simp (disch := first | assumption | (simp only [ob_si, ar_si, ob_sl, ar_sl]; assumption) | omega) only [ci_0, ci_1, inc_i, ldA_a, ldI_i, oc_141, oc_142, oc_22, oc_85, oc_86, p_0, p_2, p_3, p_30, p_44, p_6, p_62, p_80_1, p_80_2, p_9, p_90, wpn_succ, wpn_zero, stp_h, lk_0, lk_s, st1_0, st1_1, st1_2, st2_0, st2_1, st2_2, kj_i, kj_a, kj_l, kj_n, cat_n, cat_i, cat_a, cat_u, cat_l, vc_i, vc_a, rv_s, tl_n, tl_s, Cal'_s, List.length_cons, List.length_nil, i0, i1, iNd, iN_lt, iN_le, iN_eq, iN_add, iN_mul, iN_mod, iN_sub, iN_div, iN_clamp, iN_inb, zle_N, zlt_N, zN_le, zN_lt, zN_eq, Nz_eq, mI_t, mI_f, bI_0, bI_1, bI_t, bI_f, dltT, dltF, dleT, dleF, deqT, deqF, Nat.not_lt_zero, not_true_eq_false, not_false_eq_true, true_and, and_true, false_and, and_false, or_true, true_or, false_or, or_false, and_self, if_true, if_false, Classical.not_not, Nat.add_assoc, Nat.zero_add, Nat.add_zero, bI_or, bI_True, bI_False, Bool.false_eq_true, reduceCtorEq, eq_self, gi_si, gl_si, gr_si, hn_si, hL_si, hX_si, gi_sl, gl_sl, gr_sl, hn_sl, ob_si, ar_si, ob_sl, ar_sl, ks_84_0, ks_84_1, oP2, q32, oY2, y_num_q B2 Y2 wN, p_change_q B2 A2 hW C2 Y2, z_lt, z_le, z_eq, Nz_lt, Nz_le, zN_lt2, zN_le2, diltT, diltF, dileT, dileF])
      exact hn _ _ ⟨rfl, a, ha, he, rfl⟩
  · rintro L h' ⟨rfl, a, ha, he, rfl⟩
    rw [Nat.sub_self, itr_0] at he
    rw [he]
    (refine wp_go 600 ks_84_0.2.2.2.2.2.2.2.2.2.2.2.2.2.1 ?_; simp (disch := first | assumption | (simp only [ob_si, ar_si, ob_sl, ar_sl]; assumption) | omega) only [ci_0, ci_1, inc_i, ldA_a, ldI_i, oc_141, oc_142, oc_22, oc_85, oc_86, p_0, p_2, p_3, p_30, p_44, p_6, p_62, p_80_1, p_80_2, p_9, p_90, wpn_succ, wpn_zero, stp_h, lk_0, lk_s, st1_0, st1_1, st1_2, st2_0, st2_1, st2_2, kj_i, kj_a, kj_l, kj_n, cat_n, cat_i, cat_a, cat_u, cat_l, vc_i, vc_a, rv_s, tl_n, tl_s, Cal'_s, List.length_cons, List.length_nil, i0, i1, iNd, iN_lt, iN_le, iN_eq, iN_add, iN_mul, iN_mod, iN_sub, iN_div, iN_clamp, iN_inb, zle_N, zlt_N, zN_le, zN_lt, zN_eq, Nz_eq, mI_t, mI_f, bI_0, bI_1, bI_t, bI_f, dltT, dltF, dleT, dleF, deqT, deqF, Nat.not_lt_zero, not_true_eq_false, not_false_eq_true, true_and, and_true, false_and, and_false, or_true, true_or, false_or, or_false, and_self, if_true, if_false, Classical.not_not, Nat.add_assoc, Nat.zero_add, Nat.add_zero, bI_or, bI_True, bI_False, Bool.false_eq_true, reduceCtorEq, eq_self, gi_si, gl_si, gr_si, hn_si, hL_si, hX_si, gi_sl, gl_sl, gr_sl, hn_sl, ob_si, ar_si, ob_sl, ar_sl, ks_84_0, ks_84_1, oP2, q32, oY2, y_num_q B2 Y2 wN])
    exact hQ
theorem p_least {h : Hp} {d : Nat} {x : Mt} (hB : Bs h) (hA : At h 1 x) (hW : Wf x) (hd : d ≤ 99) : ∃ h', Ret 12 82 [.ref 23, .int (iN d)] h (some (.int (zI ((allQ x : Int) + cbZ x d (bwN x d))))) h' ∧ Fr Sp h h' := by
  have oP : ob h 23 5 := hB.ob (by decide) (by decide); have rP0 : gr h 23 0 = some 1 := hB.r (by decide); have rP1 : gr h 23 1 = some 7 := hB.r (by decide); have rP2 : gr h 23 2 = some 19 := hB.r (by decide); have rP3 : gr h 23 3 = some 24 := hB.r (by decide); have rP4 : gr h 23 4 = some 27 := hB.r (by decide); have oK : ob h 19 1 := hB.ob (by decide) (by decide); have oY : ob h 24 10 := hB.ob (by decide) (by decide); have a27 : ar h 1 27 := hB.ar (by decide) (by decide); have s27 : (SH 27).2 = 36 := (by decide); have hm : isM 1 := Or.inl rfl; have h7 : isM 7 := Or.inr (Or.inl rfl); have oM : ob h 1 3 := hB.ob (by decide) (by decide); have o7 : ob h 7 3 := hB.ob (by decide) (by decide)
  obtain ⟨h1, r1, C1, Y1, hlt, f1⟩ := p_best hB hA hW hd
  have B1 := f1.bs hB
  have A1 := At1_p hA f1
  have oP1 : ob h1 23 5 := B1.ob (by decide) (by decide)
  have q0 : gr h1 23 0 = some 1 := B1.r (by decide)
  have oM1 : ob h1 1 3 := B1.ob (by decide) (by decide)
  refine ⟨h1, ?_, f1⟩
  refine Ret_L [some (.ref 23), some (.int (iN d)), none] rfl rfl fun Q hQ => ?_
  (refine wp_go 600 ks_82_0.1 ?_; simp (disch := first | assumption | (simp only [ob_si, ar_si, ob_sl, ar_sl]; assumption) | omega) only [ldA_a, ldI_i, oc_47, oc_84, oc_86, p_0, p_10, p_2, p_3, p_62, p_80_1, p_80_2, p_90, wpn_succ, wpn_zero, stp_h, lk_0, lk_s, st1_0, st1_1, st1_2, st2_0, st2_1, st2_2, kj_i, kj_a, kj_l, kj_n, cat_n, cat_i, cat_a, cat_u, cat_l, vc_i, vc_a, rv_s, tl_n, tl_s, Cal'_s, List.length_cons, List.length_nil, i0, i1, iNd, iN_lt, iN_le, iN_eq, iN_add, iN_mul, iN_mod, iN_sub, iN_div, iN_clamp, iN_inb, zle_N, zlt_N, zN_le, zN_lt, zN_eq, Nz_eq, mI_t, mI_f, bI_0, bI_1, bI_t, bI_f, dltT, dltF, dleT, dleF, deqT, deqF, Nat.not_lt_zero, not_true_eq_false, not_false_eq_true, true_and, and_true, false_and, and_false, or_true, true_or, false_or, or_false, and_self, if_true, if_false, Classical.not_not, Nat.add_assoc, Nat.zero_add, Nat.add_zero, bI_or, bI_True, bI_False, Bool.false_eq_true, reduceCtorEq, eq_self, gi_si, gl_si, gr_si, hn_si, hL_si, hX_si, gi_sl, gl_sl, gr_sl, hn_sl, ob_si, ar_si, ob_sl, ar_sl, ks_82_0, oP, rP0, rP1, rP2, rP3, rP4, oK, oY, a27, o7, oM, Cal_eq r1, oP1, q0, oM1, c_allQ_q hm B1 A1 hW, p_change_q B1 A1 hW C1 Y1, Nz_add])
  exact hQ
theorem p_mateB {h : Hp} {d p : Nat} {x : Mt} (hB : Bs h) (hA : At h 1 x) (hW : Wf x) (hd : d ≤ 99) (hp : p < xN x) : ∃ h', Ret 12 83 [.ref 23, .int (iN d), .int (iN p)] h (some (.int (mI (wy (xN x) (bwN x d) p)))) h' ∧ Fr Sp h h' := by
  have oP : ob h 23 5 := hB.ob (by decide) (by decide); have rP0 : gr h 23 0 = some 1 := hB.r (by decide); have rP1 : gr h 23 1 = some 7 := hB.r (by decide); have rP2 : gr h 23 2 = some 19 := hB.r (by decide); have rP3 : gr h 23 3 = some 24 := hB.r (by decide); have rP4 : gr h 23 4 = some 27 := hB.r (by decide); have oK : ob h 19 1 := hB.ob (by decide) (by decide); have oY : ob h 24 10 := hB.ob (by decide) (by decide); have a27 : ar h 1 27 := hB.ar (by decide) (by decide); have s27 : (SH 27).2 = 36 := (by decide); have hm : isM 1 := Or.inl rfl; have h7 : isM 7 := Or.inr (Or.inl rfl); have oM : ob h 1 3 := hB.ob (by decide) (by decide); have o7 : ob h 7 3 := hB.ob (by decide) (by decide)
  have wN := hW.1
  obtain ⟨h1, r1, C1, Y1, hlt, f1⟩ := p_best hB hA hW hd
  have B1 := f1.bs hB
  have oP1 : ob h1 23 5 := B1.ob (by decide) (by decide)
  have q3 : gr h1 23 3 = some 24 := B1.r (by decide)
  have oY1 : ob h1 24 10 := B1.ob (by decide) (by decide)
  refine ⟨h1, ?_, f1⟩
  refine Ret_L [some (.ref 23), some (.int (iN d)), some (.int (iN p)), none] rfl rfl fun Q hQ => ?_
  (refine wp_go 600 ks_83_0.1 ?_; simp (disch := first | assumption | (simp only [ob_si, ar_si, ob_sl, ar_sl]; assumption) | omega) only [ldA_a, ldI_i, oc_143, oc_84, p_0, p_2, p_3, p_62, p_80_2, p_80_3, p_90, wpn_succ, wpn_zero, stp_h, lk_0, lk_s, st1_0, st1_1, st1_2, st2_0, st2_1, st2_2, kj_i, kj_a, kj_l, kj_n, cat_n, cat_i, cat_a, cat_u, cat_l, vc_i, vc_a, rv_s, tl_n, tl_s, Cal'_s, List.length_cons, List.length_nil, i0, i1, iNd, iN_lt, iN_le, iN_eq, iN_add, iN_mul, iN_mod, iN_sub, iN_div, iN_clamp, iN_inb, zle_N, zlt_N, zN_le, zN_lt, zN_eq, Nz_eq, bI_0, bI_1, bI_t, bI_f, dltT, dltF, dleT, dleF, deqT, deqF, Nat.not_lt_zero, not_true_eq_false, not_false_eq_true, true_and, and_true, false_and, and_false, or_true, true_or, false_or, or_false, and_self, if_true, if_false, Classical.not_not, Nat.add_assoc, Nat.zero_add, Nat.add_zero, bI_or, bI_True, bI_False, Bool.false_eq_true, reduceCtorEq, eq_self, gi_si, gl_si, gr_si, hn_si, hL_si, hX_si, gi_sl, gl_sl, gr_sl, hn_sl, ob_si, ar_si, ob_sl, ar_sl, ks_83_0, oP, rP0, rP1, rP2, rP3, rP4, oK, oY, a27, o7, oM, Cal_eq r1, oP1, q3, oY1, y_mate_q B1 Y1 wN])
  exact hQ
