/-! Mind's rest -/
theorem or_32 {a i : Nat} (ha : a < 32) (hi : i < 5) : a ||| 2 ^ i < 32 := Nat.or_lt_two_pow (n := 5) ha (Nat.pow_lt_pow_right (by decide) hi)
theorem shl_dec32 : ∀ i < 32, iN 1 <<< (iN i &&& 31) = iN (2 ^ i) := by
  simp only [iN_def]
  decide +kernel
theorem shl_eq32 {i : Nat} (hi : i < 32) : iN 1 <<< (iN i &&& 31) = iN (2 ^ i) := shl_dec32 i hi
theorem mbO_lt {x : Mt} {p c r : Nat} (h : mbO x p c = some r) : r < 100 := by
  unfold mbO at h
  split at h
  · exact fmO_lt h
  · cases h
noncomputable def bhS (x : Mt) (p c : Nat) (a : Option (Nat × Nat)) : Option (Nat × Nat) := match mbO x p c with
  | none => a
  | some w => match a with
    | none => some (c, w)
    | some (b, s) => if w < s ∨ (w = s ∧ bcN c < bcN b) then some (c, w) else some (b, s)
theorem bhS_n {x : Mt} {p c : Nat} {a : Option (Nat × Nat)} (h : mbO x p c = none) : bhS x p c a = a := by unfold bhS; rw [h]
theorem bhS_0 {x : Mt} {p c w : Nat} (h : mbO x p c = some w) : bhS x p c none = some (c, w) := by unfold bhS; rw [h]
theorem bhS_s {x : Mt} {p c w b s : Nat} (h : mbO x p c = some w) : bhS x p c (some (b, s)) = if w < s ∨ (w = s ∧ bcN c < bcN b) then some (c, w) else some (b, s) := by unfold bhS; rw [h]
noncomputable def bhN (x : Mt) (p : Nat) : Option (Nat × Nat) := itr (bhS x p) 0 32 none
noncomputable def bhA (a : Option (Nat × Nat)) : Int32 := match a with | none => zI (-9) | some (b, _) => iN b
noncomputable def bhW (a : Option (Nat × Nat)) : Int32 := match a with | none => zI (-9) | some (_, s) => iN s
noncomputable def bhP (a : Option (Nat × Nat)) : Prop := ∀ b s, a = some (b, s) → b < 32 ∧ s < 100
theorem d_best {h : Hp} {p : Nat} {x : Mt} (hB : Bs h) (hA : At h 1 x) (hW : Wf x) (hp : p < xN x) : ∃ h', Ret 5 66 [.ref 22, .int (iN p)] h (some (.int (bhA (bhN x p)))) h' ∧ Fr Sd h h' ∧ bhP (bhN x p) := by
  have key : ∀ Q : Option Value → Hp → Prop, (∀ h', Fr Sd h h' → bhP (bhN x p) → Q (some (.int (bhA (bhN x p)))) h') → wp 5 66 0 [some (.ref 22), some (.int (iN p)), none, none, none, none, none, none] [] h Q := by
    intro Q hQ
    (refine wp_go 600 ks_66_0.1 ?_; simp (disch := first | assumption | (simp only [ob_si, ar_si, ob_sl, ar_sl]; assumption) | omega) only [ci_0, ci_1, ci_31, cm_9, inc_i, ldA_a, ldI_i, oc_67, p_0, p_2, p_3, p_30, p_32, p_41, p_42, p_44, p_45, p_6, p_80_3, p_81_1, p_9, p_90, wpn_succ, wpn_zero, stp_h, lk_0, lk_s, st1_0, st1_1, st1_2, st2_0, st2_1, st2_2, kj_i, kj_a, kj_l, kj_n, cat_n, cat_i, cat_a, cat_u, cat_l, vc_i, vc_a, rv_s, tl_n, tl_s, Cal'_s, List.length_cons, List.length_nil, i0, i1, iNd, iN_lt, iN_le, iN_eq, iN_add, iN_mul, iN_mod, iN_sub, iN_div, iN_clamp, iN_inb, zle_N, zlt_N, zN_le, zN_lt, zN_eq, Nz_eq, mI_t, mI_f, bI_0, bI_1, bI_t, bI_f, dltT, dltF, dleT, dleF, deqT, deqF, Nat.not_lt_zero, not_true_eq_false, not_false_eq_true, true_and, and_true, false_and, and_false, or_true, true_or, false_or, or_false, and_self, if_true, if_false, Classical.not_not, Nat.add_assoc, Nat.zero_add, Nat.add_zero, bI_or, bI_True, bI_False, Bool.false_eq_true, reduceCtorEq, eq_self, gi_si, gl_si, gr_si, hn_si, hL_si, hX_si, gi_sl, gl_sl, gr_sl, hn_sl, ob_si, ar_si, ob_sl, ar_sl, ks_66_0, ks_66_1, ks_66_2])
    refine wp_loop (fun c L h' => Fr Sd h h' ∧ ∃ a w1 w2 w3, bhP a ∧ itr (bhS x p) c (32 - c) a = bhN x p ∧ L = [some (.ref 22), some (.int (iN p)), some (.int (bhA a)), some (.int (bhW a)), some (.int (iN c)), w1, w2, w3]) 32 ?_ ?_ 32 0 _ h (by omega) ⟨Fr.rf _ h, none, none, none, none, (fun b g e => (by cases e)), rfl, rfl⟩
    · rintro c L h' hc ⟨f, a, w1, w2, w3, ha, he, rfl⟩ hn
      replace hA := At1_d hA f
      replace hB := f.bs hB
      have oD : ob h' 22 4 := hB.ob (by decide) (by decide)
      obtain ⟨h1, r1, f1⟩ := d_mby (p := p) (c := c) hB hA hW hp hc
      rw [show 32 - c = 32 - (c + 1) + 1 by omega, itr_s] at he
      have bc := bcN_b c
      cases hm : mbO x p c with
      | none =>
        rw [bhS_n hm] at he
        rw [hm] at r1
        change Ret _ _ _ _ (some (.int (zI (-9)))) _ at r1
        (refine wp_go 600 ks_66_0.2.2.2.2.2.2.1 ?_; simp (disch := first | assumption | (simp only [ob_si, ar_si, ob_sl, ar_sl]; assumption) | omega) only [ci_0, ci_1, ci_31, cm_9, inc_i, ldA_a, ldI_i, oc_67, p_0, p_2, p_3, p_30, p_32, p_41, p_42, p_44, p_45, p_6, p_80_3, p_81_1, p_9, p_90, wpn_succ, wpn_zero, stp_h, lk_0, lk_s, st1_0, st1_1, st1_2, st2_0, st2_1, st2_2, kj_i, kj_a, kj_l, kj_n, cat_n, cat_i, cat_a, cat_u, cat_l, vc_i, vc_a, rv_s, tl_n, tl_s, Cal'_s, List.length_cons, List.length_nil, i0, i1, iNd, iN_lt, iN_le, iN_eq, iN_add, iN_mul, iN_mod, iN_sub, iN_div, iN_clamp, iN_inb, zle_N, zlt_N, zN_le, zN_lt, zN_eq, Nz_eq, mI_t, mI_f, bI_0, bI_1, bI_t, bI_f, dltT, dltF, dleT, dleF, deqT, deqF, Nat.not_lt_zero, not_true_eq_false, not_false_eq_true, true_and, and_true, false_and, and_false, or_true, true_or, false_or, or_false, and_self, if_true, if_false, Classical.not_not, Nat.add_assoc, Nat.zero_add, Nat.add_zero, bI_or, bI_True, bI_False, Bool.false_eq_true, reduceCtorEq, eq_self, gi_si, gl_si, gr_si, hn_si, hL_si, hX_si, gi_sl, gl_sl, gr_sl, hn_sl, ob_si, ar_si, ob_sl, ar_sl, ks_66_0, ks_66_1, ks_66_2, oD, Cal_eq r1])
        exact hn _ _ ⟨f.tr f1, a, _, _, _, ha, he, rfl⟩
      | some w =>
        have hw := mbO_lt hm
        rw [hm] at r1
        change Ret _ _ _ _ (some (.int (iN w))) _ at r1
        cases a with
        | none =>
          rw [bhS_0 hm] at he
          simp only [bhA, bhW]
          (refine wp_go 600 ks_66_0.2.2.2.2.2.2.1 ?_; simp (disch := first | assumption | (simp only [ob_si, ar_si, ob_sl, ar_sl]; assumption) | omega) only [ci_0, ci_1, ci_31, cm_9, inc_i, ldA_a, ldI_i, oc_67, p_0, p_2, p_3, p_30, p_32, p_41, p_42, p_44, p_45, p_6, p_80_3, p_81_1, p_9, p_90, wpn_succ, wpn_zero, stp_h, lk_0, lk_s, st1_0, st1_1, st1_2, st2_0, st2_1, st2_2, kj_i, kj_a, kj_l, kj_n, cat_n, cat_i, cat_a, cat_u, cat_l, vc_i, vc_a, rv_s, tl_n, tl_s, Cal'_s, List.length_cons, List.length_nil, i0, i1, iNd, iN_lt, iN_le, iN_eq, iN_add, iN_mul, iN_mod, iN_sub, iN_div, iN_clamp, iN_inb, zle_N, zlt_N, zN_le, zN_lt, zN_eq, Nz_eq, mI_t, mI_f, bI_0, bI_1, bI_t, bI_f, dltT, dltF, dleT, dleF, deqT, deqF, Nat.not_lt_zero, not_true_eq_false, not_false_eq_true, true_and, and_true, false_and, and_false, or_true, true_or, false_or, or_false, and_self, if_true, if_false, Classical.not_not, Nat.add_assoc, Nat.zero_add, Nat.add_zero, bI_or, bI_True, bI_False, Bool.false_eq_true, reduceCtorEq, eq_self, gi_si, gl_si, gr_si, hn_si, hL_si, hX_si, gi_sl, gl_sl, gr_sl, hn_sl, ob_si, ar_si, ob_sl, ar_sl, ks_66_0, ks_66_1, ks_66_2, oD, Cal_eq r1])
          exact hn _ _ ⟨f.tr f1, some (c, w), _, _, _, (fun b s e => by simp only [Option.some.injEq, Prod.mk.injEq] at e; omega), he, rfl⟩
        | some z =>
          obtain ⟨b, s⟩ := z
          obtain ⟨hb, hs⟩ := ha b s rfl
          have bb := bcN_b b
          rw [bhS_s hm] at he
          simp only [bhA, bhW]
          have P1 : bhP (some (c, w)) := fun b s e => by simp only [Option.some.injEq, Prod.mk.injEq] at e; omega
          by_cases l1 : w < s
          · rw [if_pos (Or.inl l1)] at he
            (refine wp_go 600 ks_66_0.2.2.2.2.2.2.1 ?_; simp (disch := first | assumption | (simp only [ob_si, ar_si, ob_sl, ar_sl]; assumption) | omega) only [ci_0, ci_1, ci_31, cm_9, inc_i, ldA_a, ldI_i, oc_67, p_0, p_2, p_3, p_30, p_32, p_41, p_42, p_44, p_45, p_6, p_80_3, p_81_1, p_9, p_90, wpn_succ, wpn_zero, stp_h, lk_0, lk_s, st1_0, st1_1, st1_2, st2_0, st2_1, st2_2, kj_i, kj_a, kj_l, kj_n, cat_n, cat_i, cat_a, cat_u, cat_l, vc_i, vc_a, rv_s, tl_n, tl_s, Cal'_s, List.length_cons, List.length_nil, i0, i1, iNd, iN_lt, iN_le, iN_eq, iN_add, iN_mul, iN_mod, iN_sub, iN_div, iN_clamp, iN_inb, zle_N, zlt_N, zN_le, zN_lt, zN_eq, Nz_eq, mI_t, mI_f, bI_0, bI_1, bI_t, bI_f, dltT, dltF, dleT, dleF, deqT, deqF, Nat.not_lt_zero, not_true_eq_false, not_false_eq_true, true_and, and_true, false_and, and_false, or_true, true_or, false_or, or_false, and_self, if_true, if_false, Classical.not_not, Nat.add_assoc, Nat.zero_add, Nat.add_zero, bI_or, bI_True, bI_False, Bool.false_eq_true, reduceCtorEq, eq_self, gi_si, gl_si, gr_si, hn_si, hL_si, hX_si, gi_sl, gl_sl, gr_sl, hn_sl, ob_si, ar_si, ob_sl, ar_sl, ks_66_0, ks_66_1, ks_66_2, oD, Cal_eq r1, j_bc_q])
            exact hn _ _ ⟨f.tr f1, some (c, w), _, _, _, P1, he, rfl⟩
          · by_cases l2 : w = s
            · by_cases l3 : bcN c < bcN b
              · rw [if_pos (Or.inr ⟨l2, l3⟩)] at he
                (refine wp_go 600 ks_66_0.2.2.2.2.2.2.1 ?_; simp (disch := first | assumption | (simp only [ob_si, ar_si, ob_sl, ar_sl]; assumption) | omega) only [ci_0, ci_1, ci_31, cm_9, inc_i, ldA_a, ldI_i, oc_67, p_0, p_2, p_3, p_30, p_32, p_41, p_42, p_44, p_45, p_6, p_80_3, p_81_1, p_9, p_90, wpn_succ, wpn_zero, stp_h, lk_0, lk_s, st1_0, st1_1, st1_2, st2_0, st2_1, st2_2, kj_i, kj_a, kj_l, kj_n, cat_n, cat_i, cat_a, cat_u, cat_l, vc_i, vc_a, rv_s, tl_n, tl_s, Cal'_s, List.length_cons, List.length_nil, i0, i1, iNd, iN_lt, iN_le, iN_eq, iN_add, iN_mul, iN_mod, iN_sub, iN_div, iN_clamp, iN_inb, zle_N, zlt_N, zN_le, zN_lt, zN_eq, Nz_eq, mI_t, mI_f, bI_0, bI_1, bI_t, bI_f, dltT, dltF, dleT, dleF, deqT, deqF, Nat.not_lt_zero, not_true_eq_false, not_false_eq_true, true_and, and_true, false_and, and_false, or_true, true_or, false_or, or_false, and_self, if_true, if_false, Classical.not_not, Nat.add_assoc, Nat.zero_add, Nat.add_zero, bI_or, bI_True, bI_False, Bool.false_eq_true, reduceCtorEq, eq_self, gi_si, gl_si, gr_si, hn_si, hL_si, hX_si, gi_sl, gl_sl, gr_sl, hn_sl, ob_si, ar_si, ob_sl, ar_sl, ks_66_0, ks_66_1, ks_66_2, oD, Cal_eq r1, j_bc_q])
                exact hn _ _ ⟨f.tr f1, some (c, w), _, _, _, P1, he, rfl⟩
              · rw [if_neg (by omega)] at he
                (refine wp_go 600 ks_66_0.2.2.2.2.2.2.1 ?_; simp (disch := first | assumption | (simp only [ob_si, ar_si, ob_sl, ar_sl]; assumption) | omega) only [ci_0, ci_1, ci_31, cm_9, inc_i, ldA_a, ldI_i, oc_67, p_0, p_2, p_3, p_30, p_32, p_41, p_42, p_44, p_45, p_6, p_80_3, p_81_1, p_9, p_90, wpn_succ, wpn_zero, stp_h, lk_0, lk_s, st1_0, st1_1, st1_2, st2_0, st2_1, st2_2, kj_i, kj_a, kj_l, kj_n, cat_n, cat_i, cat_a, cat_u, cat_l, vc_i, vc_a, rv_s, tl_n, tl_s, Cal'_s, List.length_cons, List.length_nil, i0, i1, iNd, iN_lt, iN_le, iN_eq, iN_add, iN_mul, iN_mod, iN_sub, iN_div, iN_clamp, iN_inb, zle_N, zlt_N, zN_le, zN_lt, zN_eq, Nz_eq, mI_t, mI_f, bI_0, bI_1, bI_t, bI_f, dltT, dltF, dleT, dleF, deqT, deqF, Nat.not_lt_zero, not_true_eq_false, not_false_eq_true, true_and, and_true, false_and, and_false, or_true, true_or, false_or, or_false, and_self, if_true, if_false, Classical.not_not, Nat.add_assoc, Nat.zero_add, Nat.add_zero, bI_or, bI_True, bI_False, Bool.false_eq_true, reduceCtorEq, eq_self, gi_si, gl_si, gr_si, hn_si, hL_si, hX_si, gi_sl, gl_sl, gr_sl, hn_sl, ob_si, ar_si, ob_sl, ar_sl, ks_66_0, ks_66_1, ks_66_2, oD, Cal_eq r1, j_bc_q])
                exact hn _ _ ⟨f.tr f1, some (b, s), _, _, _, ha, he, rfl⟩
            · rw [if_neg (by omega)] at he
              (refine wp_go 600 ks_66_0.2.2.2.2.2.2.1 ?_; simp (disch := first | assumption | (simp only [ob_si, ar_si, ob_sl, ar_sl]; assumption) | omega) only [ci_0, ci_1, ci_31, cm_9, inc_i, ldA_a, ldI_i, oc_67, p_0, p_2, p_3, p_30, p_32, p_41, p_42, p_44, p_45, p_6, p_80_3, p_81_1, p_9, p_90, wpn_succ, wpn_zero, stp_h, lk_0, lk_s, st1_0, st1_1, st1_2, st2_0, st2_1, st2_2, kj_i, kj_a, kj_l, kj_n, cat_n, cat_i, cat_a, cat_u, cat_l, vc_i, vc_a, rv_s, tl_n, tl_s, Cal'_s, List.length_cons, List.length_nil, i0, i1, iNd, iN_lt, iN_le, iN_eq, iN_add, iN_mul, iN_mod, iN_sub, iN_div, iN_clamp, iN_inb, zle_N, zlt_N, zN_le, zN_lt, zN_eq, Nz_eq, mI_t, mI_f, bI_0, bI_1, bI_t, bI_f, dltT, dltF, dleT, dleF, deqT, deqF, Nat.not_lt_zero, not_true_eq_false, not_false_eq_true, true_and, and_true, false_and, and_false, or_true, true_or, false_or, or_false, and_self, if_true, if_false, Classical.not_not, Nat.add_assoc, Nat.zero_add, Nat.add_zero, bI_or, bI_True, bI_False, Bool.false_eq_true, reduceCtorEq, eq_self, gi_si, gl_si, gr_si, hn_si, hL_si, hX_si, gi_sl, gl_sl, gr_sl, hn_sl, ob_si, ar_si, ob_sl, ar_sl, ks_66_0, ks_66_1, ks_66_2, oD, Cal_eq r1, j_bc_q])
              exact hn _ _ ⟨f.tr f1, some (b, s), _, _, _, ha, he, rfl⟩
    · rintro L h' ⟨f, a, w1, w2, w3, ha, he, rfl⟩
      rw [Nat.sub_self, itr_0] at he
      subst he
      (refine wp_go 600 ks_66_0.2.2.2.2.2.2.1 ?_; simp (disch := first | assumption | (simp only [ob_si, ar_si, ob_sl, ar_sl]; assumption) | omega) only [ci_0, ci_1, ci_31, cm_9, inc_i, ldA_a, ldI_i, oc_67, p_0, p_2, p_3, p_30, p_32, p_41, p_42, p_44, p_45, p_6, p_80_3, p_81_1, p_9, p_90, wpn_succ, wpn_zero, stp_h, lk_0, lk_s, st1_0, st1_1, st1_2, st2_0, st2_1, st2_2, kj_i, kj_a, kj_l, kj_n, cat_n, cat_i, cat_a, cat_u, cat_l, vc_i, vc_a, rv_s, tl_n, tl_s, Cal'_s, List.length_cons, List.length_nil, i0, i1, iNd, iN_lt, iN_le, iN_eq, iN_add, iN_mul, iN_mod, iN_sub, iN_div, iN_clamp, iN_inb, zle_N, zlt_N, zN_le, zN_lt, zN_eq, Nz_eq, mI_t, mI_f, bI_0, bI_1, bI_t, bI_f, dltT, dltF, dleT, dleF, deqT, deqF, Nat.not_lt_zero, not_true_eq_false, not_false_eq_true, true_and, and_true, false_and, and_false, or_true, true_or, false_or, or_false, and_self, if_true, if_false, Classical.not_not, Nat.add_assoc, Nat.zero_add, Nat.add_zero, bI_or, bI_True, bI_False, Bool.false_eq_true, reduceCtorEq, eq_self, gi_si, gl_si, gr_si, hn_si, hL_si, hX_si, gi_sl, gl_sl, gr_sl, hn_sl, ob_si, ar_si, ob_sl, ar_sl, ks_66_0, ks_66_1, ks_66_2])
      exact hQ _ f ha
  obtain ⟨v, h', r, rfl, f, P⟩ := Ret_ex (d := 5) (y := 66) (as := [.ref 22, .int (iN p)]) [some (.ref 22), some (.int (iN p)), none, none, none, none, none, none] rfl rfl (key (fun v h' => v = some (.int (bhA (bhN x p))) ∧ Fr Sd h h' ∧ bhP (bhN x p)) fun h' a b => ⟨rfl, a, b⟩)
  exact ⟨h', r, f, P⟩
noncomputable def lesZ (x : Mt) (p t n : Nat) : Int := if xM x p < 6 then ((rp (dyN (kpx x p (xM x p))) n (xQ x p (xM x p)) : Nat) : Int) - ((rp (dyN (xH x p ||| 2 ^ t, (kpx x p (xM x p)).2)) n (xQ x p (xM x p)) : Nat) : Int) else 0
theorem d_less {h : Hp} {p t n : Nat} {x : Mt} (hB : Bs h) (hA : At h 1 x) (hW : Wf x) (hp : p < xN x) (ht : t < 5) (hn : n ≤ 99) : ∃ h', Ret 4 68 [.ref 22, .int (iN p), .int (iN t), .int (iN n)] h (some (.int (zI (lesZ x p t n)))) h' ∧ Fr Sd h h' := by
  have oD : ob h 22 4 := hB.ob (by decide) (by decide); have rD0 : gr h 22 0 = some 1 := hB.r (by decide); have rD1 : gr h 22 1 = some 7 := hB.r (by decide); have rD2 : gr h 22 2 = some 19 := hB.r (by decide); have oK : ob h 19 1 := hB.ob (by decide) (by decide); have hm : isM 1 := Or.inl rfl; have h7 : isM 7 := Or.inr (Or.inl rfl); obtain ⟨oM, rM0, rM1, rM2, rM3, rM4, aM1, aM2, aM3, aM4, aM5, sM1, sM2, sM3, sM4, sM5⟩ := M_facts hm hB; obtain ⟨wN, wK, wF, wH, wM, wQ, wS, wZ, wT⟩ := id hW; have o7 : ob h 7 3 := hB.ob (by decide) (by decide)
  by_cases h6 : xM x p < 6
  · have hq := wQ p (xM x p)
    have hh := or_32 (wH p) ht
    have k1 := kb_1 (kb_x hW p (xM x p)) hh
    obtain ⟨h1, r1, K1, f1⟩ := w_take (i := p) (j := xM x p) hm hB hA hW (by omega) h6
    have B1 := f1.bs hB
    obtain ⟨h2, r2, K2, f2⟩ := w_one (c := (xH x p ||| 2 ^ t, (kpx x p (xM x p)).2)) B1 K1.1 k1
    have B2 := f2.bs B1
    have A1 := At1_k hA f1
    have A2 := At1_k A1 f2
    have o1 := (K_facts B1).1
    have o2 := (K_facts B2).1
    have oD1 : ob h1 22 4 := B1.ob (by decide) (by decide)
    have q0 : gr h1 22 0 = some 1 := B1.r (by decide)
    have q2 : gr h1 22 2 = some 19 := B1.r (by decide)
    have o11 : ob h1 1 3 := B1.ob (by decide) (by decide)
    have oD2 : ob h2 22 4 := B2.ob (by decide) (by decide)
    have q20 : gr h2 22 0 = some 1 := B2.r (by decide)
    have q22 : gr h2 22 2 = some 19 := B2.r (by decide)
    have o12 : ob h2 1 3 := B2.ob (by decide) (by decide)
    refine ⟨h2, ?_, Sk_d (f1.tr f2)⟩
    refine Ret_L [some (.ref 22), some (.int (iN p)), some (.int (iN t)), some (.int (iN n)), none, none] rfl rfl fun Q hQ => ?_
    rw [lesZ, if_pos h6] at hQ
    (refine wp_go 600 ks_68_0.1 ?_; simp (disch := first | assumption | (simp only [ob_si, ar_si, ob_sl, ar_sl]; assumption) | omega) only [ci_0, ci_1, cm_9, ldA_a, ldI_i, oc_12, oc_32, oc_34, oc_36, oc_7, oc_8, p_0, p_11, p_14, p_15, p_2, p_3, p_42, p_6, p_62, p_80_2, p_80_3, p_80_4, p_90, wpn_succ, wpn_zero, stp_h, lk_0, lk_s, st1_0, st1_1, st1_2, st2_0, st2_1, st2_2, kj_i, kj_a, kj_l, kj_n, cat_n, cat_i, cat_a, cat_u, cat_l, vc_i, vc_a, rv_s, tl_n, tl_s, Cal'_s, List.length_cons, List.length_nil, i0, i1, iNd, iN_lt, iN_le, iN_eq, iN_add, iN_mul, iN_mod, iN_div, iN_clamp, iN_inb, zle_N, zlt_N, zN_le, zN_lt, zN_eq, Nz_eq, mI_t, mI_f, bI_0, bI_1, bI_t, bI_f, dltT, dltF, dleT, dleF, deqT, deqF, Nat.not_lt_zero, not_true_eq_false, not_false_eq_true, true_and, and_true, false_and, and_false, or_true, true_or, false_or, or_false, and_self, if_true, if_false, Classical.not_not, Nat.add_assoc, Nat.zero_add, Nat.add_zero, bI_or, bI_True, bI_False, Bool.false_eq_true, reduceCtorEq, eq_self, gi_si, gl_si, gr_si, hn_si, hL_si, hX_si, gi_sl, gl_sl, gr_sl, hn_sl, ob_si, ar_si, ob_sl, ar_sl, ks_68_0, ks_68_1, ks_68_2, oD, rD0, rD1, rD2, oK, o7, oM, c_mate_q hm hB hA hW, Cal_eq r1, Cal_eq r2, o1, o2, oD1, q0, q2, o11, oD2, q20, q22, o12, c_quar_q hm B1 A1 hW, c_quar_q hm B2 A2 hW, c_hours_q hm B1 A1 hW, k_days_q B1 K1 (kb_x hW _ _), k_days_q B2 K2 k1, shl_eq, iN_or, NN_sub])
    exact hQ
  · refine ⟨h, ?_, Fr.rf _ h⟩
    refine Ret_L [some (.ref 22), some (.int (iN p)), some (.int (iN t)), some (.int (iN n)), none, none] rfl rfl fun Q hQ => ?_
    rw [lesZ, if_neg h6, ← z_0] at hQ
    (refine wp_go 600 ks_68_0.1 ?_; simp (disch := first | assumption | (simp only [ob_si, ar_si, ob_sl, ar_sl]; assumption) | omega) only [ci_0, ci_1, cm_9, ldA_a, ldI_i, oc_12, oc_32, oc_34, oc_36, oc_7, oc_8, p_0, p_11, p_14, p_15, p_2, p_3, p_42, p_6, p_62, p_80_2, p_80_3, p_80_4, p_90, wpn_succ, wpn_zero, stp_h, lk_0, lk_s, st1_0, st1_1, st1_2, st2_0, st2_1, st2_2, kj_i, kj_a, kj_l, kj_n, cat_n, cat_i, cat_a, cat_u, cat_l, vc_i, vc_a, rv_s, tl_n, tl_s, Cal'_s, List.length_cons, List.length_nil, i0, i1, iNd, iN_lt, iN_le, iN_eq, iN_add, iN_mul, iN_mod, iN_sub, iN_div, iN_clamp, iN_inb, zle_N, zlt_N, zN_le, zN_lt, zN_eq, Nz_eq, mI_t, mI_f, bI_0, bI_1, bI_t, bI_f, dltT, dltF, dleT, dleF, deqT, deqF, Nat.not_lt_zero, not_true_eq_false, not_false_eq_true, true_and, and_true, false_and, and_false, or_true, true_or, false_or, or_false, and_self, if_true, if_false, Classical.not_not, Nat.add_assoc, Nat.zero_add, Nat.add_zero, bI_or, bI_True, bI_False, Bool.false_eq_true, reduceCtorEq, eq_self, gi_si, gl_si, gr_si, hn_si, hL_si, hX_si, gi_sl, gl_sl, gr_sl, hn_sl, ob_si, ar_si, ob_sl, ar_sl, ks_68_0, ks_68_1, ks_68_2, oD, rD0, rD1, rD2, oK, o7, oM, c_mate_q hm hB hA hW])
    exact hQ
noncomputable def ftF (x : Mt) (rv : Nat → Nat) (i j n : Nat) : Option Unit := if rv n = qbN x i j n then none else some ()
noncomputable def ftP (x : Mt) (rn : Nat) (rv : Nat → Nat) (i j : Nat) : Prop := itx (ftF x rv i j) 0 rn = none
theorem Ro.fr {h h' : Hp} {n : Nat} {v : Nat → Nat} {S : Nat → Prop} (hR : Ro h n v) (f : Fr S h h') (h1 : ¬ S 34) (h2 : ¬ S 35) : Ro h' n v := by unfold Ro; rw [f.i h1, f.i h2]; exact hR
theorem d_fits {h : Hp} {i j rn : Nat} {rv : Nat → Nat} {x : Mt} (hB : Bs h) (hA : At h 7 x) (hW : Wf x) (hi : i < xN x) (hj : j < 6) (hR : Ro h rn rv) (hr : ro_ok rn rv) : ∃ h', Ret 3 72 [.ref 22, .int (iN i), .int (iN j), .ref 34] h (some (.int (bI (ftP x rn rv i j)))) h' ∧ Fr Sk h h' := by
  have h7 : isM 7 := Or.inr (Or.inl rfl)
  have oD : ob h 22 4 := hB.ob (by decide) (by decide)
  have rD1 : gr h 22 1 = some 7 := hB.r (by decide)
  have rD2 : gr h 22 2 = some 19 := hB.r (by decide)
  have o7 : ob h 7 3 := hB.ob (by decide) (by decide)
  have oK : ob h 19 1 := hB.ob (by decide) (by decide)
  have wN := hW.1
  obtain ⟨hr1, hr2⟩ := id hr
  obtain ⟨h1, r1, K1, f1⟩ := w_take (i := i) (j := j) h7 hB hA hW (by omega) hj
  have B1 := f1.bs hB
  have R1 := hR.fr f1 (by unfold Sk; omega) (by unfold Sk; omega)
  have o1 := (K_facts B1).1
  have oD1 : ob h1 22 4 := B1.ob (by decide) (by decide)
  have q2 : gr h1 22 2 = some 19 := B1.r (by decide)
  have oR := (R_facts B1).1
  refine ⟨h1, ?_, f1⟩
  refine Ret_L [some (.ref 22), some (.int (iN i)), some (.int (iN j)), some (.ref 34), none, none, none] rfl rfl fun Q hQ => ?_
  (refine wp_go 600 ks_72_0.1 ?_; simp (disch := first | assumption | (simp only [ob_si, ar_si, ob_sl, ar_sl]; assumption) | omega) only [ci_0, ci_1, inc_i, ldA_a, ldI_i, oc_11, oc_114, oc_115, oc_36, oc_41, oc_7, p_0, p_2, p_3, p_30, p_31, p_41, p_44, p_6, p_62, p_80_1, p_80_2, p_80_3, p_80_4, p_9, p_91, wpn_succ, wpn_zero, stp_h, lk_0, lk_s, st1_0, st1_1, st1_2, st2_0, st2_1, st2_2, kj_i, kj_a, kj_l, kj_n, cat_n, cat_i, cat_a, cat_u, cat_l, vc_i, vc_a, rv_s, tl_n, tl_s, Cal'_s, List.length_cons, List.length_nil, i0, i1, iNd, iN_lt, iN_le, iN_eq, iN_add, iN_mul, iN_mod, iN_sub, iN_div, iN_clamp, iN_inb, zle_N, zlt_N, zN_le, zN_lt, zN_eq, Nz_eq, mI_t, mI_f, bI_0, bI_1, bI_t, bI_f, dltT, dltF, dleT, dleF, deqT, deqF, Nat.not_lt_zero, not_true_eq_false, not_false_eq_true, true_and, and_true, false_and, and_false, or_true, true_or, false_or, or_false, and_self, if_true, if_false, Classical.not_not, Nat.add_assoc, Nat.zero_add, Nat.add_zero, bI_or, bI_True, bI_False, Bool.false_eq_true, reduceCtorEq, eq_self, gi_si, gl_si, gr_si, hn_si, hL_si, hX_si, gi_sl, gl_sl, gr_sl, hn_sl, ob_si, ar_si, ob_sl, ar_sl, ks_72_0, ks_72_1, oD, rD1, rD2, o7, oK, c_onMat_q h7 hB hA hW, c_quar_q h7 hB hA hW, Cal_eq r1])
  rw [show iN (xQ x i j) = iN (qbN x i j 0) by unfold qbN; split <;> rfl]
  refine wp_find (fun n (_ : Unit) => [some (.ref 22), some (.int (iN i)), some (.int (iN j)), some (.ref 34), some (.int (bI (xM x i = j))), some (.int (iN (qbN x i j n))), some (.int (iN n))]) (ftF x rv i j) rn ?_ rn 0 () (by omega) ?_ ?_
  · intro n w hn2 hf hn
    have hv := hr2 n
    have hq := qbN_b hW i j n
    have h0 : rv n = qbN x i j n := Classical.byContradiction fun q => by rw [ftF, if_neg q] at hf; cases hf
    have hn := hn ()
    by_cases hc : xM x i = j
    · rw [show qbN x i j (n + 1) = dyN (kpx x i j) (qbN x i j n) by unfold qbN; rw [if_pos hc, if_pos hc]; rfl] at hn
      simp only [hc] at hn ⊢
      (refine wp_go 600 ks_72_0.2.2.2.2.2.2.2.2.2.2.2.2.2.2.2.2.2.2.2.2.2.1 ?_; simp (disch := first | assumption | (simp only [ob_si, ar_si, ob_sl, ar_sl]; assumption) | omega) only [ci_0, ci_1, inc_i, ldA_a, ldI_i, oc_11, oc_114, oc_115, oc_36, oc_41, oc_7, p_0, p_2, p_3, p_30, p_31, p_41, p_44, p_6, p_62, p_80_1, p_80_2, p_80_3, p_80_4, p_9, p_91, wpn_succ, wpn_zero, stp_h, lk_0, lk_s, st1_0, st1_1, st1_2, st2_0, st2_1, st2_2, kj_i, kj_a, kj_l, kj_n, cat_n, cat_i, cat_a, cat_u, cat_l, vc_i, vc_a, rv_s, tl_n, tl_s, Cal'_s, List.length_cons, List.length_nil, i0, i1, iNd, iN_lt, iN_le, iN_eq, iN_add, iN_mul, iN_mod, iN_sub, iN_div, iN_clamp, iN_inb, zle_N, zlt_N, zN_le, zN_lt, zN_eq, Nz_eq, mI_t, mI_f, bI_0, bI_1, dltT, dltF, dleT, dleF, deqT, deqF, Nat.not_lt_zero, not_true_eq_false, not_false_eq_true, true_and, and_true, false_and, and_false, or_true, true_or, false_or, or_false, and_self, if_true, if_false, Classical.not_not, Nat.add_assoc, Nat.zero_add, Nat.add_zero, bI_or, bI_False, Bool.false_eq_true, reduceCtorEq, eq_self, gi_si, gl_si, gr_si, hn_si, hL_si, hX_si, gi_sl, gl_sl, gr_sl, hn_sl, ob_si, ar_si, ob_sl, ar_sl, ks_72_0, ks_72_1, oD1, q2, oR, o1, r_num_q B1 R1 hr, r_at_q B1 R1 hr, h0, k_day_q B1 K1 (kb_x hW _ _)])
      exact hn
    · rw [show qbN x i j (n + 1) = qbN x i j n by unfold qbN; rw [if_neg hc, if_neg hc]] at hn
      simp only [hc] at hn ⊢
      (refine wp_go 600 ks_72_0.2.2.2.2.2.2.2.2.2.2.2.2.2.2.2.2.2.2.2.2.2.1 ?_; simp (disch := first | assumption | (simp only [ob_si, ar_si, ob_sl, ar_sl]; assumption) | omega) only [ci_0, ci_1, inc_i, ldA_a, ldI_i, oc_11, oc_114, oc_115, oc_36, oc_41, oc_7, p_0, p_2, p_3, p_30, p_31, p_41, p_44, p_6, p_62, p_80_1, p_80_2, p_80_3, p_80_4, p_9, p_91, wpn_succ, wpn_zero, stp_h, lk_0, lk_s, st1_0, st1_1, st1_2, st2_0, st2_1, st2_2, kj_i, kj_a, kj_l, kj_n, cat_n, cat_i, cat_a, cat_u, cat_l, vc_i, vc_a, rv_s, tl_n, tl_s, Cal'_s, List.length_cons, List.length_nil, i0, i1, iNd, iN_lt, iN_le, iN_eq, iN_add, iN_mul, iN_mod, iN_sub, iN_div, iN_clamp, iN_inb, zle_N, zlt_N, zN_le, zN_lt, zN_eq, Nz_eq, mI_t, mI_f, bI_0, bI_1, dltT, dltF, dleT, dleF, deqT, deqF, Nat.not_lt_zero, not_true_eq_false, not_false_eq_true, true_and, and_true, false_and, and_false, or_true, true_or, false_or, or_false, and_self, if_true, if_false, Classical.not_not, Nat.add_assoc, Nat.zero_add, Nat.add_zero, bI_or, bI_True, Bool.false_eq_true, reduceCtorEq, eq_self, gi_si, gl_si, gr_si, hn_si, hL_si, hX_si, gi_sl, gl_sl, gr_sl, hn_sl, ob_si, ar_si, ob_sl, ar_sl, ks_72_0, ks_72_1, oD1, q2, oR, o1, r_num_q B1 R1 hr, r_at_q B1 R1 hr, h0])
      exact hn
  · intro r hr2 n w hn2 hf
    have hv := hr.2 n
    have hq := qbN_b hW i j n
    rw [bI_f (by unfold ftP; rw [hr2]; exact fun e => (by cases e))] at hQ
    by_cases h0 : rv n = qbN x i j n
    · rw [ftF, if_pos h0] at hf; cases hf
    · (refine wp_go 600 ks_72_0.2.2.2.2.2.2.2.2.2.2.2.2.2.2.2.2.2.2.2.2.2.1 ?_; simp (disch := first | assumption | (simp only [ob_si, ar_si, ob_sl, ar_sl]; assumption) | omega) only [ci_0, ci_1, inc_i, ldA_a, ldI_i, oc_11, oc_114, oc_115, oc_36, oc_41, oc_7, p_0, p_2, p_3, p_30, p_31, p_41, p_44, p_6, p_62, p_80_1, p_80_2, p_80_3, p_80_4, p_9, p_91, wpn_succ, wpn_zero, stp_h, lk_0, lk_s, st1_0, st1_1, st1_2, st2_0, st2_1, st2_2, kj_i, kj_a, kj_l, kj_n, cat_n, cat_i, cat_a, cat_u, cat_l, vc_i, vc_a, rv_s, tl_n, tl_s, Cal'_s, List.length_cons, List.length_nil, i0, i1, iNd, iN_lt, iN_le, iN_eq, iN_add, iN_mul, iN_mod, iN_sub, iN_div, iN_clamp, iN_inb, zle_N, zlt_N, zN_le, zN_lt, zN_eq, Nz_eq, mI_t, mI_f, bI_0, bI_1, bI_t, bI_f, dltT, dltF, dleT, dleF, deqT, deqF, Nat.not_lt_zero, not_true_eq_false, not_false_eq_true, true_and, and_true, false_and, and_false, or_true, true_or, false_or, or_false, and_self, if_true, if_false, Classical.not_not, Nat.add_assoc, Nat.zero_add, Nat.add_zero, bI_or, bI_True, bI_False, Bool.false_eq_true, reduceCtorEq, eq_self, gi_si, gl_si, gr_si, hn_si, hL_si, hX_si, gi_sl, gl_sl, gr_sl, hn_sl, ob_si, ar_si, ob_sl, ar_sl, ks_72_0, ks_72_1, oD1, q2, oR, o1, r_num_q B1 R1 hr, r_at_q B1 R1 hr, h0])
      exact hQ
  · intro he w
    rw [bI_t (show ftP x rn rv i j from he)] at hQ
    (refine wp_go 600 ks_72_0.2.2.2.2.2.2.2.2.2.2.2.2.2.2.2.2.2.2.2.2.2.1 ?_; simp (disch := first | assumption | (simp only [ob_si, ar_si, ob_sl, ar_sl]; assumption) | omega) only [ci_0, ci_1, inc_i, ldA_a, ldI_i, oc_11, oc_114, oc_115, oc_36, oc_41, oc_7, p_0, p_2, p_3, p_30, p_31, p_41, p_44, p_6, p_62, p_80_1, p_80_2, p_80_3, p_80_4, p_9, p_91, wpn_succ, wpn_zero, stp_h, lk_0, lk_s, st1_0, st1_1, st1_2, st2_0, st2_1, st2_2, kj_i, kj_a, kj_l, kj_n, cat_n, cat_i, cat_a, cat_u, cat_l, vc_i, vc_a, rv_s, tl_n, tl_s, Cal'_s, List.length_cons, List.length_nil, i0, i1, iNd, iN_lt, iN_le, iN_eq, iN_add, iN_mul, iN_mod, iN_sub, iN_div, iN_clamp, iN_inb, zle_N, zlt_N, zN_le, zN_lt, zN_eq, Nz_eq, mI_t, mI_f, bI_0, bI_1, bI_t, bI_f, dltT, dltF, dleT, dleF, deqT, deqF, Nat.not_lt_zero, not_true_eq_false, not_false_eq_true, true_and, and_true, false_and, and_false, or_true, true_or, false_or, or_false, and_self, if_true, if_false, Classical.not_not, Nat.add_assoc, Nat.zero_add, Nat.add_zero, bI_or, bI_True, bI_False, Bool.false_eq_true, reduceCtorEq, eq_self, gi_si, gl_si, gr_si, hn_si, hL_si, hX_si, gi_sl, gl_sl, gr_sl, hn_sl, ob_si, ar_si, ob_sl, ar_sl, ks_72_0, ks_72_1, oD1, q2, oR, o1, r_num_q B1 R1 hr])
    exact hQ
theorem wf_K {x : Mt} {i v : Nat} (hW : Wf x) (hv : v < 6) : Wf (uK x i v) := ⟨hW.1, up_lt hW.2.1 hv, hW.2.2⟩
theorem wf_F {x : Mt} {i v : Nat} (hW : Wf x) (hv : v < 10) : Wf (uF x i v) := ⟨hW.1, hW.2.1, up_lt hW.2.2.1 hv, hW.2.2.2⟩
theorem wf_H {x : Mt} {i v : Nat} (hW : Wf x) (hv : v < 32) : Wf (uH x i v) := ⟨hW.1, hW.2.1, hW.2.2.1, up_lt hW.2.2.2.1 hv, hW.2.2.2.2⟩
theorem up_up {α : Type} (f : Nat → α) (i : Nat) (a b : α) : up (up f i a) i b = up f i b := by
  funext k; unfold up; split <;> rfl
theorem up_id {α : Type} (f : Nat → α) (i : Nat) : up f i (f i) = f := by
  funext k
  by_cases e : k = i
  · rw [up_t e, e]
  · rw [up_f e]
theorem uK_uK (x : Mt) (i a b : Nat) : uK (uK x i a) i b = uK x i b := Mt_ext rfl rfl (up_up _ _ _ _) rfl rfl rfl rfl
theorem uF_uF (x : Mt) (i a b : Nat) : uF (uF x i a) i b = uF x i b := Mt_ext rfl rfl rfl (up_up _ _ _ _) rfl rfl rfl
theorem uH_uH (x : Mt) (i a b : Nat) : uH (uH x i a) i b = uH x i b := Mt_ext rfl rfl rfl rfl (up_up _ _ _ _) rfl rfl
theorem uK_id (x : Mt) (i : Nat) : uK x i (xK x i) = x := Mt_ext rfl rfl (up_id _ _) rfl rfl rfl rfl
theorem uF_id (x : Mt) (i : Nat) : uF x i (xF x i) = x := Mt_ext rfl rfl rfl (up_id _ _) rfl rfl rfl
theorem uH_id (x : Mt) (i : Nat) : uH x i (xH x i) = x := Mt_ext rfl rfl rfl rfl (up_id _ _) rfl rfl
/-- who: bits of those k, below m, by which it goes as the row tells; U puts k in -/
noncomputable def fitN (U : Nat → Mt) (m rn : Nat) (rv : Nat → Nat) (i j : Nat) : Nat := itr (fun k a => @ite _ (ftP (U k) rn rv i j) (Classical.propDecidable _) (a ||| 2 ^ k) a) 0 m 0
theorem d_kinds {h : Hp} {i j rn : Nat} {rv : Nat → Nat} {x : Mt} (hB : Bs h) (hA : At h 1 x) (hW : Wf x) (hi : i < xN x) (hj : j < 6) (hR : Ro h rn rv) (hr : ro_ok rn rv) : ∃ h', Ret 4 69 [.ref 22, .int (iN i), .int (iN j), .ref 34] h (some (.int (iN (fitN (fun k => uK x i k) 6 rn rv i j)))) h' ∧ Fr Sd h h' := by
  have oD : ob h 22 4 := hB.ob (by decide) (by decide); have rD0 : gr h 22 0 = some 1 := hB.r (by decide); have rD1 : gr h 22 1 = some 7 := hB.r (by decide); have rD2 : gr h 22 2 = some 19 := hB.r (by decide); have oK : ob h 19 1 := hB.ob (by decide) (by decide); have hm : isM 1 := Or.inl rfl; have h7 : isM 7 := Or.inr (Or.inl rfl); obtain ⟨oM, rM0, rM1, rM2, rM3, rM4, aM1, aM2, aM3, aM4, aM5, sM1, sM2, sM3, sM4, sM5⟩ := M_facts hm hB; obtain ⟨wN, wK, wF, wH, wM, wQ, wS, wZ, wT⟩ := id hW; have o7 : ob h 7 3 := hB.ob (by decide) (by decide)
  have key : ∀ Q : Option Value → Hp → Prop, (∀ h', Fr Sd h h' → Q (some (.int (iN (fitN (fun k => uK x i k) 6 rn rv i j)))) h') → wp 4 69 0 [some (.ref 22), some (.int (iN i)), some (.int (iN j)), some (.ref 34), none, none] [] h Q := by
    intro Q hQ
    obtain ⟨h1, r1, A1, f1⟩ := w_copy (m := 7) (p := 1) h7 hm (by omega) hB hA
    (refine wp_go 600 ks_69_0.1 ?_; simp (disch := first | assumption | (simp only [ob_si, ar_si, ob_sl, ar_sl]; assumption) | omega) only [ci_0, ci_1, ci_6, inc_i, ldA_a, ldI_i, oc_21, oc_29, oc_72, p_0, p_14, p_15, p_2, p_3, p_30, p_31, p_44, p_6, p_62, p_80_2, p_80_3, p_80_4, p_9, p_90, wpn_succ, wpn_zero, stp_h, lk_0, lk_s, st1_0, st1_1, st1_2, st2_0, st2_1, st2_2, kj_i, kj_a, kj_l, kj_n, cat_n, cat_i, cat_a, cat_u, cat_l, vc_i, vc_a, rv_s, tl_n, tl_s, Cal'_s, List.length_cons, List.length_nil, i0, i1, iNd, iN_lt, iN_le, iN_eq, iN_add, iN_mul, iN_mod, iN_sub, iN_div, iN_clamp, iN_inb, zle_N, zlt_N, zN_le, zN_lt, zN_eq, Nz_eq, mI_t, mI_f, bI_0, bI_1, bI_t, bI_f, dltT, dltF, dleT, dleF, deqT, deqF, Nat.not_lt_zero, not_true_eq_false, not_false_eq_true, true_and, and_true, false_and, and_false, or_true, true_or, false_or, or_false, and_self, if_true, if_false, Classical.not_not, Nat.add_assoc, Nat.zero_add, Nat.add_zero, bI_or, bI_True, bI_False, Bool.false_eq_true, reduceCtorEq, eq_self, gi_si, gl_si, gr_si, hn_si, hL_si, hX_si, gi_sl, gl_sl, gr_sl, hn_sl, ob_si, ar_si, ob_sl, ar_sl, ks_69_0, ks_69_1, oD, rD0, rD1, rD2, oK, o7, Cal_eq r1])
    refine wp_loop (fun k L h' => (∃ v, At h' 7 (uK x i v)) ∧ Fr Sd h h' ∧ ∃ a, itr (fun k a => @ite _ (ftP (uK x i k) rn rv i j) (Classical.propDecidable _) (a ||| 2 ^ k) a) k (6 - k) a = fitN (fun k => uK x i k) 6 rn rv i j ∧ L = [some (.ref 22), some (.int (iN i)), some (.int (iN j)), some (.ref 34), some (.int (iN a)), some (.int (iN k))]) 6 ?_ ?_ 6 0 _ h1 (by omega) ⟨⟨xK x i, by rw [uK_id]; exact A1⟩, Sm7_d f1, 0, rfl, rfl⟩
    · rintro k L h2 hk ⟨⟨v, A2⟩, f2, a, he, rfl⟩ hn
      have B2 := f2.bs hB
      have A3 := At_K (i := i) (v := k) A2
      rw [uK_uK] at A3
      have f3 : Fr Sd h (si h2 (7 + 1) i (iN k)) := f2.si (by unfold Sd; omega) _ _
      have R3 := hR.fr f3 (by unfold Sd; omega) (by unfold Sd; omega)
      have B3 := f3.bs hB
      obtain ⟨h4, r4, f4⟩ := d_fits (x := uK x i k) B3 A3 (wf_K hW hk) hi hj R3 hr
      have oD2 : ob h2 22 4 := B2.ob (by decide) (by decide)
      have q1 : gr h2 22 1 = some 7 := B2.r (by decide)
      have o72 : ob h2 7 3 := B2.ob (by decide) (by decide)
      rw [show 6 - k = 6 - (k + 1) + 1 by omega, itr_s] at he
      by_cases hc : ftP (uK x i k) rn rv i j
      · rw [if_pos hc] at he
        (refine wp_go 600 ks_69_0.2.2.2.2.2.2.2.2.2.1 ?_; simp (disch := first | assumption | (simp only [ob_si, ar_si, ob_sl, ar_sl]; assumption) | omega) only [ci_0, ci_1, ci_6, inc_i, ldA_a, ldI_i, oc_21, oc_29, oc_72, p_0, p_14, p_15, p_2, p_3, p_30, p_31, p_44, p_6, p_62, p_80_2, p_80_3, p_80_4, p_9, p_90, wpn_succ, wpn_zero, stp_h, lk_0, lk_s, st1_0, st1_1, st1_2, st2_0, st2_1, st2_2, kj_i, kj_a, kj_l, kj_n, cat_n, cat_i, cat_a, cat_u, cat_l, vc_i, vc_a, rv_s, tl_n, tl_s, Cal'_s, List.length_cons, List.length_nil, i0, i1, iNd, iN_lt, iN_le, iN_eq, iN_add, iN_mul, iN_mod, iN_sub, iN_div, iN_clamp, iN_inb, zle_N, zlt_N, zN_le, zN_lt, zN_eq, Nz_eq, mI_t, mI_f, bI_0, bI_1, bI_t, bI_f, dltT, dltF, dleT, dleF, deqT, deqF, Nat.not_lt_zero, not_true_eq_false, not_false_eq_true, true_and, and_true, false_and, and_false, or_true, true_or, false_or, or_false, and_self, if_true, if_false, Classical.not_not, Nat.add_assoc, Nat.zero_add, Nat.add_zero, bI_or, bI_True, bI_False, Bool.false_eq_true, reduceCtorEq, eq_self, gi_si, gl_si, gr_si, hn_si, hL_si, hX_si, gi_sl, gl_sl, gr_sl, hn_sl, ob_si, ar_si, ob_sl, ar_sl, ks_69_0, ks_69_1, oD2, q1, o72, c_setK_q h7 B2, Cal_eq r4, hc, shl_eq32, iN_or])
        exact hn _ _ ⟨⟨k, At7_k A3 f4⟩, f3.tr (Sk_d f4), _, he, rfl⟩
      · rw [if_neg hc] at he
        (refine wp_go 600 ks_69_0.2.2.2.2.2.2.2.2.2.1 ?_; simp (disch := first | assumption | (simp only [ob_si, ar_si, ob_sl, ar_sl]; assumption) | omega) only [ci_0, ci_1, ci_6, inc_i, ldA_a, ldI_i, oc_21, oc_29, oc_72, p_0, p_14, p_15, p_2, p_3, p_30, p_31, p_44, p_6, p_62, p_80_2, p_80_3, p_80_4, p_9, p_90, wpn_succ, wpn_zero, stp_h, lk_0, lk_s, st1_0, st1_1, st1_2, st2_0, st2_1, st2_2, kj_i, kj_a, kj_l, kj_n, cat_n, cat_i, cat_a, cat_u, cat_l, vc_i, vc_a, rv_s, tl_n, tl_s, Cal'_s, List.length_cons, List.length_nil, i0, i1, iNd, iN_lt, iN_le, iN_eq, iN_add, iN_mul, iN_mod, iN_sub, iN_div, iN_clamp, iN_inb, zle_N, zlt_N, zN_le, zN_lt, zN_eq, Nz_eq, mI_t, mI_f, bI_0, bI_1, bI_t, bI_f, dltT, dltF, dleT, dleF, deqT, deqF, Nat.not_lt_zero, not_true_eq_false, not_false_eq_true, true_and, and_true, false_and, and_false, or_true, true_or, false_or, or_false, and_self, if_true, if_false, Classical.not_not, Nat.add_assoc, Nat.zero_add, Nat.add_zero, bI_or, bI_True, bI_False, Bool.false_eq_true, reduceCtorEq, eq_self, gi_si, gl_si, gr_si, hn_si, hL_si, hX_si, gi_sl, gl_sl, gr_sl, hn_sl, ob_si, ar_si, ob_sl, ar_sl, ks_69_0, ks_69_1, oD2, q1, o72, c_setK_q h7 B2, Cal_eq r4, hc])
        exact hn _ _ ⟨⟨k, At7_k A3 f4⟩, f3.tr (Sk_d f4), _, he, rfl⟩
    · rintro L h2 ⟨_, f2, a, he, rfl⟩
      rw [Nat.sub_self, itr_0] at he
      rw [he]
      (refine wp_go 600 ks_69_0.2.2.2.2.2.2.2.2.2.1 ?_; simp (disch := first | assumption | (simp only [ob_si, ar_si, ob_sl, ar_sl]; assumption) | omega) only [ci_0, ci_1, ci_6, inc_i, ldA_a, ldI_i, oc_21, oc_29, oc_72, p_0, p_14, p_15, p_2, p_3, p_30, p_31, p_44, p_6, p_62, p_80_2, p_80_3, p_80_4, p_9, p_90, wpn_succ, wpn_zero, stp_h, lk_0, lk_s, st1_0, st1_1, st1_2, st2_0, st2_1, st2_2, kj_i, kj_a, kj_l, kj_n, cat_n, cat_i, cat_a, cat_u, cat_l, vc_i, vc_a, rv_s, tl_n, tl_s, Cal'_s, List.length_cons, List.length_nil, i0, i1, iNd, iN_lt, iN_le, iN_eq, iN_add, iN_mul, iN_mod, iN_sub, iN_div, iN_clamp, iN_inb, zle_N, zlt_N, zN_le, zN_lt, zN_eq, Nz_eq, mI_t, mI_f, bI_0, bI_1, bI_t, bI_f, dltT, dltF, dleT, dleF, deqT, deqF, Nat.not_lt_zero, not_true_eq_false, not_false_eq_true, true_and, and_true, false_and, and_false, or_true, true_or, false_or, or_false, and_self, if_true, if_false, Classical.not_not, Nat.add_assoc, Nat.zero_add, Nat.add_zero, bI_or, bI_True, bI_False, Bool.false_eq_true, reduceCtorEq, eq_self, gi_si, gl_si, gr_si, hn_si, hL_si, hX_si, gi_sl, gl_sl, gr_sl, hn_sl, ob_si, ar_si, ob_sl, ar_sl, ks_69_0, ks_69_1])
      exact hQ _ f2
  obtain ⟨v, h', r, rfl, f⟩ := Ret_ex (d := 4) (y := 69) (as := [.ref 22, .int (iN i), .int (iN j), .ref 34]) [some (.ref 22), some (.int (iN i)), some (.int (iN j)), some (.ref 34), none, none] rfl rfl (key (fun v h' => v = some (.int (iN (fitN (fun k => uK x i k) 6 rn rv i j))) ∧ Fr Sd h h') fun h' a => ⟨rfl, a⟩)
  exact ⟨h', r, f⟩
theorem d_figs {h : Hp} {i j rn : Nat} {rv : Nat → Nat} {x : Mt} (hB : Bs h) (hA : At h 1 x) (hW : Wf x) (hi : i < xN x) (hj : j < 6) (hR : Ro h rn rv) (hr : ro_ok rn rv) : ∃ h', Ret 4 70 [.ref 22, .int (iN i), .int (iN j), .ref 34] h (some (.int (iN (fitN (fun k => uF x i k) 10 rn rv i j)))) h' ∧ Fr Sd h h' := by
  have oD : ob h 22 4 := hB.ob (by decide) (by decide); have rD0 : gr h 22 0 = some 1 := hB.r (by decide); have rD1 : gr h 22 1 = some 7 := hB.r (by decide); have rD2 : gr h 22 2 = some 19 := hB.r (by decide); have oK : ob h 19 1 := hB.ob (by decide) (by decide); have hm : isM 1 := Or.inl rfl; have h7 : isM 7 := Or.inr (Or.inl rfl); obtain ⟨oM, rM0, rM1, rM2, rM3, rM4, aM1, aM2, aM3, aM4, aM5, sM1, sM2, sM3, sM4, sM5⟩ := M_facts hm hB; obtain ⟨wN, wK, wF, wH, wM, wQ, wS, wZ, wT⟩ := id hW; have o7 : ob h 7 3 := hB.ob (by decide) (by decide)
  have key : ∀ Q : Option Value → Hp → Prop, (∀ h', Fr Sd h h' → Q (some (.int (iN (fitN (fun k => uF x i k) 10 rn rv i j)))) h') → wp 4 70 0 [some (.ref 22), some (.int (iN i)), some (.int (iN j)), some (.ref 34), none, none] [] h Q := by
    intro Q hQ
    obtain ⟨h1, r1, A1, f1⟩ := w_copy (m := 7) (p := 1) h7 hm (by omega) hB hA
    (refine wp_go 600 ks_70_0.1 ?_; simp (disch := first | assumption | (simp only [ob_si, ar_si, ob_sl, ar_sl]; assumption) | omega) only [ci_0, ci_1, ci_10, inc_i, ldA_a, ldI_i, oc_21, oc_31, oc_72, p_0, p_14, p_15, p_2, p_3, p_30, p_31, p_44, p_6, p_62, p_80_2, p_80_3, p_80_4, p_9, p_90, wpn_succ, wpn_zero, stp_h, lk_0, lk_s, st1_0, st1_1, st1_2, st2_0, st2_1, st2_2, kj_i, kj_a, kj_l, kj_n, cat_n, cat_i, cat_a, cat_u, cat_l, vc_i, vc_a, rv_s, tl_n, tl_s, Cal'_s, List.length_cons, List.length_nil, i0, i1, iNd, iN_lt, iN_le, iN_eq, iN_add, iN_mul, iN_mod, iN_sub, iN_div, iN_clamp, iN_inb, zle_N, zlt_N, zN_le, zN_lt, zN_eq, Nz_eq, mI_t, mI_f, bI_0, bI_1, bI_t, bI_f, dltT, dltF, dleT, dleF, deqT, deqF, Nat.not_lt_zero, not_true_eq_false, not_false_eq_true, true_and, and_true, false_and, and_false, or_true, true_or, false_or, or_false, and_self, if_true, if_false, Classical.not_not, Nat.add_assoc, Nat.zero_add, Nat.add_zero, bI_or, bI_True, bI_False, Bool.false_eq_true, reduceCtorEq, eq_self, gi_si, gl_si, gr_si, hn_si, hL_si, hX_si, gi_sl, gl_sl, gr_sl, hn_sl, ob_si, ar_si, ob_sl, ar_sl, ks_70_0, ks_70_1, oD, rD0, rD1, rD2, oK, o7, Cal_eq r1])
    refine wp_loop (fun k L h' => (∃ v, At h' 7 (uF x i v)) ∧ Fr Sd h h' ∧ ∃ a, itr (fun k a => @ite _ (ftP (uF x i k) rn rv i j) (Classical.propDecidable _) (a ||| 2 ^ k) a) k (10 - k) a = fitN (fun k => uF x i k) 10 rn rv i j ∧ L = [some (.ref 22), some (.int (iN i)), some (.int (iN j)), some (.ref 34), some (.int (iN a)), some (.int (iN k))]) 10 ?_ ?_ 10 0 _ h1 (by omega) ⟨⟨xF x i, by rw [uF_id]; exact A1⟩, Sm7_d f1, 0, rfl, rfl⟩
    · rintro k L h2 hk ⟨⟨v, A2⟩, f2, a, he, rfl⟩ hn
      have B2 := f2.bs hB
      have A3 := At_F (i := i) (v := k) A2
      rw [uF_uF] at A3
      have f3 : Fr Sd h (si h2 (7 + 2) i (iN k)) := f2.si (by unfold Sd; omega) _ _
      have R3 := hR.fr f3 (by unfold Sd; omega) (by unfold Sd; omega)
      have B3 := f3.bs hB
      obtain ⟨h4, r4, f4⟩ := d_fits (x := uF x i k) B3 A3 (wf_F hW hk) hi hj R3 hr
      have oD2 : ob h2 22 4 := B2.ob (by decide) (by decide)
      have q1 : gr h2 22 1 = some 7 := B2.r (by decide)
      have o72 : ob h2 7 3 := B2.ob (by decide) (by decide)
      rw [show 10 - k = 10 - (k + 1) + 1 by omega, itr_s] at he
      by_cases hc : ftP (uF x i k) rn rv i j
      · rw [if_pos hc] at he
        (refine wp_go 600 ks_70_0.2.2.2.2.2.2.2.2.2.1 ?_; simp (disch := first | assumption | (simp only [ob_si, ar_si, ob_sl, ar_sl]; assumption) | omega) only [ci_0, ci_1, ci_10, inc_i, ldA_a, ldI_i, oc_21, oc_31, oc_72, p_0, p_14, p_15, p_2, p_3, p_30, p_31, p_44, p_6, p_62, p_80_2, p_80_3, p_80_4, p_9, p_90, wpn_succ, wpn_zero, stp_h, lk_0, lk_s, st1_0, st1_1, st1_2, st2_0, st2_1, st2_2, kj_i, kj_a, kj_l, kj_n, cat_n, cat_i, cat_a, cat_u, cat_l, vc_i, vc_a, rv_s, tl_n, tl_s, Cal'_s, List.length_cons, List.length_nil, i0, i1, iNd, iN_lt, iN_le, iN_eq, iN_add, iN_mul, iN_mod, iN_sub, iN_div, iN_clamp, iN_inb, zle_N, zlt_N, zN_le, zN_lt, zN_eq, Nz_eq, mI_t, mI_f, bI_0, bI_1, bI_t, bI_f, dltT, dltF, dleT, dleF, deqT, deqF, Nat.not_lt_zero, not_true_eq_false, not_false_eq_true, true_and, and_true, false_and, and_false, or_true, true_or, false_or, or_false, and_self, if_true, if_false, Classical.not_not, Nat.add_assoc, Nat.zero_add, Nat.add_zero, bI_or, bI_True, bI_False, Bool.false_eq_true, reduceCtorEq, eq_self, gi_si, gl_si, gr_si, hn_si, hL_si, hX_si, gi_sl, gl_sl, gr_sl, hn_sl, ob_si, ar_si, ob_sl, ar_sl, ks_70_0, ks_70_1, oD2, q1, o72, c_setF_q h7 B2, Cal_eq r4, hc, shl_eq32, iN_or])
        exact hn _ _ ⟨⟨k, At7_k A3 f4⟩, f3.tr (Sk_d f4), _, he, rfl⟩
      · rw [if_neg hc] at he
        (refine wp_go 600 ks_70_0.2.2.2.2.2.2.2.2.2.1 ?_; simp (disch := first | assumption | (simp only [ob_si, ar_si, ob_sl, ar_sl]; assumption) | omega) only [ci_0, ci_1, ci_10, inc_i, ldA_a, ldI_i, oc_21, oc_31, oc_72, p_0, p_14, p_15, p_2, p_3, p_30, p_31, p_44, p_6, p_62, p_80_2, p_80_3, p_80_4, p_9, p_90, wpn_succ, wpn_zero, stp_h, lk_0, lk_s, st1_0, st1_1, st1_2, st2_0, st2_1, st2_2, kj_i, kj_a, kj_l, kj_n, cat_n, cat_i, cat_a, cat_u, cat_l, vc_i, vc_a, rv_s, tl_n, tl_s, Cal'_s, List.length_cons, List.length_nil, i0, i1, iNd, iN_lt, iN_le, iN_eq, iN_add, iN_mul, iN_mod, iN_sub, iN_div, iN_clamp, iN_inb, zle_N, zlt_N, zN_le, zN_lt, zN_eq, Nz_eq, mI_t, mI_f, bI_0, bI_1, bI_t, bI_f, dltT, dltF, dleT, dleF, deqT, deqF, Nat.not_lt_zero, not_true_eq_false, not_false_eq_true, true_and, and_true, false_and, and_false, or_true, true_or, false_or, or_false, and_self, if_true, if_false, Classical.not_not, Nat.add_assoc, Nat.zero_add, Nat.add_zero, bI_or, bI_True, bI_False, Bool.false_eq_true, reduceCtorEq, eq_self, gi_si, gl_si, gr_si, hn_si, hL_si, hX_si, gi_sl, gl_sl, gr_sl, hn_sl, ob_si, ar_si, ob_sl, ar_sl, ks_70_0, ks_70_1, oD2, q1, o72, c_setF_q h7 B2, Cal_eq r4, hc])
        exact hn _ _ ⟨⟨k, At7_k A3 f4⟩, f3.tr (Sk_d f4), _, he, rfl⟩
    · rintro L h2 ⟨_, f2, a, he, rfl⟩
      rw [Nat.sub_self, itr_0] at he
      rw [he]
      (refine wp_go 600 ks_70_0.2.2.2.2.2.2.2.2.2.1 ?_; simp (disch := first | assumption | (simp only [ob_si, ar_si, ob_sl, ar_sl]; assumption) | omega) only [ci_0, ci_1, ci_10, inc_i, ldA_a, ldI_i, oc_21, oc_31, oc_72, p_0, p_14, p_15, p_2, p_3, p_30, p_31, p_44, p_6, p_62, p_80_2, p_80_3, p_80_4, p_9, p_90, wpn_succ, wpn_zero, stp_h, lk_0, lk_s, st1_0, st1_1, st1_2, st2_0, st2_1, st2_2, kj_i, kj_a, kj_l, kj_n, cat_n, cat_i, cat_a, cat_u, cat_l, vc_i, vc_a, rv_s, tl_n, tl_s, Cal'_s, List.length_cons, List.length_nil, i0, i1, iNd, iN_lt, iN_le, iN_eq, iN_add, iN_mul, iN_mod, iN_sub, iN_div, iN_clamp, iN_inb, zle_N, zlt_N, zN_le, zN_lt, zN_eq, Nz_eq, mI_t, mI_f, bI_0, bI_1, bI_t, bI_f, dltT, dltF, dleT, dleF, deqT, deqF, Nat.not_lt_zero, not_true_eq_false, not_false_eq_true, true_and, and_true, false_and, and_false, or_true, true_or, false_or, or_false, and_self, if_true, if_false, Classical.not_not, Nat.add_assoc, Nat.zero_add, Nat.add_zero, bI_or, bI_True, bI_False, Bool.false_eq_true, reduceCtorEq, eq_self, gi_si, gl_si, gr_si, hn_si, hL_si, hX_si, gi_sl, gl_sl, gr_sl, hn_sl, ob_si, ar_si, ob_sl, ar_sl, ks_70_0, ks_70_1])
      exact hQ _ f2
  obtain ⟨v, h', r, rfl, f⟩ := Ret_ex (d := 4) (y := 70) (as := [.ref 22, .int (iN i), .int (iN j), .ref 34]) [some (.ref 22), some (.int (iN i)), some (.int (iN j)), some (.ref 34), none, none] rfl rfl (key (fun v h' => v = some (.int (iN (fitN (fun k => uF x i k) 10 rn rv i j))) ∧ Fr Sd h h') fun h' a => ⟨rfl, a⟩)
  exact ⟨h', r, f⟩
theorem d_hours {h : Hp} {i j rn : Nat} {rv : Nat → Nat} {x : Mt} (hB : Bs h) (hA : At h 1 x) (hW : Wf x) (hi : i < xN x) (hj : j < 6) (hR : Ro h rn rv) (hr : ro_ok rn rv) : ∃ h', Ret 4 71 [.ref 22, .int (iN i), .int (iN j), .ref 34] h (some (.int (iN (fitN (fun k => uH x i k) 32 rn rv i j)))) h' ∧ Fr Sd h h' := by
  have oD : ob h 22 4 := hB.ob (by decide) (by decide); have rD0 : gr h 22 0 = some 1 := hB.r (by decide); have rD1 : gr h 22 1 = some 7 := hB.r (by decide); have rD2 : gr h 22 2 = some 19 := hB.r (by decide); have oK : ob h 19 1 := hB.ob (by decide) (by decide); have hm : isM 1 := Or.inl rfl; have h7 : isM 7 := Or.inr (Or.inl rfl); obtain ⟨oM, rM0, rM1, rM2, rM3, rM4, aM1, aM2, aM3, aM4, aM5, sM1, sM2, sM3, sM4, sM5⟩ := M_facts hm hB; obtain ⟨wN, wK, wF, wH, wM, wQ, wS, wZ, wT⟩ := id hW; have o7 : ob h 7 3 := hB.ob (by decide) (by decide)
  have key : ∀ Q : Option Value → Hp → Prop, (∀ h', Fr Sd h h' → Q (some (.int (iN (fitN (fun k => uH x i k) 32 rn rv i j)))) h') → wp 4 71 0 [some (.ref 22), some (.int (iN i)), some (.int (iN j)), some (.ref 34), none, none] [] h Q := by
    intro Q hQ
    obtain ⟨h1, r1, A1, f1⟩ := w_copy (m := 7) (p := 1) h7 hm (by omega) hB hA
    (refine wp_go 600 ks_71_0.1 ?_; simp (disch := first | assumption | (simp only [ob_si, ar_si, ob_sl, ar_sl]; assumption) | omega) only [ci_0, ci_1, ci_31, inc_i, ldA_a, ldI_i, oc_21, oc_33, oc_72, p_0, p_14, p_15, p_2, p_3, p_30, p_31, p_45, p_6, p_62, p_80_2, p_80_3, p_80_4, p_9, p_90, wpn_succ, wpn_zero, stp_h, lk_0, lk_s, st1_0, st1_1, st1_2, st2_0, st2_1, st2_2, kj_i, kj_a, kj_l, kj_n, cat_n, cat_i, cat_a, cat_u, cat_l, vc_i, vc_a, rv_s, tl_n, tl_s, Cal'_s, List.length_cons, List.length_nil, i0, i1, iNd, iN_lt, iN_le, iN_eq, iN_add, iN_mul, iN_mod, iN_sub, iN_div, iN_clamp, iN_inb, zle_N, zlt_N, zN_le, zN_lt, zN_eq, Nz_eq, mI_t, mI_f, bI_0, bI_1, bI_t, bI_f, dltT, dltF, dleT, dleF, deqT, deqF, Nat.not_lt_zero, not_true_eq_false, not_false_eq_true, true_and, and_true, false_and, and_false, or_true, true_or, false_or, or_false, and_self, if_true, if_false, Classical.not_not, Nat.add_assoc, Nat.zero_add, Nat.add_zero, bI_or, bI_True, bI_False, Bool.false_eq_true, reduceCtorEq, eq_self, gi_si, gl_si, gr_si, hn_si, hL_si, hX_si, gi_sl, gl_sl, gr_sl, hn_sl, ob_si, ar_si, ob_sl, ar_sl, ks_71_0, ks_71_1, oD, rD0, rD1, rD2, oK, o7, Cal_eq r1])
    refine wp_loop (fun k L h' => (∃ v, At h' 7 (uH x i v)) ∧ Fr Sd h h' ∧ ∃ a, itr (fun k a => @ite _ (ftP (uH x i k) rn rv i j) (Classical.propDecidable _) (a ||| 2 ^ k) a) k (32 - k) a = fitN (fun k => uH x i k) 32 rn rv i j ∧ L = [some (.ref 22), some (.int (iN i)), some (.int (iN j)), some (.ref 34), some (.int (iN a)), some (.int (iN k))]) 32 ?_ ?_ 32 0 _ h1 (by omega) ⟨⟨xH x i, by rw [uH_id]; exact A1⟩, Sm7_d f1, 0, rfl, rfl⟩
    · rintro k L h2 hk ⟨⟨v, A2⟩, f2, a, he, rfl⟩ hn
      have B2 := f2.bs hB
      have A3 := At_H (i := i) (v := k) A2
      rw [uH_uH] at A3
      have f3 : Fr Sd h (si h2 (7 + 3) i (iN k)) := f2.si (by unfold Sd; omega) _ _
      have R3 := hR.fr f3 (by unfold Sd; omega) (by unfold Sd; omega)
      have B3 := f3.bs hB
      obtain ⟨h4, r4, f4⟩ := d_fits (x := uH x i k) B3 A3 (wf_H hW hk) hi hj R3 hr
      have oD2 : ob h2 22 4 := B2.ob (by decide) (by decide)
      have q1 : gr h2 22 1 = some 7 := B2.r (by decide)
      have o72 : ob h2 7 3 := B2.ob (by decide) (by decide)
      rw [show 32 - k = 32 - (k + 1) + 1 by omega, itr_s] at he
      by_cases hc : ftP (uH x i k) rn rv i j
      · rw [if_pos hc] at he
        (refine wp_go 600 ks_71_0.2.2.2.2.2.2.2.2.2.1 ?_; simp (disch := first | assumption | (simp only [ob_si, ar_si, ob_sl, ar_sl]; assumption) | omega) only [ci_0, ci_1, ci_31, inc_i, ldA_a, ldI_i, oc_21, oc_33, oc_72, p_0, p_14, p_15, p_2, p_3, p_30, p_31, p_45, p_6, p_62, p_80_2, p_80_3, p_80_4, p_9, p_90, wpn_succ, wpn_zero, stp_h, lk_0, lk_s, st1_0, st1_1, st1_2, st2_0, st2_1, st2_2, kj_i, kj_a, kj_l, kj_n, cat_n, cat_i, cat_a, cat_u, cat_l, vc_i, vc_a, rv_s, tl_n, tl_s, Cal'_s, List.length_cons, List.length_nil, i0, i1, iNd, iN_lt, iN_le, iN_eq, iN_add, iN_mul, iN_mod, iN_sub, iN_div, iN_clamp, iN_inb, zle_N, zlt_N, zN_le, zN_lt, zN_eq, Nz_eq, mI_t, mI_f, bI_0, bI_1, bI_t, bI_f, dltT, dltF, dleT, dleF, deqT, deqF, Nat.not_lt_zero, not_true_eq_false, not_false_eq_true, true_and, and_true, false_and, and_false, or_true, true_or, false_or, or_false, and_self, if_true, if_false, Classical.not_not, Nat.add_assoc, Nat.zero_add, Nat.add_zero, bI_or, bI_True, bI_False, Bool.false_eq_true, reduceCtorEq, eq_self, gi_si, gl_si, gr_si, hn_si, hL_si, hX_si, gi_sl, gl_sl, gr_sl, hn_sl, ob_si, ar_si, ob_sl, ar_sl, ks_71_0, ks_71_1, oD2, q1, o72, c_setH_q h7 B2, Cal_eq r4, hc, shl_eq32, iN_or])
        exact hn _ _ ⟨⟨k, At7_k A3 f4⟩, f3.tr (Sk_d f4), _, he, rfl⟩
      · rw [if_neg hc] at he
        (refine wp_go 600 ks_71_0.2.2.2.2.2.2.2.2.2.1 ?_; simp (disch := first | assumption | (simp only [ob_si, ar_si, ob_sl, ar_sl]; assumption) | omega) only [ci_0, ci_1, ci_31, inc_i, ldA_a, ldI_i, oc_21, oc_33, oc_72, p_0, p_14, p_15, p_2, p_3, p_30, p_31, p_45, p_6, p_62, p_80_2, p_80_3, p_80_4, p_9, p_90, wpn_succ, wpn_zero, stp_h, lk_0, lk_s, st1_0, st1_1, st1_2, st2_0, st2_1, st2_2, kj_i, kj_a, kj_l, kj_n, cat_n, cat_i, cat_a, cat_u, cat_l, vc_i, vc_a, rv_s, tl_n, tl_s, Cal'_s, List.length_cons, List.length_nil, i0, i1, iNd, iN_lt, iN_le, iN_eq, iN_add, iN_mul, iN_mod, iN_sub, iN_div, iN_clamp, iN_inb, zle_N, zlt_N, zN_le, zN_lt, zN_eq, Nz_eq, mI_t, mI_f, bI_0, bI_1, bI_t, bI_f, dltT, dltF, dleT, dleF, deqT, deqF, Nat.not_lt_zero, not_true_eq_false, not_false_eq_true, true_and, and_true, false_and, and_false, or_true, true_or, false_or, or_false, and_self, if_true, if_false, Classical.not_not, Nat.add_assoc, Nat.zero_add, Nat.add_zero, bI_or, bI_True, bI_False, Bool.false_eq_true, reduceCtorEq, eq_self, gi_si, gl_si, gr_si, hn_si, hL_si, hX_si, gi_sl, gl_sl, gr_sl, hn_sl, ob_si, ar_si, ob_sl, ar_sl, ks_71_0, ks_71_1, oD2, q1, o72, c_setH_q h7 B2, Cal_eq r4, hc])
        exact hn _ _ ⟨⟨k, At7_k A3 f4⟩, f3.tr (Sk_d f4), _, he, rfl⟩
    · rintro L h2 ⟨_, f2, a, he, rfl⟩
      rw [Nat.sub_self, itr_0] at he
      rw [he]
      (refine wp_go 600 ks_71_0.2.2.2.2.2.2.2.2.2.1 ?_; simp (disch := first | assumption | (simp only [ob_si, ar_si, ob_sl, ar_sl]; assumption) | omega) only [ci_0, ci_1, ci_31, inc_i, ldA_a, ldI_i, oc_21, oc_33, oc_72, p_0, p_14, p_15, p_2, p_3, p_30, p_31, p_45, p_6, p_62, p_80_2, p_80_3, p_80_4, p_9, p_90, wpn_succ, wpn_zero, stp_h, lk_0, lk_s, st1_0, st1_1, st1_2, st2_0, st2_1, st2_2, kj_i, kj_a, kj_l, kj_n, cat_n, cat_i, cat_a, cat_u, cat_l, vc_i, vc_a, rv_s, tl_n, tl_s, Cal'_s, List.length_cons, List.length_nil, i0, i1, iNd, iN_lt, iN_le, iN_eq, iN_add, iN_mul, iN_mod, iN_sub, iN_div, iN_clamp, iN_inb, zle_N, zlt_N, zN_le, zN_lt, zN_eq, Nz_eq, mI_t, mI_f, bI_0, bI_1, bI_t, bI_f, dltT, dltF, dleT, dleF, deqT, deqF, Nat.not_lt_zero, not_true_eq_false, not_false_eq_true, true_and, and_true, false_and, and_false, or_true, true_or, false_or, or_false, and_self, if_true, if_false, Classical.not_not, Nat.add_assoc, Nat.zero_add, Nat.add_zero, bI_or, bI_True, bI_False, Bool.false_eq_true, reduceCtorEq, eq_self, gi_si, gl_si, gr_si, hn_si, hL_si, hX_si, gi_sl, gl_sl, gr_sl, hn_sl, ob_si, ar_si, ob_sl, ar_sl, ks_71_0, ks_71_1])
      exact hQ _ f2
  obtain ⟨v, h', r, rfl, f⟩ := Ret_ex (d := 4) (y := 71) (as := [.ref 22, .int (iN i), .int (iN j), .ref 34]) [some (.ref 22), some (.int (iN i)), some (.int (iN j)), some (.ref 34), none, none] rfl rfl (key (fun v h' => v = some (.int (iN (fitN (fun k => uH x i k) 32 rn rv i j))) ∧ Fr Sd h h') fun h' a => ⟨rfl, a⟩)
  exact ⟨h', r, f⟩
noncomputable def pcP (x : Mt) : Prop := itx (pcF x) 0 (xN x) = none
noncomputable def fpF (x : Mt) (n : Nat) : Option Nat := @ite _ (pcP (dayM x n)) (Classical.propDecidable _) (some n) none
noncomputable def fpO (x : Mt) : Option Nat := itx (fpF x) 0 100
theorem fpF_t {x : Mt} {n : Nat} (h : pcP (dayM x n)) : fpF x n = some n := by unfold fpF; rw [if_pos h]
theorem fpF_f {x : Mt} {n : Nat} (h : ¬ pcP (dayM x n)) : fpF x n = none := by unfold fpF; rw [if_neg h]
theorem d_peace {h : Hp} {x : Mt} (hB : Bs h) (hA : At h 1 x) (hW : Wf x) : ∃ h', Ret 5 73 [.ref 22] h (some (.int (oI (fpO x)))) h' ∧ Fr Sd h h' := by
  have oD : ob h 22 4 := hB.ob (by decide) (by decide); have rD0 : gr h 22 0 = some 1 := hB.r (by decide); have rD1 : gr h 22 1 = some 7 := hB.r (by decide); have rD2 : gr h 22 2 = some 19 := hB.r (by decide); have oK : ob h 19 1 := hB.ob (by decide) (by decide); have hm : isM 1 := Or.inl rfl; have h7 : isM 7 := Or.inr (Or.inl rfl); obtain ⟨oM, rM0, rM1, rM2, rM3, rM4, aM1, aM2, aM3, aM4, aM5, sM1, sM2, sM3, sM4, sM5⟩ := M_facts hm hB; obtain ⟨wN, wK, wF, wH, wM, wQ, wS, wZ, wT⟩ := id hW; have o7 : ob h 7 3 := hB.ob (by decide) (by decide)
  have key : ∀ Q : Option Value → Hp → Prop, (∀ h', Fr Sd h h' → Q (some (.int (oI (fpO x)))) h') → wp 5 73 0 [some (.ref 22), none] [] h Q := by
    intro Q hQ
    obtain ⟨h1, r1, A1, f1⟩ := w_copy (m := 7) (p := 1) h7 hm (by omega) hB hA
    (refine wp_go 600 ks_73_0.1 ?_; simp (disch := first | assumption | (simp only [ob_si, ar_si, ob_sl, ar_sl]; assumption) | omega) only [ci_0, ci_1, ci_99, cm_9, inc_i, ldA_a, ldI_i, oc_21, oc_49, oc_50, p_0, p_2, p_3, p_30, p_31, p_45, p_6, p_62, p_80_1, p_80_2, p_80_3, p_9, p_90, wpn_succ, wpn_zero, stp_h, lk_0, lk_s, st1_0, st1_1, st1_2, st2_0, st2_1, st2_2, kj_i, kj_a, kj_l, kj_n, cat_n, cat_i, cat_a, cat_u, cat_l, vc_i, vc_a, rv_s, tl_n, tl_s, Cal'_s, List.length_cons, List.length_nil, i0, i1, iNd, iN_lt, iN_le, iN_eq, iN_add, iN_mul, iN_mod, iN_sub, iN_div, iN_clamp, iN_inb, zle_N, zlt_N, zN_le, zN_lt, zN_eq, Nz_eq, mI_t, mI_f, bI_0, bI_1, bI_t, bI_f, dltT, dltF, dleT, dleF, deqT, deqF, Nat.not_lt_zero, not_true_eq_false, not_false_eq_true, true_and, and_true, false_and, and_false, or_true, true_or, false_or, or_false, and_self, if_true, if_false, Classical.not_not, Nat.add_assoc, Nat.zero_add, Nat.add_zero, bI_or, bI_True, bI_False, Bool.false_eq_true, reduceCtorEq, eq_self, gi_si, gl_si, gr_si, hn_si, hL_si, hX_si, gi_sl, gl_sl, gr_sl, hn_sl, ob_si, ar_si, ob_sl, ar_sl, ks_73_0, ks_73_1, oD, rD0, rD1, rD2, oK, o7, Cal_eq r1])
    refine wp_loop (fun n L h' => itx (fpF x) 0 n = none ∧ At h' 7 (dayM x n) ∧ Fr Sd h h' ∧ L = [some (.ref 22), some (.int (iN n))]) 100 ?_ ?_ 100 0 _ h1 (by omega) ⟨rfl, by rw [day_0]; exact A1, Sm7_d f1, rfl⟩
    · rintro n L h2 hn1 ⟨h0, A2, f2, rfl⟩ hnx
      have B2 := f2.bs hB
      have W2 := wf_day hW n
      have oD2 : ob h2 22 4 := B2.ob (by decide) (by decide)
      have q1 : gr h2 22 1 = some 7 := B2.r (by decide)
      have q2 : gr h2 22 2 = some 19 := B2.r (by decide)
      have o72 : ob h2 7 3 := B2.ob (by decide) (by decide)
      have rp2 := c_peace h7 B2 A2 W2
      change Ret _ _ _ _ (some (.int (bI (pcP (dayM x n))))) _ at rp2
      by_cases hc : pcP (dayM x n)
      · have ez : fpO x = some n := by
          have := itx_some (fpF x) n 0 h0 n (by rw [Nat.zero_add]; exact fpF_t hc) (100 - n - 1)
          rw [show n + 1 + (100 - n - 1) = 100 by omega] at this
          exact this
        rw [ez] at hQ
        (refine wp_go 600 ks_73_0.2.2.2.2.2.2.2.1 ?_; simp (disch := first | assumption | (simp only [ob_si, ar_si, ob_sl, ar_sl]; assumption) | omega) only [ci_0, ci_1, ci_99, cm_9, inc_i, ldA_a, ldI_i, oc_21, oc_49, oc_50, p_0, p_2, p_3, p_30, p_31, p_45, p_6, p_62, p_80_1, p_80_2, p_80_3, p_9, p_90, wpn_succ, wpn_zero, stp_h, lk_0, lk_s, st1_0, st1_1, st1_2, st2_0, st2_1, st2_2, kj_i, kj_a, kj_l, kj_n, cat_n, cat_i, cat_a, cat_u, cat_l, vc_i, vc_a, rv_s, tl_n, tl_s, Cal'_s, List.length_cons, List.length_nil, i0, i1, iNd, iN_lt, iN_le, iN_eq, iN_add, iN_mul, iN_mod, iN_sub, iN_div, iN_clamp, iN_inb, zle_N, zlt_N, zN_le, zN_lt, zN_eq, Nz_eq, mI_t, mI_f, bI_0, bI_1, bI_t, bI_f, dltT, dltF, dleT, dleF, deqT, deqF, Nat.not_lt_zero, not_true_eq_false, not_false_eq_true, true_and, and_true, false_and, and_false, or_true, true_or, false_or, or_false, and_self, if_true, if_false, Classical.not_not, Nat.add_assoc, Nat.zero_add, Nat.add_zero, bI_or, bI_True, bI_False, Bool.false_eq_true, reduceCtorEq, eq_self, gi_si, gl_si, gr_si, hn_si, hL_si, hX_si, gi_sl, gl_sl, gr_sl, hn_sl, ob_si, ar_si, ob_sl, ar_sl, ks_73_0, ks_73_1, oD2, q1, q2, o72, Cal_eq rp2, hc])
        exact hQ _ f2
      · obtain ⟨h3, r3, A3, f3⟩ := w_live (m := 7) (n := 1) h7 B2 A2 W2 (by omega)
        rw [day_day] at A3
        (refine wp_go 600 ks_73_0.2.2.2.2.2.2.2.1 ?_; simp (disch := first | assumption | (simp only [ob_si, ar_si, ob_sl, ar_sl]; assumption) | omega) only [ci_0, ci_1, ci_99, cm_9, inc_i, ldA_a, ldI_i, oc_21, oc_49, oc_50, p_0, p_2, p_3, p_30, p_31, p_45, p_6, p_62, p_80_1, p_80_2, p_80_3, p_9, p_90, wpn_succ, wpn_zero, stp_h, lk_0, lk_s, st1_0, st1_1, st1_2, st2_0, st2_1, st2_2, kj_i, kj_a, kj_l, kj_n, cat_n, cat_i, cat_a, cat_u, cat_l, vc_i, vc_a, rv_s, tl_n, tl_s, Cal'_s, List.length_cons, List.length_nil, i0, i1, iNd, iN_lt, iN_le, iN_eq, iN_add, iN_mul, iN_mod, iN_sub, iN_div, iN_clamp, iN_inb, zle_N, zlt_N, zN_le, zN_lt, zN_eq, Nz_eq, mI_t, mI_f, bI_0, bI_1, bI_t, bI_f, dltT, dltF, dleT, dleF, deqT, deqF, Nat.not_lt_zero, not_true_eq_false, not_false_eq_true, true_and, and_true, false_and, and_false, or_true, true_or, false_or, or_false, and_self, if_true, if_false, Classical.not_not, Nat.add_assoc, Nat.zero_add, Nat.add_zero, bI_or, bI_True, bI_False, Bool.false_eq_true, reduceCtorEq, eq_self, gi_si, gl_si, gr_si, hn_si, hL_si, hX_si, gi_sl, gl_sl, gr_sl, hn_sl, ob_si, ar_si, ob_sl, ar_sl, ks_73_0, ks_73_1, oD2, q1, q2, o72, Cal_eq rp2, hc, Cal_eq r3])
        exact hnx _ _ ⟨(itx_last _ _ _).mpr ⟨h0, by rw [Nat.zero_add]; exact fpF_f hc⟩, A3, f2.tr (live7_d f3), rfl⟩
    · rintro L h2 ⟨h0, A2, f2, rfl⟩
      rw [fpO, h0] at hQ
      (refine wp_go 600 ks_73_0.2.2.2.2.2.2.2.1 ?_; simp (disch := first | assumption | (simp only [ob_si, ar_si, ob_sl, ar_sl]; assumption) | omega) only [ci_0, ci_1, ci_99, cm_9, inc_i, ldA_a, ldI_i, oc_21, oc_49, oc_50, p_0, p_2, p_3, p_30, p_31, p_45, p_6, p_62, p_80_1, p_80_2, p_80_3, p_9, p_90, wpn_succ, wpn_zero, stp_h, lk_0, lk_s, st1_0, st1_1, st1_2, st2_0, st2_1, st2_2, kj_i, kj_a, kj_l, kj_n, cat_n, cat_i, cat_a, cat_u, cat_l, vc_i, vc_a, rv_s, tl_n, tl_s, Cal'_s, List.length_cons, List.length_nil, i0, i1, iNd, iN_lt, iN_le, iN_eq, iN_add, iN_mul, iN_mod, iN_sub, iN_div, iN_clamp, iN_inb, zle_N, zlt_N, zN_le, zN_lt, zN_eq, Nz_eq, mI_t, mI_f, bI_0, bI_1, bI_t, bI_f, dltT, dltF, dleT, dleF, deqT, deqF, Nat.not_lt_zero, not_true_eq_false, not_false_eq_true, true_and, and_true, false_and, and_false, or_true, true_or, false_or, or_false, and_self, if_true, if_false, Classical.not_not, Nat.add_assoc, Nat.zero_add, Nat.add_zero, bI_or, bI_True, bI_False, Bool.false_eq_true, reduceCtorEq, eq_self, gi_si, gl_si, gr_si, hn_si, hL_si, hX_si, gi_sl, gl_sl, gr_sl, hn_sl, ob_si, ar_si, ob_sl, ar_sl, ks_73_0, ks_73_1])
      exact hQ _ f2
  obtain ⟨v, h', r, rfl, f⟩ := Ret_ex (d := 5) (y := 73) (as := [.ref 22]) [some (.ref 22), none] rfl rfl (key (fun v h' => v = some (.int (oI (fpO x))) ∧ Fr Sd h h') fun h' a => ⟨rfl, a⟩)
  exact ⟨h', r, f⟩
noncomputable def twN (c : Kp) (t q : Nat) : Nat := hrN c t (dyN c q)
theorem twN_b {c : Kp} {t q : Nat} (hq : q ≤ 99) : twN c t q ≤ 99 := hrN_b (dyN_b hq)
theorem d_twice {h : Hp} {c : Kp} {q t : Nat} (hB : Bs h) (hK : Kn h c) (hk : kb c) (hq : q ≤ 99) (ht : t < 5) : Ret 3 76 [.ref 22, .int (iN q), .int (iN t)] h (some (.int (iN (rp (twN c t) 9 q)))) (h) := by
  refine Ret_L [some (.ref 22), some (.int (iN q)), some (.int (iN t)), none, none] rfl rfl fun Q hQ => ?_
  have oD : ob h 22 4 := hB.ob (by decide) (by decide)
  have rD2 : gr h 22 2 = some 19 := hB.r (by decide)
  have oK := (K_facts hB).1
  (refine wp_go 600 ks_76_0.1 ?_; simp (disch := first | assumption | (simp only [ob_si, ar_si, ob_sl, ar_sl]; assumption) | omega) only [ci_0, ci_1, ci_9, inc_i, ldA_a, ldI_i, oc_10, oc_11, p_0, p_2, p_3, p_30, p_44, p_6, p_62, p_80_2, p_80_3, p_9, p_90, wpn_succ, wpn_zero, stp_h, lk_0, lk_s, st1_0, st1_1, st1_2, st2_0, st2_1, st2_2, kj_i, kj_a, kj_l, kj_n, cat_n, cat_i, cat_a, cat_u, cat_l, vc_i, vc_a, rv_s, tl_n, tl_s, Cal'_s, List.length_cons, List.length_nil, i0, i1, iNd, iN_lt, iN_le, iN_eq, iN_add, iN_mul, iN_mod, iN_sub, iN_div, iN_clamp, iN_inb, zle_N, zlt_N, zN_le, zN_lt, zN_eq, Nz_eq, mI_t, mI_f, bI_0, bI_1, bI_t, bI_f, dltT, dltF, dleT, dleF, deqT, deqF, Nat.not_lt_zero, not_true_eq_false, not_false_eq_true, true_and, and_true, false_and, and_false, or_true, true_or, false_or, or_false, and_self, if_true, if_false, Classical.not_not, Nat.add_assoc, Nat.zero_add, Nat.add_zero, bI_or, bI_True, bI_False, Bool.false_eq_true, reduceCtorEq, eq_self, gi_si, gl_si, gr_si, hn_si, hL_si, hX_si, gi_sl, gl_sl, gr_sl, hn_sl, ob_si, ar_si, ob_sl, ar_sl, ks_76_0])
  refine wp_loop (fun i L h' => h' = h ∧ L = [some (.ref 22), some (.int (iN q)), some (.int (iN t)), some (.int (iN (rp (twN c t) i q))), some (.int (iN i))]) 9 ?_ ?_ 9 0 _ h (by omega) ⟨rfl, rfl⟩
  · rintro i L h' hi ⟨rfl, rfl⟩ hn
    have ha : rp (twN c t) i q ≤ 99 := rp_inv (P := fun q => q ≤ 99) (fun _ h => twN_b h) i q hq
    have hb := dyN_b (c := c) ha
    (refine wp_go 600 ks_76_0.2.2.2.2.1 ?_; simp (disch := first | assumption | (simp only [ob_si, ar_si, ob_sl, ar_sl]; assumption) | omega) only [ci_0, ci_1, ci_9, inc_i, ldA_a, ldI_i, oc_10, oc_11, p_0, p_2, p_3, p_30, p_44, p_6, p_62, p_80_2, p_80_3, p_9, p_90, wpn_succ, wpn_zero, stp_h, lk_0, lk_s, st1_0, st1_1, st1_2, st2_0, st2_1, st2_2, kj_i, kj_a, kj_l, kj_n, cat_n, cat_i, cat_a, cat_u, cat_l, vc_i, vc_a, rv_s, tl_n, tl_s, Cal'_s, List.length_cons, List.length_nil, i0, i1, iNd, iN_lt, iN_le, iN_eq, iN_add, iN_mul, iN_mod, iN_sub, iN_div, iN_clamp, iN_inb, zle_N, zlt_N, zN_le, zN_lt, zN_eq, Nz_eq, mI_t, mI_f, bI_0, bI_1, bI_t, bI_f, dltT, dltF, dleT, dleF, deqT, deqF, Nat.not_lt_zero, not_true_eq_false, not_false_eq_true, true_and, and_true, false_and, and_false, or_true, true_or, false_or, or_false, and_self, if_true, if_false, Classical.not_not, Nat.add_assoc, Nat.zero_add, Nat.add_zero, bI_or, bI_True, bI_False, Bool.false_eq_true, reduceCtorEq, eq_self, gi_si, gl_si, gr_si, hn_si, hL_si, hX_si, gi_sl, gl_sl, gr_sl, hn_sl, ob_si, ar_si, ob_sl, ar_sl, ks_76_0, oD, rD2, oK, k_day_q hB hK hk, k_hour_q hB hK hk])
    exact hn _ _ ⟨rfl, rfl⟩
  · rintro L h' ⟨rfl, rfl⟩
    (refine wp_go 600 ks_76_0.2.2.2.2.1 ?_; simp (disch := first | assumption | (simp only [ob_si, ar_si, ob_sl, ar_sl]; assumption) | omega) only [ci_0, ci_1, ci_9, inc_i, ldA_a, ldI_i, oc_10, oc_11, p_0, p_2, p_3, p_30, p_44, p_6, p_62, p_80_2, p_80_3, p_9, p_90, wpn_succ, wpn_zero, stp_h, lk_0, lk_s, st1_0, st1_1, st1_2, st2_0, st2_1, st2_2, kj_i, kj_a, kj_l, kj_n, cat_n, cat_i, cat_a, cat_u, cat_l, vc_i, vc_a, rv_s, tl_n, tl_s, Cal'_s, List.length_cons, List.length_nil, i0, i1, iNd, iN_lt, iN_le, iN_eq, iN_add, iN_mul, iN_mod, iN_sub, iN_div, iN_clamp, iN_inb, zle_N, zlt_N, zN_le, zN_lt, zN_eq, Nz_eq, mI_t, mI_f, bI_0, bI_1, bI_t, bI_f, dltT, dltF, dleT, dleF, deqT, deqF, Nat.not_lt_zero, not_true_eq_false, not_false_eq_true, true_and, and_true, false_and, and_false, or_true, true_or, false_or, or_false, and_self, if_true, if_false, Classical.not_not, Nat.add_assoc, Nat.zero_add, Nat.add_zero, bI_or, bI_True, bI_False, Bool.false_eq_true, reduceCtorEq, eq_self, gi_si, gl_si, gr_si, hn_si, hL_si, hX_si, gi_sl, gl_sl, gr_sl, hn_sl, ob_si, ar_si, ob_sl, ar_sl, ks_76_0])
    exact hQ
theorem d_twice_q {h : Hp} {c : Kp} {q t : Nat} (hB : Bs h) (hK : Kn h c) (hk : kb c) (hq : q ≤ 99) (ht : t < 5) {e : Nat} (hd : 3 ≤ e) (K : Option Value → Hp → Prop) : Cal e 76 [.ref 22, .int (iN q), .int (iN t)] h K = K (some (.int (iN (rp (twN c t) 9 q)))) (h) := Cal_eq (d_twice (hB := hB) (hK := hK) (hk := hk) (hq := hq) (ht := ht)) hd K
noncomputable def mqS (x : Mt) (t i a : Nat) : Nat := if xM x i < 6 ∧ i < xM x i then a + rp (twN (kpx x i (xM x i)) t) 9 (xQ x i (xM x i)) else a
noncomputable def mqN (x : Mt) (t : Nat) : Nat := itr (mqS x t) 0 (xN x) 0
theorem mqN_b {x : Mt} (hW : Wf x) (t : Nat) : mqN x t ≤ 600 := by
  have h : ∀ (k i a : Nat), itr (mqS x t) i k a ≤ a + 99 * k := by
    intro k
    induction k with
    | zero => intro i a; exact Nat.le_refl _
    | succ k ih =>
      intro i a
      rw [itr_s]
      by_cases e : xM x i < 6 ∧ i < xM x i
      · have h1 : rp (twN (kpx x i (xM x i)) t) 9 (xQ x i (xM x i)) ≤ 99 := rp_inv (P := fun q => q ≤ 99) (fun _ h => twN_b h) 9 _ (hW.2.2.2.2.2.1 _ _)
        have h2 := ih (i + 1) (a + rp (twN (kpx x i (xM x i)) t) 9 (xQ x i (xM x i)))
        rw [show mqS x t i a = a + rp (twN (kpx x i (xM x i)) t) 9 (xQ x i (xM x i)) from if_pos e]
        omega
      · have h2 := ih (i + 1) a
        rw [show mqS x t i a = a from if_neg e]
        omega
  have := h (xN x) 0 0
  have := hW.1
  unfold mqN
  omega
theorem d_mq {h : Hp} {t : Nat} {x : Mt} (hB : Bs h) (hA : At h 1 x) (hW : Wf x) (ht : t < 5) : ∃ h', Ret 4 75 [.ref 22, .int (iN t)] h (some (.int (iN (mqN x t)))) h' ∧ Fr Sd h h' := by
  have key : ∀ Q : Option Value → Hp → Prop, (∀ h', Fr Sd h h' → Q (some (.int (iN (mqN x t)))) h') → wp 4 75 0 [some (.ref 22), some (.int (iN t)), none, none, none] [] h Q := by
    intro Q hQ
    (refine wp_go 600 ks_75_0.1 ?_; simp (disch := first | assumption | (simp only [ob_si, ar_si, ob_sl, ar_sl]; assumption) | omega) only [ci_0, ci_1, inc_i, ldA_a, ldI_i, oc_22, oc_34, oc_36, oc_7, oc_76, p_0, p_10, p_2, p_3, p_30, p_44, p_45, p_6, p_62, p_80_1, p_80_2, p_80_3, p_80_4, p_9, p_90, wpn_succ, wpn_zero, stp_h, lk_0, lk_s, st1_0, st1_1, st1_2, st2_0, st2_1, st2_2, kj_i, kj_a, kj_l, kj_n, cat_n, cat_i, cat_a, cat_u, cat_l, vc_i, vc_a, rv_s, tl_n, tl_s, Cal'_s, List.length_cons, List.length_nil, i0, i1, iNd, iN_lt, iN_le, iN_eq, iN_add, iN_mul, iN_mod, iN_sub, iN_div, iN_clamp, iN_inb, zle_N, zlt_N, zN_le, zN_lt, zN_eq, Nz_eq, mI_t, mI_f, bI_0, bI_1, bI_t, bI_f, dltT, dltF, dleT, dleF, deqT, deqF, Nat.not_lt_zero, not_true_eq_false, not_false_eq_true, true_and, and_true, false_and, and_false, or_true, true_or, false_or, or_false, and_self, if_true, if_false, Classical.not_not, Nat.add_assoc, Nat.zero_add, Nat.add_zero, bI_or, bI_True, bI_False, Bool.false_eq_true, reduceCtorEq, eq_self, gi_si, gl_si, gr_si, hn_si, hL_si, hX_si, gi_sl, gl_sl, gr_sl, hn_sl, ob_si, ar_si, ob_sl, ar_sl, ks_75_0, ks_75_1])
    refine wp_loop (fun i L h' => Fr Sd h h' ∧ ∃ a w, itr (mqS x t) i (xN x - i) a = mqN x t ∧ L = [some (.ref 22), some (.int (iN t)), some (.int (iN a)), some (.int (iN i)), w]) (xN x) ?_ ?_ (xN x) 0 _ h (by omega) ⟨Fr.rf _ h, 0, none, rfl, rfl⟩
    · rintro i L h' hi ⟨f, a, w, he, rfl⟩ hn
      replace hA := At1_d hA f
      replace hB := f.bs hB
      have oD : ob h' 22 4 := hB.ob (by decide) (by decide)
      have rD0 : gr h' 22 0 = some 1 := hB.r (by decide)
      have rD2 : gr h' 22 2 = some 19 := hB.r (by decide)
      have oK := (K_facts hB).1
      have hm : isM 1 := Or.inl rfl
      have oM : ob h' 1 3 := hB.ob (by decide) (by decide)
      have wN := hW.1
      rw [show xN x - i = xN x - (i + 1) + 1 by omega, itr_s] at he
      by_cases h6 : xM x i < 6
      · by_cases hl : i < xM x i
        · obtain ⟨h1, r1, K1, f1⟩ := w_take (i := i) (j := xM x i) hm hB hA hW (by omega) h6
          have B1 := f1.bs hB
          have A1 := At1_k hA f1
          have hq := hW.2.2.2.2.2.1 i (xM x i)
          have oD1 : ob h1 22 4 := B1.ob (by decide) (by decide)
          have q0 : gr h1 22 0 = some 1 := B1.r (by decide)
          have o11 : ob h1 1 3 := B1.ob (by decide) (by decide)
          rw [mqS, if_pos ⟨h6, hl⟩] at he
          (refine wp_go 600 ks_75_0.2.2.2.2.1 ?_; simp (disch := first | assumption | (simp only [ob_si, ar_si, ob_sl, ar_sl]; assumption) | omega) only [ci_0, ci_1, inc_i, ldA_a, ldI_i, oc_22, oc_34, oc_36, oc_7, oc_76, p_0, p_10, p_2, p_3, p_30, p_44, p_45, p_6, p_62, p_80_1, p_80_2, p_80_3, p_80_4, p_9, p_90, wpn_succ, wpn_zero, stp_h, lk_0, lk_s, st1_0, st1_1, st1_2, st2_0, st2_1, st2_2, kj_i, kj_a, kj_l, kj_n, cat_n, cat_i, cat_a, cat_u, cat_l, vc_i, vc_a, rv_s, tl_n, tl_s, Cal'_s, List.length_cons, List.length_nil, i0, i1, iNd, iN_lt, iN_le, iN_eq, iN_add, iN_mul, iN_mod, iN_sub, iN_div, iN_clamp, iN_inb, zle_N, zlt_N, zN_le, zN_lt, zN_eq, Nz_eq, mI_t, mI_f, bI_0, bI_1, bI_t, bI_f, dltT, dltF, dleT, dleF, deqT, deqF, Nat.not_lt_zero, not_true_eq_false, not_false_eq_true, true_and, and_true, false_and, and_false, or_true, true_or, false_or, or_false, and_self, if_true, if_false, Classical.not_not, Nat.add_assoc, Nat.zero_add, Nat.add_zero, bI_or, bI_True, bI_False, Bool.false_eq_true, reduceCtorEq, eq_self, gi_si, gl_si, gr_si, hn_si, hL_si, hX_si, gi_sl, gl_sl, gr_sl, hn_sl, ob_si, ar_si, ob_sl, ar_sl, ks_75_0, ks_75_1, oD, rD0, rD2, oK, oD1, q0, o11, oM, c_people_q hm hB hA hW, c_mate_q hm hB hA hW, Cal_eq r1, c_quar_q hm B1 A1 hW, d_twice_q B1 K1 (kb_x hW _ _)])
          exact hn _ _ ⟨f.tr (Sk_d f1), _, _, he, rfl⟩
        · rw [mqS, if_neg (fun q => hl q.2)] at he
          (refine wp_go 600 ks_75_0.2.2.2.2.1 ?_; simp (disch := first | assumption | (simp only [ob_si, ar_si, ob_sl, ar_sl]; assumption) | omega) only [ci_0, ci_1, inc_i, ldA_a, ldI_i, oc_22, oc_34, oc_36, oc_7, oc_76, p_0, p_10, p_2, p_3, p_30, p_44, p_45, p_6, p_62, p_80_1, p_80_2, p_80_3, p_80_4, p_9, p_90, wpn_succ, wpn_zero, stp_h, lk_0, lk_s, st1_0, st1_1, st1_2, st2_0, st2_1, st2_2, kj_i, kj_a, kj_l, kj_n, cat_n, cat_i, cat_a, cat_u, cat_l, vc_i, vc_a, rv_s, tl_n, tl_s, Cal'_s, List.length_cons, List.length_nil, i0, i1, iNd, iN_lt, iN_le, iN_eq, iN_add, iN_mul, iN_mod, iN_sub, iN_div, iN_clamp, iN_inb, zle_N, zlt_N, zN_le, zN_lt, zN_eq, Nz_eq, mI_t, mI_f, bI_0, bI_1, bI_t, bI_f, dltT, dltF, dleT, dleF, deqT, deqF, Nat.not_lt_zero, not_true_eq_false, not_false_eq_true, true_and, and_true, false_and, and_false, or_true, true_or, false_or, or_false, and_self, if_true, if_false, Classical.not_not, Nat.add_assoc, Nat.zero_add, Nat.add_zero, bI_or, bI_True, bI_False, Bool.false_eq_true, reduceCtorEq, eq_self, gi_si, gl_si, gr_si, hn_si, hL_si, hX_si, gi_sl, gl_sl, gr_sl, hn_sl, ob_si, ar_si, ob_sl, ar_sl, ks_75_0, ks_75_1, oD, rD0, oM, c_people_q hm hB hA hW, c_mate_q hm hB hA hW])
          exact hn _ _ ⟨f, _, _, he, rfl⟩
      · rw [mqS, if_neg (fun q => h6 q.1)] at he
        (refine wp_go 600 ks_75_0.2.2.2.2.1 ?_; simp (disch := first | assumption | (simp only [ob_si, ar_si, ob_sl, ar_sl]; assumption) | omega) only [ci_0, ci_1, inc_i, ldA_a, ldI_i, oc_22, oc_34, oc_36, oc_7, oc_76, p_0, p_10, p_2, p_3, p_30, p_44, p_45, p_6, p_62, p_80_1, p_80_2, p_80_3, p_80_4, p_9, p_90, wpn_succ, wpn_zero, stp_h, lk_0, lk_s, st1_0, st1_1, st1_2, st2_0, st2_1, st2_2, kj_i, kj_a, kj_l, kj_n, cat_n, cat_i, cat_a, cat_u, cat_l, vc_i, vc_a, rv_s, tl_n, tl_s, Cal'_s, List.length_cons, List.length_nil, i0, i1, iNd, iN_lt, iN_le, iN_eq, iN_add, iN_mul, iN_mod, iN_sub, iN_div, iN_clamp, iN_inb, zle_N, zlt_N, zN_le, zN_lt, zN_eq, Nz_eq, mI_t, mI_f, bI_0, bI_1, bI_t, bI_f, dltT, dltF, dleT, dleF, deqT, deqF, Nat.not_lt_zero, not_true_eq_false, not_false_eq_true, true_and, and_true, false_and, and_false, or_true, true_or, false_or, or_false, and_self, if_true, if_false, Classical.not_not, Nat.add_assoc, Nat.zero_add, Nat.add_zero, bI_or, bI_True, bI_False, Bool.false_eq_true, reduceCtorEq, eq_self, gi_si, gl_si, gr_si, hn_si, hL_si, hX_si, gi_sl, gl_sl, gr_sl, hn_sl, ob_si, ar_si, ob_sl, ar_sl, ks_75_0, ks_75_1, oD, rD0, oM, c_people_q hm hB hA hW, c_mate_q hm hB hA hW])
        exact hn _ _ ⟨f, _, _, he, rfl⟩
    · rintro L h' ⟨f, a, w, he, rfl⟩
      replace hA := At1_d hA f
      replace hB := f.bs hB
      have oD : ob h' 22 4 := hB.ob (by decide) (by decide)
      have rD0 : gr h' 22 0 = some 1 := hB.r (by decide)
      have hm : isM 1 := Or.inl rfl
      have oM : ob h' 1 3 := hB.ob (by decide) (by decide)
      have wN := hW.1
      rw [Nat.sub_self, itr_0] at he
      rw [he]
      (refine wp_go 600 ks_75_0.2.2.2.2.1 ?_; simp (disch := first | assumption | (simp only [ob_si, ar_si, ob_sl, ar_sl]; assumption) | omega) only [ci_0, ci_1, inc_i, ldA_a, ldI_i, oc_22, oc_34, oc_36, oc_7, oc_76, p_0, p_10, p_2, p_3, p_30, p_44, p_45, p_6, p_62, p_80_1, p_80_2, p_80_3, p_80_4, p_9, p_90, wpn_succ, wpn_zero, stp_h, lk_0, lk_s, st1_0, st1_1, st1_2, st2_0, st2_1, st2_2, kj_i, kj_a, kj_l, kj_n, cat_n, cat_i, cat_a, cat_u, cat_l, vc_i, vc_a, rv_s, tl_n, tl_s, Cal'_s, List.length_cons, List.length_nil, i0, i1, iNd, iN_lt, iN_le, iN_eq, iN_add, iN_mul, iN_mod, iN_sub, iN_div, iN_clamp, iN_inb, zle_N, zlt_N, zN_le, zN_lt, zN_eq, Nz_eq, mI_t, mI_f, bI_0, bI_1, bI_t, bI_f, dltT, dltF, dleT, dleF, deqT, deqF, Nat.not_lt_zero, not_true_eq_false, not_false_eq_true, true_and, and_true, false_and, and_false, or_true, true_or, false_or, or_false, and_self, if_true, if_false, Classical.not_not, Nat.add_assoc, Nat.zero_add, Nat.add_zero, bI_or, bI_True, bI_False, Bool.false_eq_true, reduceCtorEq, eq_self, gi_si, gl_si, gr_si, hn_si, hL_si, hX_si, gi_sl, gl_sl, gr_sl, hn_sl, ob_si, ar_si, ob_sl, ar_sl, ks_75_0, ks_75_1, oD, rD0, oM, c_people_q hm hB hA hW])
      exact hQ _ f
  obtain ⟨v, h', r, rfl, f⟩ := Ret_ex (d := 4) (y := 75) (as := [.ref 22, .int (iN t)]) [some (.ref 22), some (.int (iN t)), none, none, none] rfl rfl (key (fun v h' => v = some (.int (iN (mqN x t))) ∧ Fr Sd h h') fun h' a => ⟨rfl, a⟩)
  exact ⟨h', r, f⟩
noncomputable def htS (x : Mt) (t : Nat) (a : Nat × Nat) : Nat × Nat := if mqN x t < a.2 then (t, mqN x t) else a
noncomputable def htN (x : Mt) : Nat × Nat := itr (htS x) 1 4 (0, mqN x 0)
theorem d_hour2 {h : Hp} {x : Mt} (hB : Bs h) (hA : At h 1 x) (hW : Wf x) : ∃ h', Ret 5 74 [.ref 22] h (some (.int (iN (htN x).1))) h' ∧ Fr Sd h h' := by
  have key : ∀ Q : Option Value → Hp → Prop, (∀ h', Fr Sd h h' → Q (some (.int (iN (htN x).1))) h') → wp 5 74 0 [some (.ref 22), none, none, none, none] [] h Q := by
    intro Q hQ
    have oD : ob h 22 4 := hB.ob (by decide) (by decide)
    obtain ⟨h1, r1, f1⟩ := d_mq (t := 0) hB hA hW (by omega)
    (refine wp_go 600 ks_74_0.1 ?_; simp (disch := first | assumption | (simp only [ob_si, ar_si, ob_sl, ar_sl]; assumption) | omega) only [ci_0, ci_1, ci_5, inc_i, ldA_a, ldI_i, oc_75, p_0, p_2, p_3, p_30, p_43, p_44, p_6, p_80_2, p_9, p_90, wpn_succ, wpn_zero, stp_h, lk_0, lk_s, st1_0, st1_1, st1_2, st2_0, st2_1, st2_2, kj_i, kj_a, kj_l, kj_n, cat_n, cat_i, cat_a, cat_u, cat_l, vc_i, vc_a, rv_s, tl_n, tl_s, Cal'_s, List.length_cons, List.length_nil, i0, i1, iNd, iN_lt, iN_le, iN_eq, iN_add, iN_mul, iN_mod, iN_sub, iN_div, iN_clamp, iN_inb, zle_N, zlt_N, zN_le, zN_lt, zN_eq, Nz_eq, mI_t, mI_f, bI_0, bI_1, bI_t, bI_f, dltT, dltF, dleT, dleF, deqT, deqF, Nat.not_lt_zero, not_true_eq_false, not_false_eq_true, true_and, and_true, false_and, and_false, or_true, true_or, false_or, or_false, and_self, if_true, if_false, Classical.not_not, Nat.add_assoc, Nat.zero_add, Nat.add_zero, bI_or, bI_True, bI_False, Bool.false_eq_true, reduceCtorEq, eq_self, gi_si, gl_si, gr_si, hn_si, hL_si, hX_si, gi_sl, gl_sl, gr_sl, hn_sl, ob_si, ar_si, ob_sl, ar_sl, ks_74_0, ks_74_1, oD, Cal_eq r1])
    refine wp_loop (fun t L h' => Fr Sd h h' ∧ ∃ (a : Nat × Nat) (w : Option Value), a.2 ≤ 600 ∧ itr (htS x) t (5 - t) a = htN x ∧ L = [some (.ref 22), some (.int (iN a.1)), some (.int (iN a.2)), some (.int (iN t)), w]) 5 ?_ ?_ 4 1 _ h1 (by omega) ⟨f1, (0, mqN x 0), none, mqN_b hW 0, rfl, rfl⟩
    · rintro t L h' ht ⟨f, a, w, ha, he, rfl⟩ hn
      replace hA := At1_d hA f
      replace hB := f.bs hB
      have oD : ob h' 22 4 := hB.ob (by decide) (by decide)
      obtain ⟨h2, r2, f2⟩ := d_mq (t := t) hB hA hW ht
      have hb := mqN_b hW t
      rw [show 5 - t = 5 - (t + 1) + 1 by omega, itr_s] at he
      by_cases hc : mqN x t < a.2
      · rw [htS, if_pos hc] at he
        (refine wp_go 600 ks_74_0.2.2.2.2.2.2.2.2.1 ?_; simp (disch := first | assumption | (simp only [ob_si, ar_si, ob_sl, ar_sl]; assumption) | omega) only [ci_0, ci_1, ci_5, inc_i, ldA_a, ldI_i, oc_75, p_0, p_2, p_3, p_30, p_43, p_44, p_6, p_80_2, p_9, p_90, wpn_succ, wpn_zero, stp_h, lk_0, lk_s, st1_0, st1_1, st1_2, st2_0, st2_1, st2_2, kj_i, kj_a, kj_l, kj_n, cat_n, cat_i, cat_a, cat_u, cat_l, vc_i, vc_a, rv_s, tl_n, tl_s, Cal'_s, List.length_cons, List.length_nil, i0, i1, iNd, iN_lt, iN_le, iN_eq, iN_add, iN_mul, iN_mod, iN_sub, iN_div, iN_clamp, iN_inb, zle_N, zlt_N, zN_le, zN_lt, zN_eq, Nz_eq, mI_t, mI_f, bI_0, bI_1, bI_t, bI_f, dltT, dltF, dleT, dleF, deqT, deqF, Nat.not_lt_zero, not_true_eq_false, not_false_eq_true, true_and, and_true, false_and, and_false, or_true, true_or, false_or, or_false, and_self, if_true, if_false, Classical.not_not, Nat.add_assoc, Nat.zero_add, Nat.add_zero, bI_or, bI_True, bI_False, Bool.false_eq_true, reduceCtorEq, eq_self, gi_si, gl_si, gr_si, hn_si, hL_si, hX_si, gi_sl, gl_sl, gr_sl, hn_sl, ob_si, ar_si, ob_sl, ar_sl, ks_74_0, ks_74_1, oD, Cal_eq r2])
        exact hn _ _ ⟨f.tr f2, (t, mqN x t), _, hb, he, rfl⟩
      · rw [htS, if_neg hc] at he
        (refine wp_go 600 ks_74_0.2.2.2.2.2.2.2.2.1 ?_; simp (disch := first | assumption | (simp only [ob_si, ar_si, ob_sl, ar_sl]; assumption) | omega) only [ci_0, ci_1, ci_5, inc_i, ldA_a, ldI_i, oc_75, p_0, p_2, p_3, p_30, p_43, p_44, p_6, p_80_2, p_9, p_90, wpn_succ, wpn_zero, stp_h, lk_0, lk_s, st1_0, st1_1, st1_2, st2_0, st2_1, st2_2, kj_i, kj_a, kj_l, kj_n, cat_n, cat_i, cat_a, cat_u, cat_l, vc_i, vc_a, rv_s, tl_n, tl_s, Cal'_s, List.length_cons, List.length_nil, i0, i1, iNd, iN_lt, iN_le, iN_eq, iN_add, iN_mul, iN_mod, iN_sub, iN_div, iN_clamp, iN_inb, zle_N, zlt_N, zN_le, zN_lt, zN_eq, Nz_eq, mI_t, mI_f, bI_0, bI_1, bI_t, bI_f, dltT, dltF, dleT, dleF, deqT, deqF, Nat.not_lt_zero, not_true_eq_false, not_false_eq_true, true_and, and_true, false_and, and_false, or_true, true_or, false_or, or_false, and_self, if_true, if_false, Classical.not_not, Nat.add_assoc, Nat.zero_add, Nat.add_zero, bI_or, bI_True, bI_False, Bool.false_eq_true, reduceCtorEq, eq_self, gi_si, gl_si, gr_si, hn_si, hL_si, hX_si, gi_sl, gl_sl, gr_sl, hn_sl, ob_si, ar_si, ob_sl, ar_sl, ks_74_0, ks_74_1, oD, Cal_eq r2])
        exact hn _ _ ⟨f.tr f2, a, _, ha, he, rfl⟩
    · rintro L h' ⟨f, a, w, ha, he, rfl⟩
      rw [Nat.sub_self, itr_0] at he
      rw [he]
      (refine wp_go 600 ks_74_0.2.2.2.2.2.2.2.2.1 ?_; simp (disch := first | assumption | (simp only [ob_si, ar_si, ob_sl, ar_sl]; assumption) | omega) only [ci_0, ci_1, ci_5, inc_i, ldA_a, ldI_i, oc_75, p_0, p_2, p_3, p_30, p_43, p_44, p_6, p_80_2, p_9, p_90, wpn_succ, wpn_zero, stp_h, lk_0, lk_s, st1_0, st1_1, st1_2, st2_0, st2_1, st2_2, kj_i, kj_a, kj_l, kj_n, cat_n, cat_i, cat_a, cat_u, cat_l, vc_i, vc_a, rv_s, tl_n, tl_s, Cal'_s, List.length_cons, List.length_nil, i0, i1, iNd, iN_lt, iN_le, iN_eq, iN_add, iN_mul, iN_mod, iN_sub, iN_div, iN_clamp, iN_inb, zle_N, zlt_N, zN_le, zN_lt, zN_eq, Nz_eq, mI_t, mI_f, bI_0, bI_1, bI_t, bI_f, dltT, dltF, dleT, dleF, deqT, deqF, Nat.not_lt_zero, not_true_eq_false, not_false_eq_true, true_and, and_true, false_and, and_false, or_true, true_or, false_or, or_false, and_self, if_true, if_false, Classical.not_not, Nat.add_assoc, Nat.zero_add, Nat.add_zero, bI_or, bI_True, bI_False, Bool.false_eq_true, reduceCtorEq, eq_self, gi_si, gl_si, gr_si, hn_si, hL_si, hX_si, gi_sl, gl_sl, gr_sl, hn_sl, ob_si, ar_si, ob_sl, ar_sl, ks_74_0, ks_74_1])
      exact hQ _ f
  obtain ⟨v, h', r, rfl, f⟩ := Ret_ex (d := 5) (y := 74) (as := [.ref 22]) [some (.ref 22), none, none, none, none] rfl rfl (key (fun v h' => v = some (.int (iN (htN x).1)) ∧ Fr Sd h h') fun h' a => ⟨rfl, a⟩)
  exact ⟨h', r, f⟩
