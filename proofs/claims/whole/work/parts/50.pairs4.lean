/-! the model's pairings -/
noncomputable def Pl (h : Hp) (m : Nat) : Prop := gi h 87 28 = iN m ∧ gi h 87 27 = iN (cw m) ∧ ∀ k, k < cw m → ∀ p, p < m → gi h 102 (6 * k + p) = mI (wy m k p)
theorem Pl.pd {h : Hp} {m : Nat} (hm : m ≤ 6) (hP : Pl h m) : Pd h := Or.inr ⟨m, hm, hP⟩
noncomputable def Sl2 : Nat → Prop := fun o => o = 102 ∨ o = 103
noncomputable def Fl2 : Nat → Prop := fun k => k = 27 ∨ k = 28
/-- rows of the ways told so far -/
noncomputable def Rw (h : Hp) (n : Nat) (L : List (List Nat)) : Prop := gi h 87 27 = iN L.length ∧ ∀ k, k < L.length → ∀ p, p < n → gi h 102 (6 * k + p) = mI ((L.getD k []).getD p 0)
theorem getD_app {α : Type} {l : α} {d : α} {L : List α} : (L ++ [l]).getD L.length d = l := by simp
theorem getD_app1 {α : Type} {l : α} {d : α} {L : List α} {k : Nat} (h : k < L.length) : (L ++ [l]).getD k d = L.getD k d := by simp [List.getD, List.getElem?_append_left h]
theorem getD_map {n p : Nat} (h : p < n) (T : Nat → Nat) : ((List.range n).map T).getD p 0 = T p := by simp [List.getD, h]
theorem pow6_le {n : Nat} (hn : n ≤ 6) : 6 ^ n ≤ 46656 := Nat.le_trans (Nat.pow_le_pow_right (by decide) hn) (by decide)
theorem wo_lay {h : Hp} {x : Mt} (hB : Bs h) (hA : Ao h x) (hW : Wf x) (hP : Pd h) : ∃ h', Ret 2 261 [.ref 87] h none h' ∧ Pl h' (xN x) ∧ Fo Sl2 Fl2 h h' := by
  have hn := hW.1
  have hcw := wyL_le (xN x) (by omega)
  have hp6 := pow6_le hn
  have hp0 : 0 < 6 ^ xN x := Nat.pow_pos (by omega)
  have oO := (O_facts hB).1
  have fN : gi h 87 0 = iN (xN x) := hA.1
  have fresh : ¬ gi h 87 28 = iN (xN x) → ∃ h', Ret 2 261 [.ref 87] h none h' ∧ Pl h' (xN x) ∧ Fo Sl2 Fl2 h h' := by
    intro hne
    have key : ∀ Q : Option Value → Hp → Prop, (∀ h', Pl h' (xN x) → Fo Sl2 Fl2 h h' → Q none h') → wp 2 261 0 [some (.ref 87), none, none, none] [] h Q := by
      intro Q hQ
      (refine wp_go 600 ks_261_0.1 ?_; simp (disch := first | with_reducible assumption | omega | (simp only [ob_si, ar_si, ob_sl, ar_sl]; with_reducible assumption)) only [ci_0, ci_1, ci_6, inc_i, ldA_a, ldI_i, oc_260, r_0, r_10, r_12, r_19, r_2, r_3, r_30, r_31, r_42, r_44, r_46, r_50, r_6, r_60, r_62, r_63, r_70, r_71, r_80_3, r_9, r_94, wpn_S, wpn_zero, stp_h, lk_0, lk_s, st1_0, st1_1, st1_2, st2_0, st2_1, st2_2, kj_i, kj_a, kj_l, kj_n, cat_n, cat_i, cat_a, cat_u, cat_l, vc_i, vc_a, rv_s, tl_n, tl_s, Cal'_s, List.length_cons, List.length_nil, i0, i1, iNd, iN_lt, iN_le, iN_eq, iN_add, iN_mul, iN_mod, iN_sub, iN_div, iN_clamp, iN_inb, zle_N, zlt_N, zN_le, zN_lt, zN_eq, Nz_eq, mI_t, mI_f, bI_0, bI_1, bI_t, bI_f, dltT, dltF, dleT, dleF, deqT, deqF, Nat.not_lt_zero, not_true_eq_false, not_false_eq_true, true_and, and_true, false_and, and_false, or_true, true_or, false_or, or_false, and_self, if_true, if_false, Classical.not_not, Nat.add_assoc, Nat.zero_add, Nat.add_zero, bI_or, bI_True, bI_False, Bool.false_eq_true, reduceCtorEq, eq_self, gi_si, gl_si, gr_si, hn_si, hL_si, hX_si, gi_sl, gl_sl, gr_sl, hn_sl, ob_si, ar_si, ob_sl, ar_sl, ks_261_0, ks_261_1, ks_261_2, ks_261_3, oO, fN, hne, up_t, up_f])
      have f0 : Fo Sl2 Fl2 h (si (si h 87 28 (iN (xN x))) 87 27 (iN 0)) := ((Fo.rf _ _ h).sf (by unfold Fl2; omega) _).sf (by unfold Fl2; omega) _
      have n0 : gi (si (si h 87 28 (iN (xN x))) 87 27 (iN 0)) 87 0 = iN (xN x) := by rw [f0.2 0 (by unfold Fl2; omega)]; exact fN
      have m0 : gi (si (si h 87 28 (iN (xN x))) 87 27 (iN 0)) 87 28 = iN (xN x) := by rw [gi_si, up_s, up_f (by omega), gi_si, up_s, up_s]
      have l0 : gi (si (si h 87 28 (iN (xN x))) 87 27 (iN 0)) 87 27 = iN 0 := by rw [gi_si, up_s, up_s]
      have B0 := f0.bs hB
      generalize si (si h 87 28 (iN (xN x))) 87 27 (iN 0) = h0 at *
      have oO0 := (O_facts B0).1
      refine wp_fold (fun i (a : Nat) (_ : Unit) => [some (.ref 87), some (.int (iN (6 ^ i))), some (.int (iN i)), none]) (fun _ a => a) (xN x) ?_ (xN x) 0 0 () (by omega) ?_
      · intro i a w hi hn
        have h6 : 6 ^ i ≤ 46656 := pow6_le (by omega)
        have hn := hn ()
        rw [Nat.pow_succ] at hn
        (refine wp_go 600 ks_261_0.2.2.2.2.2.2.2.2.2.2.2.2.2.2.2.2.2.1 ?_; simp (disch := first | with_reducible assumption | omega | (simp only [ob_si, ar_si, ob_sl, ar_sl]; with_reducible assumption)) only [ci_0, ci_1, ci_6, inc_i, ldA_a, ldI_i, oc_260, r_0, r_10, r_12, r_19, r_2, r_3, r_30, r_31, r_42, r_44, r_46, r_50, r_6, r_60, r_62, r_63, r_70, r_71, r_80_3, r_9, r_94, wpn_S, wpn_zero, stp_h, lk_0, lk_s, st1_0, st1_1, st1_2, st2_0, st2_1, st2_2, kj_i, kj_a, kj_l, kj_n, cat_n, cat_i, cat_a, cat_u, cat_l, vc_i, vc_a, rv_s, tl_n, tl_s, Cal'_s, List.length_cons, List.length_nil, i0, i1, iNd, iN_lt, iN_le, iN_eq, iN_add, iN_mul, iN_mod, iN_sub, iN_div, iN_clamp, iN_inb, zle_N, zlt_N, zN_le, zN_lt, zN_eq, Nz_eq, mI_t, mI_f, bI_0, bI_1, bI_t, bI_f, dltT, dltF, dleT, dleF, deqT, deqF, Nat.not_lt_zero, not_true_eq_false, not_false_eq_true, true_and, and_true, false_and, and_false, or_true, true_or, false_or, or_false, and_self, if_true, if_false, Classical.not_not, Nat.add_assoc, Nat.zero_add, Nat.add_zero, bI_or, bI_True, bI_False, Bool.false_eq_true, reduceCtorEq, eq_self, gi_si, gl_si, gr_si, hn_si, hL_si, hX_si, gi_sl, gl_sl, gr_sl, hn_sl, ob_si, ar_si, ob_sl, ar_sl, ks_261_0, ks_261_1, ks_261_2, ks_261_3, oO0, n0])
        exact hn
      · intro w
        (refine wp_go 600 ks_261_0.2.2.2.2.2.2.2.2.2.2.2.2.2.2.2.2.2.1 ?_; simp (disch := first | with_reducible assumption | omega | (simp only [ob_si, ar_si, ob_sl, ar_sl]; with_reducible assumption)) only [ci_0, ci_1, ci_6, inc_i, ldA_a, ldI_i, oc_260, r_0, r_10, r_12, r_19, r_2, r_3, r_30, r_31, r_42, r_44, r_46, r_50, r_6, r_60, r_62, r_63, r_70, r_71, r_80_3, r_9, r_94, wpn_S, wpn_zero, stp_h, lk_0, lk_s, st1_0, st1_1, st1_2, st2_0, st2_1, st2_2, kj_i, kj_a, kj_l, kj_n, cat_n, cat_i, cat_a, cat_u, cat_l, vc_i, vc_a, rv_s, tl_n, tl_s, Cal'_s, List.length_cons, List.length_nil, i0, i1, iNd, iN_lt, iN_le, iN_eq, iN_add, iN_mul, iN_mod, iN_sub, iN_div, iN_clamp, iN_inb, zle_N, zlt_N, zN_le, zN_lt, zN_eq, Nz_eq, mI_t, mI_f, bI_0, bI_1, bI_t, bI_f, dltT, dltF, dleT, dleF, deqT, deqF, Nat.not_lt_zero, not_true_eq_false, not_false_eq_true, true_and, and_true, false_and, and_false, or_true, true_or, false_or, or_false, and_self, if_true, if_false, Classical.not_not, Nat.add_assoc, Nat.zero_add, Nat.add_zero, bI_or, bI_True, bI_False, Bool.false_eq_true, reduceCtorEq, eq_self, gi_si, gl_si, gr_si, hn_si, hL_si, hX_si, gi_sl, gl_sl, gr_sl, hn_sl, ob_si, ar_si, ob_sl, ar_sl, ks_261_0, ks_261_1, ks_261_2, ks_261_3, oO0, n0])
        have hw0 : (if xN x = 0 then 1 else 6 ^ (xN x - 1)) = (if 1 < 6 ^ xN x then 6 ^ xN x / 6 else 1) := by
          by_cases h0 : xN x = 0
          · rw [if_pos h0, if_neg (by rw [h0]; omega)]
          · obtain ⟨m, hm⟩ : ∃ m, xN x = m + 1 := ⟨xN x - 1, by omega⟩
            have h6 : 0 < 6 ^ m := Nat.pow_pos (by omega)
            rw [if_neg h0, hm, Nat.pow_succ, if_pos (by omega), show m + 1 - 1 = m by omega]
            omega
        have hways := lay_ways hn
        rw [hw0] at hways
        obtain ⟨W0, hW0⟩ : ∃ W0, W0 = (if 1 < 6 ^ xN x then 6 ^ xN x / 6 else 1) := ⟨_, rfl⟩
        rw [← hW0] at hways
        have hW1 : (∃ m, W0 = 6 ^ m) ∧ W0 < 1000000 := by
          rw [hW0]
          exact ⟨wtD_p ⟨xN x, rfl⟩, by split <;> omega⟩
        refine wp_loop (fun c L h' => ∃ (l : List (List Nat)) (w3 : Option Value), cod (fun r => layL (xN x) (xN x) 0 0 W0 r (fun _ => 0)) c (6 ^ xN x - c) l = wyL (xN x) ∧ Rw h' (xN x) l ∧ gi h' 87 28 = iN (xN x) ∧ gi h' 87 0 = iN (xN x) ∧ Fo Sl2 Fl2 h h' ∧ L = [some (.ref 87), some (.int (iN (6 ^ xN x))), some (.int (iN c)), w3]) (6 ^ xN x) ?_ ?_ (6 ^ xN x) 0 _ h0 (by omega) ⟨[], none, hways, ⟨l0, fun k hk => absurd hk (Nat.not_lt_zero k)⟩, m0, n0, f0, rfl⟩
        · rintro c L h1 hc ⟨l, w3, hl, ⟨rl, rr⟩, m1, n1, f1, rfl⟩ hnx
          have B1 := f1.bs hB
          have oO1 := (O_facts B1).1
          have hll := cod_le (fun r => layL (xN x) (xN x) 0 0 W0 r (fun _ => 0)) (6 ^ xN x - c) c l
          rw [hl] at hll
          change l.length ≤ cw (xN x) at hll
          obtain ⟨h2, r2, q2, f2⟩ := o_lay (c := c) (w0 := W0) B1 n1 hn hW1.1 hW1.2 (by omega) (fun _ => 0)
          have f2' : Fo Sl2 Fl2 h1 h2 := f2.mono (fun o ho => Or.inr ho) (fun k hk => hk.elim)
          have B2 := f2.bs B1
          have oO2 := (O_facts B2).1
          have m2 : gi h2 87 28 = iN (xN x) := by rw [f2.2 28 id]; exact m1
          have n2 : gi h2 87 0 = iN (xN x) := by rw [f2.2 0 id]; exact n1
          have l2 : gi h2 87 27 = iN l.length := by rw [f2.2 27 id]; exact rl
          have c2 : ∀ k, k < l.length → ∀ p, p < xN x → gi h2 102 (6 * k + p) = mI ((l.getD k []).getD p 0) := by rw [f2.i (o := 102) (by unfold S103; omega) (by omega)]; exact rr
          rw [show 6 ^ xN x - c = (6 ^ xN x - (c + 1)) + 1 by omega] at hl
          cases hT : layT (xN x) (xN x) 0 0 W0 c (fun _ => 0) with
          | none =>
            rw [hT, bI_f (by intro e; exact e rfl)] at r2
            rw [cod_n (by unfold layL; rw [hT])] at hl
            have hnx := hnx _ h2 ⟨l, w3, hl, ⟨l2, c2⟩, m2, n2, f1.tr f2', rfl⟩
            rw [hW0] at r2
            by_cases c1 : 1 < 6 ^ xN x
            · rw [if_pos c1] at r2
              (refine wp_go 600 ks_261_1.2.2.2.2.2.1 ?_; simp (disch := first | with_reducible assumption | omega | (simp only [ob_si, ar_si, ob_sl, ar_sl]; with_reducible assumption)) only [ci_0, ci_1, ci_6, inc_i, ldA_a, ldI_i, oc_260, r_0, r_10, r_12, r_19, r_2, r_3, r_30, r_31, r_42, r_44, r_46, r_50, r_6, r_60, r_62, r_63, r_70, r_71, r_80_3, r_9, r_94, wpn_S, wpn_zero, stp_h, lk_0, lk_s, st1_0, st1_1, st1_2, st2_0, st2_1, st2_2, kj_i, kj_a, kj_l, kj_n, cat_n, cat_i, cat_a, cat_u, cat_l, vc_i, vc_a, rv_s, tl_n, tl_s, Cal'_s, List.length_cons, List.length_nil, i0, i1, iNd, iN_lt, iN_le, iN_eq, iN_add, iN_mul, iN_mod, iN_sub, iN_div, iN_clamp, iN_inb, zle_N, zlt_N, zN_le, zN_lt, zN_eq, Nz_eq, mI_t, mI_f, bI_0, bI_1, bI_t, bI_f, dltT, dltF, dleT, dleF, deqT, deqF, Nat.not_lt_zero, not_true_eq_false, not_false_eq_true, true_and, and_true, false_and, and_false, or_true, true_or, false_or, or_false, and_self, if_true, if_false, Classical.not_not, Nat.add_assoc, Nat.zero_add, Nat.add_zero, bI_or, bI_True, bI_False, Bool.false_eq_true, reduceCtorEq, eq_self, gi_si, gl_si, gr_si, hn_si, hL_si, hX_si, gi_sl, gl_sl, gr_sl, hn_sl, ob_si, ar_si, ob_sl, ar_sl, ks_261_0, ks_261_1, ks_261_2, ks_261_3, oO1, Cal_eq r2])
              exact hnx
            · rw [if_neg c1] at r2
              (refine wp_go 600 ks_261_1.2.2.2.2.2.1 ?_; simp (disch := first | with_reducible assumption | omega | (simp only [ob_si, ar_si, ob_sl, ar_sl]; with_reducible assumption)) only [ci_0, ci_1, ci_6, inc_i, ldA_a, ldI_i, oc_260, r_0, r_10, r_12, r_19, r_2, r_3, r_30, r_31, r_42, r_44, r_46, r_50, r_6, r_60, r_62, r_63, r_70, r_71, r_80_3, r_9, r_94, wpn_S, wpn_zero, stp_h, lk_0, lk_s, st1_0, st1_1, st1_2, st2_0, st2_1, st2_2, kj_i, kj_a, kj_l, kj_n, cat_n, cat_i, cat_a, cat_u, cat_l, vc_i, vc_a, rv_s, tl_n, tl_s, Cal'_s, List.length_cons, List.length_nil, i0, i1, iNd, iN_lt, iN_le, iN_eq, iN_add, iN_mul, iN_mod, iN_sub, iN_div, iN_clamp, iN_inb, zle_N, zlt_N, zN_le, zN_lt, zN_eq, Nz_eq, mI_t, mI_f, bI_0, bI_1, bI_t, bI_f, dltT, dltF, dleT, dleF, deqT, deqF, Nat.not_lt_zero, not_true_eq_false, not_false_eq_true, true_and, and_true, false_and, and_false, or_true, true_or, false_or, or_false, and_self, if_true, if_false, Classical.not_not, Nat.add_assoc, Nat.zero_add, Nat.add_zero, bI_or, bI_True, bI_False, Bool.false_eq_true, reduceCtorEq, eq_self, gi_si, gl_si, gr_si, hn_si, hL_si, hX_si, gi_sl, gl_sl, gr_sl, hn_sl, ob_si, ar_si, ob_sl, ar_sl, ks_261_0, ks_261_1, ks_261_2, ks_261_3, oO1, Cal_eq r2])
              exact hnx
          | some T =>
            have hT2 := q2 T hT
            rw [hT, bI_t (by intro e; cases e)] at r2
            rw [cod_r (l := (List.range (xN x)).map T) (by unfold layL; rw [hT])] at hl
            have hl2 := cod_le (fun r => layL (xN x) (xN x) 0 0 W0 r (fun _ => 0)) (6 ^ xN x - (c + 1)) (c + 1) (l ++ [(List.range (xN x)).map T])
            rw [hl, List.length_append] at hl2
            change l.length + 1 ≤ cw (xN x) at hl2
            have a26 : gr h2 87 26 = some 102 := B2.r (by decide)
            have a29 : gr h2 87 29 = some 103 := B2.r (by decide)
            have b102 : ar h2 1 102 := B2.ar (by decide) (by decide)
            have b103 : ar h2 1 103 := B2.ar (by decide) (by decide)
            have s102 : (SH 102).2 = 456 := by decide
            have s103 : (SH 103).2 = 6 := by decide
            have inner : wp 2 261 78 [some (.ref 87), some (.int (iN (6 ^ xN x))), some (.int (iN c)), some (.int (iN 0))] [] h2 Q := by
              refine wp_loop (fun p L h' => gi h' 87 27 = iN l.length ∧ (∀ k, k < l.length → ∀ p, p < xN x → gi h' 102 (6 * k + p) = mI ((l.getD k []).getD p 0)) ∧ (∀ i, i < p → gi h' 102 (6 * l.length + i) = mI (T i)) ∧ Fo (fun o => o = 102) (fun _ => False) h2 h' ∧ L = [some (.ref 87), some (.int (iN (6 ^ xN x))), some (.int (iN c)), some (.int (iN p))]) (xN x) ?_ ?_ (xN x) 0 _ h2 (by omega) ⟨l2, c2, fun i hi => absurd hi (Nat.not_lt_zero i), Fo.rf _ _ h2, rfl⟩
              · rintro p L h3 hp ⟨l3, c3, d3, f3, rfl⟩ hny
                have B3 := f3.bs B2
                have oO3 := (O_facts B3).1
                have n3 : gi h3 87 0 = iN (xN x) := by rw [f3.2 0 id]; exact n2
                have e26 : gr h3 87 26 = some 102 := B3.r (by decide)
                have e29 : gr h3 87 29 = some 103 := B3.r (by decide)
                have g102 : ar h3 1 102 := B3.ar (by decide) (by decide)
                have g103 : ar h3 1 103 := B3.ar (by decide) (by decide)
                have t3 : gi h3 103 p = mI (T p) := by rw [f3.i (o := 103) (by omega) (by omega)]; exact hT2 p hp
                have f4 : Fo (fun o => o = 102) (fun _ => False) h2 (si h3 102 (6 * l.length + p) (mI (T p))) := f3.sa (o := 102) rfl (by omega) _ _
                have hny := hny _ (si h3 102 (6 * l.length + p) (mI (T p))) ⟨by rw [gi_si, up_f (by omega)]; exact l3, fun k hk q hq => by rw [gi_si, up_s, up_f (by omega)]; exact c3 k hk q hq, fun i hi => by
                  rw [gi_si, up_s]
                  by_cases e : i = p
                  · rw [e, up_s]
                  · rw [up_f (by omega)]; exact d3 i (by omega), f4, rfl⟩
                (refine wp_go 600 ks_261_1.2.2.2.2.2.2.2.2.2.2.2.2.2.2.2.2.2.2.2.2.2.2.1 ?_; simp (disch := first | with_reducible assumption | omega | (simp only [ob_si, ar_si, ob_sl, ar_sl]; with_reducible assumption)) only [ci_0, ci_1, ci_6, inc_i, ldA_a, ldI_i, oc_260, r_0, r_10, r_12, r_19, r_2, r_3, r_30, r_31, r_42, r_44, r_46, r_50, r_6, r_60, r_62, r_63, r_70, r_71, r_80_3, r_9, r_94, wpn_S, wpn_zero, stp_h, lk_0, lk_s, st1_0, st1_1, st1_2, st2_0, st2_1, st2_2, kj_i, kj_a, kj_l, kj_n, cat_n, cat_i, cat_a, cat_u, cat_l, vc_i, vc_a, rv_s, tl_n, tl_s, Cal'_s, List.length_cons, List.length_nil, i0, i1, iNd, iN_lt, iN_le, iN_eq, iN_add, iN_mul, iN_mod, iN_sub, iN_div, iN_clamp, iN_inb, zle_N, zlt_N, zN_le, zN_lt, zN_eq, Nz_eq, bI_0, bI_1, bI_t, bI_f, dltT, dltF, dleT, dleF, deqT, deqF, Nat.not_lt_zero, not_true_eq_false, not_false_eq_true, true_and, and_true, false_and, and_false, or_true, true_or, false_or, or_false, and_self, if_true, if_false, Classical.not_not, Nat.add_assoc, Nat.zero_add, Nat.add_zero, bI_or, bI_True, bI_False, Bool.false_eq_true, reduceCtorEq, eq_self, gi_si, gl_si, gr_si, hn_si, hL_si, hX_si, gi_sl, gl_sl, gr_sl, hn_sl, ob_si, ar_si, ob_sl, ar_sl, ks_261_0, ks_261_1, ks_261_2, ks_261_3, oO3, n3, e26, e29, g102, g103, s102, s103, l3, t3])
                exact hny
              · rintro L h3 ⟨l3, c3, d3, f3, rfl⟩
                have B3 := f3.bs B2
                have oO3 := (O_facts B3).1
                have n3 : gi h3 87 0 = iN (xN x) := by rw [f3.2 0 id]; exact n2
                have m3 : gi h3 87 28 = iN (xN x) := by rw [f3.2 28 id]; exact m2
                have f4 : Fo Sl2 Fl2 h (si h3 87 27 (iN (l.length + 1))) := ((f1.tr f2').tr (f3.mono (fun o ho => Or.inl ho) (fun k hk => hk.elim))).sf (by unfold Fl2; omega) _
                have hnx := hnx [some (.ref 87), some (.int (iN (6 ^ xN x))), some (.int (iN (c + 1))), some (.int (iN (xN x)))] (si h3 87 27 (iN (l.length + 1))) ⟨l ++ [(List.range (xN x)).map T], _, hl, ⟨by rw [gi_si, up_s, up_s, List.length_append]; rfl, fun k hk p hp => by
                  rw [gi_si, up_f (by omega)]
                  by_cases e : k = l.length
                  · rw [e, d3 p hp, getD_app, getD_map hp]
                  · rw [List.length_append] at hk
                    have hk : k < l.length + 1 := hk
                    rw [getD_app1 (show k < l.length by omega)]
                    exact c3 k (by omega) p hp⟩, by rw [gi_si, up_s, up_f (by omega)]; exact m3, by rw [gi_si, up_s, up_f (by omega)]; exact n3, f4, rfl⟩
                (refine wp_go 600 ks_261_1.2.2.2.2.2.2.2.2.2.2.2.2.2.2.2.2.2.2.2.2.2.2.1 ?_; simp (disch := first | with_reducible assumption | omega | (simp only [ob_si, ar_si, ob_sl, ar_sl]; with_reducible assumption)) only [ci_0, ci_1, ci_6, inc_i, ldA_a, ldI_i, oc_260, r_0, r_10, r_12, r_19, r_2, r_3, r_30, r_31, r_42, r_44, r_46, r_50, r_6, r_60, r_62, r_63, r_70, r_71, r_80_3, r_9, r_94, wpn_S, wpn_zero, stp_h, lk_0, lk_s, st1_0, st1_1, st1_2, st2_0, st2_1, st2_2, kj_i, kj_a, kj_l, kj_n, cat_n, cat_i, cat_a, cat_u, cat_l, vc_i, vc_a, rv_s, tl_n, tl_s, Cal'_s, List.length_cons, List.length_nil, i0, i1, iNd, iN_lt, iN_le, iN_eq, iN_add, iN_mul, iN_mod, iN_sub, iN_div, iN_clamp, iN_inb, zle_N, zlt_N, zN_le, zN_lt, zN_eq, Nz_eq, mI_t, mI_f, bI_0, bI_1, bI_t, bI_f, dltT, dltF, dleT, dleF, deqT, deqF, Nat.not_lt_zero, not_true_eq_false, not_false_eq_true, true_and, and_true, false_and, and_false, or_true, true_or, false_or, or_false, and_self, if_true, if_false, Classical.not_not, Nat.add_assoc, Nat.zero_add, Nat.add_zero, bI_or, bI_True, bI_False, Bool.false_eq_true, reduceCtorEq, eq_self, gi_si, gl_si, gr_si, hn_si, hL_si, hX_si, gi_sl, gl_sl, gr_sl, hn_sl, ob_si, ar_si, ob_sl, ar_sl, ks_261_0, ks_261_1, ks_261_2, ks_261_3, oO3, n3, l3, up_t, up_f])
                exact hnx
            rw [hW0] at r2
            by_cases c1 : 1 < 6 ^ xN x
            · rw [if_pos c1] at r2
              (refine wp_go 600 ks_261_1.2.2.2.2.2.1 ?_; simp (disch := first | with_reducible assumption | omega | (simp only [ob_si, ar_si, ob_sl, ar_sl]; with_reducible assumption)) only [ci_0, ci_1, ci_6, inc_i, ldA_a, ldI_i, oc_260, r_0, r_10, r_12, r_19, r_2, r_3, r_30, r_31, r_42, r_44, r_46, r_50, r_6, r_60, r_62, r_63, r_70, r_71, r_80_3, r_9, r_94, wpn_S, wpn_zero, stp_h, lk_0, lk_s, st1_0, st1_1, st1_2, st2_0, st2_1, st2_2, kj_i, kj_a, kj_l, kj_n, cat_n, cat_i, cat_a, cat_u, cat_l, vc_i, vc_a, rv_s, tl_n, tl_s, Cal'_s, List.length_cons, List.length_nil, i0, i1, iNd, iN_lt, iN_le, iN_eq, iN_add, iN_mul, iN_mod, iN_sub, iN_div, iN_clamp, iN_inb, zle_N, zlt_N, zN_le, zN_lt, zN_eq, Nz_eq, mI_t, mI_f, bI_0, bI_1, bI_t, bI_f, dltT, dltF, dleT, dleF, deqT, deqF, Nat.not_lt_zero, not_true_eq_false, not_false_eq_true, true_and, and_true, false_and, and_false, or_true, true_or, false_or, or_false, and_self, if_true, if_false, Classical.not_not, Nat.add_assoc, Nat.zero_add, Nat.add_zero, bI_or, bI_True, bI_False, Bool.false_eq_true, reduceCtorEq, eq_self, gi_si, gl_si, gr_si, hn_si, hL_si, hX_si, gi_sl, gl_sl, gr_sl, hn_sl, ob_si, ar_si, ob_sl, ar_sl, ks_261_0, ks_261_1, ks_261_2, ks_261_3, oO1, Cal_eq r2])
              exact inner
            · rw [if_neg c1] at r2
              (refine wp_go 600 ks_261_1.2.2.2.2.2.1 ?_; simp (disch := first | with_reducible assumption | omega | (simp only [ob_si, ar_si, ob_sl, ar_sl]; with_reducible assumption)) only [ci_0, ci_1, ci_6, inc_i, ldA_a, ldI_i, oc_260, r_0, r_10, r_12, r_19, r_2, r_3, r_30, r_31, r_42, r_44, r_46, r_50, r_6, r_60, r_62, r_63, r_70, r_71, r_80_3, r_9, r_94, wpn_S, wpn_zero, stp_h, lk_0, lk_s, st1_0, st1_1, st1_2, st2_0, st2_1, st2_2, kj_i, kj_a, kj_l, kj_n, cat_n, cat_i, cat_a, cat_u, cat_l, vc_i, vc_a, rv_s, tl_n, tl_s, Cal'_s, List.length_cons, List.length_nil, i0, i1, iNd, iN_lt, iN_le, iN_eq, iN_add, iN_mul, iN_mod, iN_sub, iN_div, iN_clamp, iN_inb, zle_N, zlt_N, zN_le, zN_lt, zN_eq, Nz_eq, mI_t, mI_f, bI_0, bI_1, bI_t, bI_f, dltT, dltF, dleT, dleF, deqT, deqF, Nat.not_lt_zero, not_true_eq_false, not_false_eq_true, true_and, and_true, false_and, and_false, or_true, true_or, false_or, or_false, and_self, if_true, if_false, Classical.not_not, Nat.add_assoc, Nat.zero_add, Nat.add_zero, bI_or, bI_True, bI_False, Bool.false_eq_true, reduceCtorEq, eq_self, gi_si, gl_si, gr_si, hn_si, hL_si, hX_si, gi_sl, gl_sl, gr_sl, hn_sl, ob_si, ar_si, ob_sl, ar_sl, ks_261_0, ks_261_1, ks_261_2, ks_261_3, oO1, Cal_eq r2])
              exact inner
        · rintro L h1 ⟨l, w3, hl, ⟨rl, rr⟩, m1, n1, f1, rfl⟩
          rw [Nat.sub_self, cod_0] at hl
          subst hl
          (refine wp_go 600 ks_261_1.2.2.2.2.2.1 ?_; simp (disch := first | with_reducible assumption | omega | (simp only [ob_si, ar_si, ob_sl, ar_sl]; with_reducible assumption)) only [ci_0, ci_1, ci_6, inc_i, ldA_a, ldI_i, oc_260, r_0, r_10, r_12, r_19, r_2, r_3, r_30, r_31, r_42, r_44, r_46, r_50, r_6, r_60, r_62, r_63, r_70, r_71, r_80_3, r_9, r_94, wpn_S, wpn_zero, stp_h, lk_0, lk_s, st1_0, st1_1, st1_2, st2_0, st2_1, st2_2, kj_i, kj_a, kj_l, kj_n, cat_n, cat_i, cat_a, cat_u, cat_l, vc_i, vc_a, rv_s, tl_n, tl_s, Cal'_s, List.length_cons, List.length_nil, i0, i1, iNd, iN_lt, iN_le, iN_eq, iN_add, iN_mul, iN_mod, iN_sub, iN_div, iN_clamp, iN_inb, zle_N, zlt_N, zN_le, zN_lt, zN_eq, Nz_eq, mI_t, mI_f, bI_0, bI_1, bI_t, bI_f, dltT, dltF, dleT, dleF, deqT, deqF, Nat.not_lt_zero, not_true_eq_false, not_false_eq_true, true_and, and_true, false_and, and_false, or_true, true_or, false_or, or_false, and_self, if_true, if_false, Classical.not_not, Nat.add_assoc, Nat.zero_add, Nat.add_zero, bI_or, bI_True, bI_False, Bool.false_eq_true, reduceCtorEq, eq_self, gi_si, gl_si, gr_si, hn_si, hL_si, hX_si, gi_sl, gl_sl, gr_sl, hn_sl, ob_si, ar_si, ob_sl, ar_sl, ks_261_0, ks_261_1, ks_261_2, ks_261_3])
          exact hQ _ ⟨m1, rl, rr⟩ f1
    obtain ⟨v, h', r, rfl, a, b⟩ := Ret_ex (d := 2) (y := 261) (as := [.ref 87]) [some (.ref 87), none, none, none] rfl rfl (key (fun v h' => v = none ∧ Pl h' (xN x) ∧ Fo Sl2 Fl2 h h') fun h' a b => ⟨rfl, a, b⟩)
    exact ⟨h', r, a, b⟩
  by_cases he : gi h 87 28 = iN (xN x)
  · rcases hP with e | ⟨m, hm, e1, e2, e3⟩
    · rw [e, Nz_eq (by omega) (by omega) (by omega)] at he; exact he.elim
    · have em : m = xN x := iN_inj (by omega) (by omega) (by rw [← e1, he])
      subst em
      refine ⟨h, ?_, ⟨e1, e2, e3⟩, Fo.rf _ _ h⟩
      refine Ret_L [some (.ref 87), none, none, none] rfl rfl fun Q hQ => ?_
      (refine wp_go 600 ks_261_0.1 ?_; simp (disch := first | with_reducible assumption | omega | (simp only [ob_si, ar_si, ob_sl, ar_sl]; with_reducible assumption)) only [ci_0, ci_1, ci_6, inc_i, ldA_a, ldI_i, oc_260, r_0, r_10, r_12, r_19, r_2, r_3, r_30, r_31, r_42, r_44, r_46, r_50, r_6, r_60, r_62, r_63, r_70, r_71, r_80_3, r_9, r_94, wpn_S, wpn_zero, stp_h, lk_0, lk_s, st1_0, st1_1, st1_2, st2_0, st2_1, st2_2, kj_i, kj_a, kj_l, kj_n, cat_n, cat_i, cat_a, cat_u, cat_l, vc_i, vc_a, rv_s, tl_n, tl_s, Cal'_s, List.length_cons, List.length_nil, i0, i1, iNd, iN_lt, iN_le, iN_eq, iN_add, iN_mul, iN_mod, iN_sub, iN_div, iN_clamp, iN_inb, zle_N, zlt_N, zN_le, zN_lt, zN_eq, Nz_eq, mI_t, mI_f, bI_0, bI_1, bI_t, bI_f, dltT, dltF, dleT, dleF, deqT, deqF, Nat.not_lt_zero, not_true_eq_false, not_false_eq_true, true_and, and_true, false_and, and_false, or_true, true_or, false_or, or_false, and_self, if_true, if_false, Classical.not_not, Nat.add_assoc, Nat.zero_add, Nat.add_zero, bI_or, bI_True, bI_False, Bool.false_eq_true, reduceCtorEq, eq_self, gi_si, gl_si, gr_si, hn_si, hL_si, hX_si, gi_sl, gl_sl, gr_sl, hn_sl, ob_si, ar_si, ob_sl, ar_sl, ks_261_0, ks_261_1, ks_261_2, ks_261_3, oO, fN, he])
      exact hQ
  · exact fresh he
theorem Pl.fr {h h' : Hp} {m : Nat} {S F : Nat → Prop} (hP : Pl h m) (f : Fo S F h h') (h1 : ¬ S 102) (h2 : ¬ F 27) (h3 : ¬ F 28) : Pl h' m := by
  unfold Pl
  rw [f.2 28 h3, f.2 27 h2, f.i h1 (by omega)]; exact hP
theorem Pl_q {h h' : Hp} {m : Nat} (hP : Pl h m) (f : Fo Sq Fq h h') : Pl h' m := hP.fr f (by unfold Sq; omega) (by unfold Fq; omega) (by unfold Fq; omega)
theorem Pl_98 {h h' : Hp} {m : Nat} (hP : Pl h m) (f : Fo (Sc 98) Fc h h') : Pl h' m := hP.fr f (by unfold Sc; omega) (by unfold Fc; omega) (by unfold Fc; omega)
theorem wo_pair {h : Hp} {k : Nat} {x : Mt} (hB : Bs h) (hA : Ao h x) (hW : Wf x) (hP : Pl h (xN x)) (hk : k < cw (xN x)) : ∃ h', Ret 0 262 [.ref 87, .int (iN k)] h none h' ∧ Ao h' (psM x k) ∧ Fo Sq Fq h h' := by
  have hn := hW.1
  have hcw := wyL_le (xN x) (by omega)
  have key : ∀ Q : Option Value → Hp → Prop, (∀ h', Ao h' (psM x k) → Fo Sq Fq h h' → Q none h') → wp 0 262 0 [some (.ref 87), some (.int (iN k)), none] [] h Q := by
    intro Q hQ
    (refine wp_go 600 ks_262_0.1 ?_; simp (disch := first | with_reducible assumption | omega | (simp only [ob_si, ar_si, ob_sl, ar_sl]; with_reducible assumption)) only [ci_0, ci_1, ci_6, inc_i, ldA_a, ldI_i, r_0, r_10, r_12, r_2, r_3, r_30, r_44, r_6, r_60, r_62, r_70, r_71, r_9, r_94, wpn_S, wpn_zero, stp_h, lk_0, lk_s, st1_0, st1_1, st1_2, st2_0, st2_1, st2_2, kj_i, kj_a, kj_l, kj_n, cat_n, cat_i, cat_a, cat_u, cat_l, vc_i, vc_a, rv_s, tl_n, tl_s, Cal'_s, List.length_cons, List.length_nil, i0, i1, iNd, iN_lt, iN_le, iN_eq, iN_add, iN_mul, iN_mod, iN_sub, iN_div, iN_clamp, iN_inb, zle_N, zlt_N, zN_le, zN_lt, zN_eq, Nz_eq, mI_t, mI_f, bI_0, bI_1, bI_t, bI_f, dltT, dltF, dleT, dleF, deqT, deqF, Nat.not_lt_zero, not_true_eq_false, not_false_eq_true, true_and, and_true, false_and, and_false, or_true, true_or, false_or, or_false, and_self, if_true, if_false, Classical.not_not, Nat.add_assoc, Nat.zero_add, Nat.add_zero, bI_or, bI_True, bI_False, Bool.false_eq_true, reduceCtorEq, eq_self, gi_si, gl_si, gr_si, hn_si, hL_si, hX_si, gi_sl, gl_sl, gr_sl, hn_sl, ob_si, ar_si, ob_sl, ar_sl, ks_262_0])
    refine wp_loop (fun p L h' => (∀ i, i < 6 → gi h' 91 i = mI (if i < p then wy (xN x) k i else xM x i)) ∧ Fo (fun o => o = 91) (fun _ => False) h h' ∧ L = [some (.ref 87), some (.int (iN k)), some (.int (iN p))]) (xN x) ?_ ?_ (xN x) 0 _ h (by omega) ⟨fun i hi => by rw [if_neg (Nat.not_lt_zero i)]; exact hA.2.2.2.2.2.1 i hi, Fo.rf _ _ h, rfl⟩
    · rintro p L h1 hp ⟨hM, f1, rfl⟩ hnx
      have B1 := f1.bs hB
      have n1 : gi h1 87 0 = iN (xN x) := by rw [f1.2 0 id]; exact hA.1
      obtain ⟨q0, t1, t2, t3, t4, t5, t8, y1, y2, y3, y4, y5, y8, z1, z2, z3, z4, z5, z8⟩ := O_facts B1
      have e26 : gr h1 87 26 = some 102 := B1.r (by decide)
      have g102 : ar h1 1 102 := B1.ar (by decide) (by decide)
      have s102 : (SH 102).2 = 456 := by decide
      have w1 : gi h1 102 (6 * k + p) = mI (wy (xN x) k p) := by rw [f1.i (o := 102) (by omega) (by omega)]; exact hP.2.2 k hk p hp
      have hnx := hnx _ (si h1 91 p (mI (wy (xN x) k p))) ⟨fun i hi => by
        rw [gi_si, up_s]
        by_cases e : i = p
        · rw [up_t e, if_pos (by omega), e]
        · rw [up_f e, hM i hi]
          by_cases e2 : i < p
          · rw [if_pos e2, if_pos (by omega)]
          · rw [if_neg e2, if_neg (by omega)], f1.sa (o := 91) rfl (by omega) _ _, rfl⟩
      (refine wp_go 600 ks_262_0.2.2.1 ?_; simp (disch := first | with_reducible assumption | omega | (simp only [ob_si, ar_si, ob_sl, ar_sl]; with_reducible assumption)) only [ci_0, ci_1, ci_6, inc_i, ldA_a, ldI_i, r_0, r_10, r_12, r_2, r_3, r_30, r_44, r_6, r_60, r_62, r_70, r_71, r_9, r_94, wpn_S, wpn_zero, stp_h, lk_0, lk_s, st1_0, st1_1, st1_2, st2_0, st2_1, st2_2, kj_i, kj_a, kj_l, kj_n, cat_n, cat_i, cat_a, cat_u, cat_l, vc_i, vc_a, rv_s, tl_n, tl_s, Cal'_s, List.length_cons, List.length_nil, i0, i1, iNd, iN_lt, iN_le, iN_eq, iN_add, iN_mul, iN_mod, iN_sub, iN_div, iN_clamp, iN_inb, zle_N, zlt_N, zN_le, zN_lt, zN_eq, Nz_eq, bI_0, bI_1, bI_t, bI_f, dltT, dltF, dleT, dleF, deqT, deqF, Nat.not_lt_zero, not_true_eq_false, not_false_eq_true, true_and, and_true, false_and, and_false, or_true, true_or, false_or, or_false, and_self, if_true, if_false, Classical.not_not, Nat.add_assoc, Nat.zero_add, Nat.add_zero, bI_or, bI_True, bI_False, Bool.false_eq_true, reduceCtorEq, eq_self, gi_si, gl_si, gr_si, hn_si, hL_si, hX_si, gi_sl, gl_sl, gr_sl, hn_sl, ob_si, ar_si, ob_sl, ar_sl, ks_262_0, q0, n1, t4, y4, z4, e26, g102, s102, w1])
      exact hnx
    · rintro L h1 ⟨hM, f1, rfl⟩
      have B1 := f1.bs hB
      have q0 := (O_facts B1).1
      have n1 : gi h1 87 0 = iN (xN x) := by rw [f1.2 0 id]; exact hA.1
      (refine wp_go 600 ks_262_0.2.2.1 ?_; simp (disch := first | with_reducible assumption | omega | (simp only [ob_si, ar_si, ob_sl, ar_sl]; with_reducible assumption)) only [ci_0, ci_1, ci_6, inc_i, ldA_a, ldI_i, r_0, r_10, r_12, r_2, r_3, r_30, r_44, r_6, r_60, r_62, r_70, r_71, r_9, r_94, wpn_S, wpn_zero, stp_h, lk_0, lk_s, st1_0, st1_1, st1_2, st2_0, st2_1, st2_2, kj_i, kj_a, kj_l, kj_n, cat_n, cat_i, cat_a, cat_u, cat_l, vc_i, vc_a, rv_s, tl_n, tl_s, Cal'_s, List.length_cons, List.length_nil, i0, i1, iNd, iN_lt, iN_le, iN_eq, iN_add, iN_mul, iN_mod, iN_sub, iN_div, iN_clamp, iN_inb, zle_N, zlt_N, zN_le, zN_lt, zN_eq, Nz_eq, mI_t, mI_f, bI_0, bI_1, bI_t, bI_f, dltT, dltF, dleT, dleF, deqT, deqF, Nat.not_lt_zero, not_true_eq_false, not_false_eq_true, true_and, and_true, false_and, and_false, or_true, true_or, false_or, or_false, and_self, if_true, if_false, Classical.not_not, Nat.add_assoc, Nat.zero_add, Nat.add_zero, bI_or, bI_True, bI_False, Bool.false_eq_true, reduceCtorEq, eq_self, gi_si, gl_si, gr_si, hn_si, hL_si, hX_si, gi_sl, gl_sl, gr_sl, hn_sl, ob_si, ar_si, ob_sl, ar_sl, ks_262_0, q0, n1])
      refine hQ _ ⟨n1, by rw [f1.2 6 id]; exact hA.2.1, ?_, ?_, ?_, ?_, ?_⟩ (f1.mono (fun o ho => by unfold Sq; omega) (fun k hk => hk.elim))
      · rw [f1.i (o := 88) (by omega) (by omega)]; exact hA.2.2.1
      · rw [f1.i (o := 89) (by omega) (by omega)]; exact hA.2.2.2.1
      · rw [f1.i (o := 90) (by omega) (by omega)]; exact hA.2.2.2.2.1
      · exact hM
      · rw [f1.i (o := 92) (by omega) (by omega)]; exact hA.2.2.2.2.2.2
  obtain ⟨v, h', r, rfl, A, f⟩ := Ret_ex (d := 0) (y := 262) (as := [.ref 87, .int (iN k)]) [some (.ref 87), some (.int (iN k)), none] rfl rfl (key (fun v h' => v = none ∧ Ao h' (psM x k) ∧ Fo Sq Fq h h') fun h' a b => ⟨rfl, a, b⟩)
  exact ⟨h', r, A, f⟩
