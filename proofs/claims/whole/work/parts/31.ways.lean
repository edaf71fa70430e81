/-! all ways to put people two by two -/
noncomputable def pI (t : Nat) : Int32 := if t < 6 then iN t else if t = 6 then zI (-9) else zI (-1)
theorem pI_t {t : Nat} (h : t < 6) : pI t = iN t := if_pos h
theorem pI_6 : pI 6 = zI (-9) := rfl
theorem pI_7 : pI 7 = zI (-1) := rfl
theorem pI_m {t : Nat} (h : t ≤ 6) : pI t = mI t := by
  by_cases e : t < 6
  · rw [pI_t e, mI_t e]
  · rw [mI_f e, show t = 6 by omega]; rfl
theorem pI_n {t : Nat} (h : t ≤ 7) : (pI t = zI (-1)) = (t = 7) := by
  by_cases e : t < 6
  · rw [pI_t e, zN_eq (by omega) (by omega) (by omega)]; exact propext ⟨False.elim, fun q => by omega⟩
  · rcases (show t = 6 ∨ t = 7 by omega) with rfl | rfl
    · rw [pI_6]; exact propext ⟨fun q => absurd q (by rw [zI_def, zI_def]; decide), fun q => by omega⟩
    · rw [pI_7]; exact propext ⟨fun _ => rfl, fun _ => rfl⟩
abbrev Ws : Type := (Nat → Nat) × List (List Nat)
noncomputable def putS (n : Nat) : Nat → Nat → Ws → Ws
  | 0, _, s => (s.1, s.2 ++ [(List.range n).map s.1])
  | k + 1, p, s => if s.1 p = 7 then
      (fun s2 : Ws => (up s2.1 p 7, s2.2)) (itr (fun o (s : Ws) => if s.1 o = 7 then (fun t : Ws => (up t.1 o 7, t.2)) (putS n k (p + 1) (up (up s.1 p o) o p, s.2)) else s) (p + 1) k (putS n k (p + 1) (up s.1 p 6, s.2)))
    else putS n k (p + 1) s
noncomputable def putB (n k p : Nat) (o : Nat) (s : Ws) : Ws := if s.1 o = 7 then (fun t : Ws => (up t.1 o 7, t.2)) (putS n k (p + 1) (up (up s.1 p o) o p, s.2)) else s
theorem putS_0 (n p : Nat) (s : Ws) : putS n 0 p s = (s.1, s.2 ++ [(List.range n).map s.1]) := rfl
theorem putS_t {n k p : Nat} {s : Ws} (h : s.1 p = 7) : putS n (k + 1) p s = (fun s2 : Ws => (up s2.1 p 7, s2.2)) (itr (putB n k p) (p + 1) k (putS n k (p + 1) (up s.1 p 6, s.2))) := if_pos h
theorem putS_f {n k p : Nat} {s : Ws} (h : ¬ s.1 p = 7) : putS n (k + 1) p s = putS n k (p + 1) s := if_neg h
theorem itr_le {α : Type} {f : Nat → α → α} {m : α → Nat} (hf : ∀ i a, m a ≤ m (f i a)) : ∀ (k i : Nat) (a : α), m a ≤ m (itr f i k a)
  | 0, _, _ => Nat.le_refl _
  | k + 1, i, a => Nat.le_trans (hf i a) (itr_le hf k (i + 1) _)
theorem putS_le (n : Nat) : ∀ (k p : Nat) (s : Ws), s.2.length ≤ (putS n k p s).2.length
  | 0, p, s => by rw [putS_0]; simp
  | k + 1, p, s => by
    by_cases h : s.1 p = 7
    · rw [putS_t h]
      refine Nat.le_trans (putS_le n k (p + 1) (up s.1 p 6, s.2)) (itr_le (m := fun s : Ws => s.2.length) (fun o s => ?_) k (p + 1) _)
      unfold putB
      split
      · exact putS_le n k (p + 1) (up (up s.1 p o) o p, s.2)
      · exact Nat.le_refl _
    · rw [putS_f h]; exact putS_le n k (p + 1) s
theorem putB_le (n k p o : Nat) (s : Ws) : s.2.length ≤ (putB n k p o s).2.length := by
  unfold putB
  split
  · exact putS_le n k (p + 1) (up (up s.1 p o) o p, s.2)
  · exact Nat.le_refl _
/-- what is put so far stays in bounds -/
theorem putS_7 (n : Nat) (hn : n ≤ 6) : ∀ (k p : Nat) (s : Ws), p + k = n → (∀ i, s.1 i ≤ 7) → ∀ i, (putS n k p s).1 i ≤ 7
  | 0, p, s, _, h => h
  | k + 1, p, s, hk, h => by
    by_cases e : s.1 p = 7
    · rw [putS_t e]
      refine up_le ?_ (Nat.le_refl 7)
      refine itr_inv2 (P := fun s : Ws => ∀ i, s.1 i ≤ 7) k (p + 1) _ (fun o a h1 h2 ha => ?_) (putS_7 n hn k (p + 1) _ (by omega) (up_le h (by omega)))
      unfold putB
      split
      · exact up_le (putS_7 n hn k (p + 1) _ (by omega) (up_le (up_le ha (by omega)) (by omega))) (Nat.le_refl 7)
      · exact ha
    · rw [putS_f e]; exact putS_7 n hn k (p + 1) s (by omega) h
noncomputable def Sw : Nat → Prop := fun o => o = 24 ∨ o = 25 ∨ o = 26
noncomputable def Wy (h : Hp) (n : Nat) (s : Ws) : Prop := gi h 24 2 = iN n ∧ gi h 24 3 = iN s.2.length ∧ (∀ p, p < 6 → gi h 26 p = pI (s.1 p)) ∧ ∀ k, k < s.2.length → ∀ p, p < n → gi h 25 (k * 6 + p) = pI ((s.2.getD k []).getD p 0)
theorem Y_facts {h : Hp} (hB : Bs h) : ob h 24 10 ∧ gr h 24 0 = some 25 ∧ gr h 24 1 = some 26 ∧ ar h 1 25 ∧ ar h 1 26 ∧ (SH 25).2 = 456 ∧ (SH 26).2 = 6 := ⟨hB.ob (by decide) (by decide), hB.r (by decide), hB.r (by decide), hB.ar (by decide) (by decide), hB.ar (by decide) (by decide), by decide, by decide⟩
theorem y_keep {h : Hp} {n : Nat} {s : Ws} (hB : Bs h) (hY : Wy h n s) (hn : n ≤ 6) (hl : s.2.length < 76) : ∃ h', Ret 1 145 [.ref 24] h none h' ∧ Wy h' n (s.1, s.2 ++ [(List.range n).map s.1]) ∧ Fr Sw h h' := by
  have key : ∀ Q : Option Value → Hp → Prop, (∀ h', Wy h' n (s.1, s.2 ++ [(List.range n).map s.1]) → Fr Sw h h' → Q none h') → wp 1 145 0 [some (.ref 24), none] [] h Q := by
    intro Q hQ
    (refine wp_go 600 ks_145_0.1 ?_; simp (disch := first | assumption | (simp only [ob_si, ar_si, ob_sl, ar_sl]; assumption) | omega) only [ci_0, ci_1, ci_6, inc_i, ldA_a, ldI_i, p_0, p_10, p_12, p_2, p_3, p_30, p_44, p_50, p_6, p_60, p_62, p_63, p_81_2, p_81_3, p_9, p_94, wpn_succ, wpn_zero, stp_h, lk_0, lk_s, st1_0, st1_1, st1_2, st2_0, st2_1, st2_2, kj_i, kj_a, kj_l, kj_n, cat_n, cat_i, cat_a, cat_u, cat_l, vc_i, vc_a, rv_s, tl_n, tl_s, Cal'_s, List.length_cons, List.length_nil, i0, i1, iNd, iN_lt, iN_le, iN_eq, iN_add, iN_mul, iN_mod, iN_sub, iN_div, iN_clamp, iN_inb, zle_N, zlt_N, zN_le, zN_lt, zN_eq, Nz_eq, mI_t, mI_f, bI_0, bI_1, bI_t, bI_f, dltT, dltF, dleT, dleF, deqT, deqF, Nat.not_lt_zero, not_true_eq_false, not_false_eq_true, true_and, and_true, false_and, and_false, or_true, true_or, false_or, or_false, and_self, if_true, if_false, Classical.not_not, Nat.add_assoc, Nat.zero_add, Nat.add_zero, bI_or, bI_True, bI_False, Bool.false_eq_true, reduceCtorEq, eq_self, gi_si, gl_si, gr_si, hn_si, hL_si, hX_si, gi_sl, gl_sl, gr_sl, hn_sl, ob_si, ar_si, ob_sl, ar_sl, ks_145_0, ks_145_1])
    refine wp_loop (fun p L h' => L = [some (.ref 24), some (.int (iN p))] ∧ Fr Sw h h' ∧ Wy h' n s ∧ ∀ i, i < p → gi h' 25 (s.2.length * 6 + i) = pI (s.1 i)) n ?_ ?_ n 0 _ h (by omega) ⟨rfl, Fr.rf _ h, hY, fun i hi => by omega⟩
    · rintro p L h1 hp ⟨rfl, f, ⟨y1, y2, y3, y4⟩, a⟩ hnx
      obtain ⟨oY, rY0, rY1, aY1, aY2, sY1, sY2⟩ := Y_facts (f.bs hB)
      (refine wp_go 600 ks_145_0.2.2.1 ?_; simp (disch := first | assumption | (simp only [ob_si, ar_si, ob_sl, ar_sl]; assumption) | omega) only [ci_0, ci_1, ci_6, inc_i, ldA_a, ldI_i, p_0, p_10, p_12, p_2, p_3, p_30, p_44, p_50, p_6, p_60, p_62, p_63, p_81_2, p_81_3, p_9, p_94, wpn_succ, wpn_zero, stp_h, lk_0, lk_s, st1_0, st1_1, st1_2, st2_0, st2_1, st2_2, kj_i, kj_a, kj_l, kj_n, cat_n, cat_i, cat_a, cat_u, cat_l, vc_i, vc_a, rv_s, tl_n, tl_s, Cal'_s, List.length_cons, List.length_nil, i0, i1, iNd, iN_lt, iN_le, iN_eq, iN_add, iN_mul, iN_mod, iN_sub, iN_div, iN_clamp, iN_inb, zle_N, zlt_N, zN_le, zN_lt, zN_eq, Nz_eq, mI_t, mI_f, bI_0, bI_1, bI_t, bI_f, dltT, dltF, dleT, dleF, deqT, deqF, Nat.not_lt_zero, not_true_eq_false, not_false_eq_true, true_and, and_true, false_and, and_false, or_true, true_or, false_or, or_false, and_self, if_true, if_false, Classical.not_not, Nat.add_assoc, Nat.zero_add, Nat.add_zero, bI_or, bI_True, bI_False, Bool.false_eq_true, reduceCtorEq, eq_self, gi_si, gl_si, gr_si, hn_si, hL_si, hX_si, gi_sl, gl_sl, gr_sl, hn_sl, ob_si, ar_si, ob_sl, ar_sl, ks_145_0, ks_145_1, oY, rY0, rY1, aY1, aY2, y1, y2, y3, c_cell_q, c_set_q])
      refine hnx _ _ ⟨rfl, f.si (by unfold Sw; omega) _ _, ⟨?_, ?_, ?_, ?_⟩, ?_⟩
      · simp (disch := omega) only [gi_si, up_f]; exact y1
      · simp (disch := omega) only [gi_si, up_f]; exact y2
      · simp (disch := omega) only [gi_si, up_f]; exact y3
      · intro k hk i hi
        rw [gi_si, up_s, up_f (by omega)]
        exact y4 k hk i hi
      · intro i hi
        rw [gi_si, up_s]
        by_cases e : i = p
        · rw [up_t (by omega), e]
        · rw [up_f (by omega)]; exact a i (by omega)
    · rintro L h1 ⟨rfl, f, ⟨y1, y2, y3, y4⟩, a⟩
      obtain ⟨oY, rY0, rY1, aY1, aY2, sY1, sY2⟩ := Y_facts (f.bs hB)
      (refine wp_go 600 ks_145_0.2.2.1 ?_; simp (disch := first | assumption | (simp only [ob_si, ar_si, ob_sl, ar_sl]; assumption) | omega) only [ci_0, ci_1, ci_6, inc_i, ldA_a, ldI_i, p_0, p_10, p_12, p_2, p_3, p_30, p_44, p_50, p_6, p_60, p_62, p_63, p_81_2, p_81_3, p_9, p_94, wpn_succ, wpn_zero, stp_h, lk_0, lk_s, st1_0, st1_1, st1_2, st2_0, st2_1, st2_2, kj_i, kj_a, kj_l, kj_n, cat_n, cat_i, cat_a, cat_u, cat_l, vc_i, vc_a, rv_s, tl_n, tl_s, Cal'_s, List.length_cons, List.length_nil, i0, i1, iNd, iN_lt, iN_le, iN_eq, iN_add, iN_mul, iN_mod, iN_sub, iN_div, iN_clamp, iN_inb, zle_N, zlt_N, zN_le, zN_lt, zN_eq, Nz_eq, mI_t, mI_f, bI_0, bI_1, bI_t, bI_f, dltT, dltF, dleT, dleF, deqT, deqF, Nat.not_lt_zero, not_true_eq_false, not_false_eq_true, true_and, and_true, false_and, and_false, or_true, true_or, false_or, or_false, and_self, if_true, if_false, Classical.not_not, Nat.add_assoc, Nat.zero_add, Nat.add_zero, bI_or, bI_True, bI_False, Bool.false_eq_true, reduceCtorEq, eq_self, gi_si, gl_si, gr_si, hn_si, hL_si, hX_si, gi_sl, gl_sl, gr_sl, hn_sl, ob_si, ar_si, ob_sl, ar_sl, ks_145_0, ks_145_1, oY, y1, y2])
      refine hQ _ ⟨?_, ?_, ?_, ?_⟩ (f.si (by unfold Sw; omega) _ _)
      · simp (disch := omega) only [gi_si, up_f, up_s]; exact y1
      · rw [gi_si, up_s, up_s, List.length_append]; rfl
      · simp (disch := omega) only [gi_si, up_f]; exact y3
      · intro k hk i hi
        rw [gi_si, up_f (by omega)]
        rw [List.length_append] at hk
        change k < s.2.length + 1 at hk
        by_cases e : k = s.2.length
        · rw [e, a i hi]
          congr 1
          simp [List.getD, hi]
        · rw [y4 k (by omega) i hi]
          congr 2
          simp only [List.getD]
          rw [List.getElem?_append_left (by omega)]
  obtain ⟨v, h', r, rfl, A, f⟩ := Ret_ex (d := 1) (y := 145) (as := [.ref 24]) [some (.ref 24), none] rfl rfl (key (fun v h' => v = none ∧ Wy h' n (s.1, s.2 ++ [(List.range n).map s.1]) ∧ Fr Sw h h') fun h' a b => ⟨rfl, a, b⟩)
  exact ⟨h', r, A, f⟩
theorem Wy_u {h : Hp} {n i v : Nat} {s : Ws} (hY : Wy h n s) : Wy (si h 26 i (pI v)) n (up s.1 i v, s.2) := by
  obtain ⟨y1, y2, y3, y4⟩ := hY
  refine ⟨?_, ?_, ?_, ?_⟩
  · simp (disch := omega) only [gi_si, up_f]; exact y1
  · simp (disch := omega) only [gi_si, up_f]; exact y2
  · intro p hp
    rw [gi_si, up_s]
    by_cases e : p = i
    · rw [up_t e]; show _ = pI (up s.1 i v p); rw [up_t e]
    · rw [up_f e]; show _ = pI (up s.1 i v p); rw [up_f e]; exact y3 p hp
  · intro k hk p hp
    rw [gi_si, up_f (by omega)]; exact y4 k hk p hp
theorem y_put {n : Nat} (hn : n ≤ 6) : ∀ (k p : Nat) (h : Hp) (s : Ws), p + k = n → Bs h → Wy h n s → (∀ i, s.1 i ≤ 7) → (putS n k p s).2.length ≤ 76 → ∃ h', Ret (k + 2) 144 [.ref 24, .int (iN p)] h none h' ∧ Wy h' n (putS n k p s) ∧ Fr Sw h h' := by
  intro k
  induction k with
  | zero =>
    intro p h s hk hB hY h7 hl
    rw [putS_0, List.length_append] at hl
    change s.2.length + 1 ≤ 76 at hl
    obtain ⟨h1, r1, Y1, f1⟩ := y_keep hB hY hn (by omega)
    refine ⟨h1, ?_, Y1, f1⟩
    obtain ⟨oY, rY0, rY1, aY1, aY2, sY1, sY2⟩ := Y_facts hB
    obtain ⟨y1, y2, y3, y4⟩ := hY
    refine Ret_L [some (.ref 24), some (.int (iN p)), none] rfl rfl fun Q hQ => ?_
    (refine wp_go 600 ks_144_0.1 ?_; simp (disch := first | assumption | (simp only [ob_si, ar_si, ob_sl, ar_sl]; assumption) | omega) only [ci_1, cm_1, cm_9, inc_i, ldA_a, ldI_i, oc_145, p_0, p_10, p_2, p_3, p_30, p_41, p_43, p_44, p_6, p_60, p_62, p_80_1, p_81_2, p_81_3, p_9, p_94, wpn_succ, wpn_zero, stp_h, lk_0, lk_s, st1_0, st1_1, st1_2, st2_0, st2_1, st2_2, kj_i, kj_a, kj_l, kj_n, cat_n, cat_i, cat_a, cat_u, cat_l, vc_i, vc_a, rv_s, tl_n, tl_s, Cal'_s, List.length_cons, List.length_nil, i0, i1, iNd, iN_lt, iN_le, iN_eq, iN_add, iN_mul, iN_mod, iN_sub, iN_div, iN_clamp, iN_inb, zle_N, zlt_N, zN_le, zN_lt, zN_eq, Nz_eq, mI_t, mI_f, bI_0, bI_1, bI_t, bI_f, dltT, dltF, dleT, dleF, deqT, deqF, Nat.not_lt_zero, not_true_eq_false, not_false_eq_true, true_and, and_true, false_and, and_false, or_true, true_or, false_or, or_false, and_self, if_true, if_false, Classical.not_not, Nat.add_assoc, Nat.zero_add, Nat.add_zero, bI_or, bI_True, bI_False, Bool.false_eq_true, reduceCtorEq, eq_self, gi_si, gl_si, gr_si, hn_si, hL_si, hX_si, gi_sl, gl_sl, gr_sl, hn_sl, ob_si, ar_si, ob_sl, ar_sl, ks_144_0, ks_144_1, ks_144_2, oY, rY0, rY1, y1, Cal_eq r1])
    exact hQ
  | succ k ih =>
    intro p h s hk hB hY h7 hl
    obtain ⟨oY, rY0, rY1, aY1, aY2, sY1, sY2⟩ := Y_facts hB
    obtain ⟨y1, y2, y3, y4⟩ := id hY
    have h7p := h7 p
    by_cases e : s.1 p = 7
    · have hl0 : (putS n k (p + 1) (up s.1 p 6, s.2)).2.length ≤ 76 := by
        rw [putS_t e] at hl
        exact Nat.le_trans (itr_le (m := fun s : Ws => s.2.length) (putB_le n k p) k (p + 1) _) hl
      have Y0 := Wy_u (i := p) (v := 6) hY
      obtain ⟨h1, r1, Y1, f1⟩ := ih (p + 1) _ _ (by omega) (hB.si 26 p (pI 6)) Y0 (up_le h7 (by omega)) hl0
      have f1' : Fr Sw h h1 := ((Fr.rf Sw h).si (by unfold Sw; omega) _ _).tr f1
      have key : ∀ Q : Option Value → Hp → Prop, (∀ h', Wy h' n (putS n (k + 1) p s) → Fr Sw h h' → Q none h') → wp (k + 1 + 2) 144 0 [some (.ref 24), some (.int (iN p)), none] [] h Q := by
        intro Q hQ
        rw [pI_6] at r1
        (refine wp_go 600 ks_144_0.1 ?_; simp (disch := first | assumption | (simp only [ob_si, ar_si, ob_sl, ar_sl]; assumption) | omega) only [ci_1, cm_1, cm_9, inc_i, ldA_a, ldI_i, oc_145, p_0, p_10, p_2, p_3, p_30, p_41, p_43, p_44, p_6, p_60, p_62, p_80_1, p_81_2, p_81_3, p_9, p_94, wpn_succ, wpn_zero, stp_h, lk_0, lk_s, st1_0, st1_1, st1_2, st2_0, st2_1, st2_2, kj_i, kj_a, kj_l, kj_n, cat_n, cat_i, cat_a, cat_u, cat_l, vc_i, vc_a, rv_s, tl_n, tl_s, Cal'_s, List.length_cons, List.length_nil, i0, i1, iNd, iN_lt, iN_le, iN_eq, iN_add, iN_mul, iN_mod, iN_sub, iN_div, iN_clamp, iN_inb, zle_N, zlt_N, zN_le, zN_lt, zN_eq, Nz_eq, mI_t, mI_f, bI_0, bI_1, bI_t, bI_f, dltT, dltF, dleT, dleF, deqT, deqF, Nat.not_lt_zero, not_true_eq_false, not_false_eq_true, true_and, and_true, false_and, and_false, or_true, true_or, false_or, or_false, and_self, if_true, if_false, Classical.not_not, Nat.add_assoc, Nat.zero_add, Nat.add_zero, bI_or, bI_True, bI_False, Bool.false_eq_true, reduceCtorEq, eq_self, gi_si, gl_si, gr_si, hn_si, hL_si, hX_si, gi_sl, gl_sl, gr_sl, hn_sl, ob_si, ar_si, ob_sl, ar_sl, ks_144_0, ks_144_1, ks_144_2, oY, rY0, rY1, aY2, y1, y3, e, pI_7, pI_n, c_cell_q, c_set_q, Cal_eq r1])
        refine wp_loop (fun o L h' => p < o ∧ L = [some (.ref 24), some (.int (iN p)), some (.int (iN o))] ∧ Fr Sw h h' ∧ ∃ t : Ws, (∀ i, t.1 i ≤ 7) ∧ itr (putB n k p) o (n - o) t = itr (putB n k p) (p + 1) k (putS n k (p + 1) (up s.1 p 6, s.2)) ∧ Wy h' n t) n ?_ ?_ k (p + 1) _ h1 (by omega) ⟨by omega, rfl, f1', putS n k (p + 1) (up s.1 p 6, s.2), putS_7 n hn k (p + 1) _ (by omega) (up_le h7 (by omega)), by rw [show n - (p + 1) = k by omega], Y1⟩
        · rintro o L h2 ho ⟨hop, rfl, f2, t, t7, te, Yt⟩ hnx
          obtain ⟨oY, rY0, rY1, aY1, aY2, sY1, sY2⟩ := Y_facts (f2.bs hB)
          obtain ⟨y1, y2, y3, y4⟩ := id Yt
          have t7o := t7 o
          rw [show n - o = n - (o + 1) + 1 by omega, itr_s] at te
          by_cases eo : t.1 o = 7
          · have hb : putB n k p o t = (up (putS n k (p + 1) (up (up t.1 p o) o p, t.2)).1 o 7, (putS n k (p + 1) (up (up t.1 p o) o p, t.2)).2) := if_pos eo
            have hl2 : (putS n k (p + 1) (up (up t.1 p o) o p, t.2)).2.length ≤ 76 := by
              have h1 : (putB n k p o t).2.length ≤ (itr (putB n k p) (o + 1) (n - (o + 1)) (putB n k p o t)).2.length := itr_le (m := fun s : Ws => s.2.length) (putB_le n k p) _ _ _
              rw [te] at h1
              rw [putS_t e] at hl
              rw [hb] at h1
              exact Nat.le_trans h1 hl
            have Ya := Wy_u (i := o) (v := p) (Wy_u (i := p) (v := o) Yt)
            have t8 : ∀ i, up (up t.1 p o) o p i ≤ 7 := up_le (up_le t7 (by omega)) (by omega)
            obtain ⟨h3, r3, Y3, f3⟩ := ih (p + 1) _ _ (by omega) (((f2.bs hB).si 26 p (pI o)).si 26 o (pI p)) Ya t8 hl2
            have B3 := f3.bs (((f2.bs hB).si 26 p (pI o)).si 26 o (pI p))
            obtain ⟨oZ, rZ0, rZ1, aZ1, aZ2, sZ1, sZ2⟩ := Y_facts B3
            rw [pI_t (show o < 6 by omega), pI_t (show p < 6 by omega)] at r3
            have Y4 := Wy_u (i := o) (v := 7) Y3
            rw [pI_7] at Y4
            (refine wp_go 600 ks_144_1.2.2.2.2.2.2.2.2.2.1 ?_; simp (disch := first | assumption | (simp only [ob_si, ar_si, ob_sl, ar_sl]; assumption) | omega) only [ci_1, cm_1, cm_9, inc_i, ldA_a, ldI_i, oc_145, p_0, p_10, p_2, p_3, p_30, p_41, p_43, p_44, p_6, p_60, p_62, p_80_1, p_81_2, p_81_3, p_9, p_94, wpn_succ, wpn_zero, stp_h, lk_0, lk_s, st1_0, st1_1, st1_2, st2_0, st2_1, st2_2, kj_i, kj_a, kj_l, kj_n, cat_n, cat_i, cat_a, cat_u, cat_l, vc_i, vc_a, rv_s, tl_n, tl_s, Cal'_s, List.length_cons, List.length_nil, i0, i1, iNd, iN_lt, iN_le, iN_eq, iN_add, iN_mul, iN_mod, iN_sub, iN_div, iN_clamp, iN_inb, zle_N, zlt_N, zN_le, zN_lt, zN_eq, Nz_eq, mI_t, mI_f, bI_0, bI_1, bI_t, bI_f, dltT, dltF, dleT, dleF, deqT, deqF, Nat.not_lt_zero, not_true_eq_false, not_false_eq_true, true_and, and_true, false_and, and_false, or_true, true_or, false_or, or_false, and_self, if_true, if_false, Classical.not_not, Nat.add_assoc, Nat.zero_add, Nat.add_zero, bI_or, bI_True, bI_False, Bool.false_eq_true, reduceCtorEq, eq_self, gi_si, gl_si, gr_si, hn_si, hL_si, hX_si, gi_sl, gl_sl, gr_sl, hn_sl, ob_si, ar_si, ob_sl, ar_sl, ks_144_0, ks_144_1, ks_144_2, oY, rY0, rY1, aY2, y1, y3, eo, pI_7, pI_n, c_cell_q, c_set_q, Cal_eq r3, rZ1, oZ, aZ2])
            refine hnx _ _ ⟨by omega, rfl, ?_, (up (putS n k (p + 1) (up (up t.1 p o) o p, t.2)).1 o 7, (putS n k (p + 1) (up (up t.1 p o) o p, t.2)).2), up_le (putS_7 n hn k (p + 1) _ (by omega) t8) (Nat.le_refl 7), by rw [← hb]; exact te, Y4⟩
            exact ((((f2.si (by unfold Sw; omega) _ _).si (by unfold Sw; omega) _ _).tr f3).si (by unfold Sw; omega) _ _)
          · rw [show putB n k p o t = t from if_neg eo] at te
            (refine wp_go 600 ks_144_1.2.2.2.2.2.2.2.2.2.1 ?_; simp (disch := first | assumption | (simp only [ob_si, ar_si, ob_sl, ar_sl]; assumption) | omega) only [ci_1, cm_1, cm_9, inc_i, ldA_a, ldI_i, oc_145, p_0, p_10, p_2, p_3, p_30, p_41, p_43, p_44, p_6, p_60, p_62, p_80_1, p_81_2, p_81_3, p_9, p_94, wpn_succ, wpn_zero, stp_h, lk_0, lk_s, st1_0, st1_1, st1_2, st2_0, st2_1, st2_2, kj_i, kj_a, kj_l, kj_n, cat_n, cat_i, cat_a, cat_u, cat_l, vc_i, vc_a, rv_s, tl_n, tl_s, Cal'_s, List.length_cons, List.length_nil, i0, i1, iNd, iN_lt, iN_le, iN_eq, iN_add, iN_mul, iN_mod, iN_sub, iN_div, iN_clamp, iN_inb, zle_N, zlt_N, zN_le, zN_lt, zN_eq, Nz_eq, mI_t, mI_f, bI_0, bI_1, bI_t, bI_f, dltT, dltF, dleT, dleF, deqT, deqF, Nat.not_lt_zero, not_true_eq_false, not_false_eq_true, true_and, and_true, false_and, and_false, or_true, true_or, false_or, or_false, and_self, if_true, if_false, Classical.not_not, Nat.add_assoc, Nat.zero_add, Nat.add_zero, bI_or, bI_True, bI_False, Bool.false_eq_true, reduceCtorEq, eq_self, gi_si, gl_si, gr_si, hn_si, hL_si, hX_si, gi_sl, gl_sl, gr_sl, hn_sl, ob_si, ar_si, ob_sl, ar_sl, ks_144_0, ks_144_1, ks_144_2, oY, rY0, rY1, aY2, y1, y3, eo, pI_n, c_cell_q])
            exact hnx _ _ ⟨by omega, rfl, f2, t, t7, te, Yt⟩
        · rintro L h2 ⟨_, rfl, f2, t, t7, te, Yt⟩
          obtain ⟨oY, rY0, rY1, aY1, aY2, sY1, sY2⟩ := Y_facts (f2.bs hB)
          obtain ⟨y1, y2, y3, y4⟩ := id Yt
          rw [Nat.sub_self, itr_0] at te
          have Y4 := Wy_u (i := p) (v := 7) Yt
          rw [pI_7] at Y4
          (refine wp_go 600 ks_144_1.2.2.2.2.2.2.2.2.2.1 ?_; simp (disch := first | assumption | (simp only [ob_si, ar_si, ob_sl, ar_sl]; assumption) | omega) only [ci_1, cm_1, cm_9, inc_i, ldA_a, ldI_i, oc_145, p_0, p_10, p_2, p_3, p_30, p_41, p_43, p_44, p_6, p_60, p_62, p_80_1, p_81_2, p_81_3, p_9, p_94, wpn_succ, wpn_zero, stp_h, lk_0, lk_s, st1_0, st1_1, st1_2, st2_0, st2_1, st2_2, kj_i, kj_a, kj_l, kj_n, cat_n, cat_i, cat_a, cat_u, cat_l, vc_i, vc_a, rv_s, tl_n, tl_s, Cal'_s, List.length_cons, List.length_nil, i0, i1, iNd, iN_lt, iN_le, iN_eq, iN_add, iN_mul, iN_mod, iN_sub, iN_div, iN_clamp, iN_inb, zle_N, zlt_N, zN_le, zN_lt, zN_eq, Nz_eq, mI_t, mI_f, bI_0, bI_1, bI_t, bI_f, dltT, dltF, dleT, dleF, deqT, deqF, Nat.not_lt_zero, not_true_eq_false, not_false_eq_true, true_and, and_true, false_and, and_false, or_true, true_or, false_or, or_false, and_self, if_true, if_false, Classical.not_not, Nat.add_assoc, Nat.zero_add, Nat.add_zero, bI_or, bI_True, bI_False, Bool.false_eq_true, reduceCtorEq, eq_self, gi_si, gl_si, gr_si, hn_si, hL_si, hX_si, gi_sl, gl_sl, gr_sl, hn_sl, ob_si, ar_si, ob_sl, ar_sl, ks_144_0, ks_144_1, ks_144_2, oY, rY0, rY1, aY2, y1, c_set_q])
          refine hQ _ ?_ (f2.si (by unfold Sw; omega) _ _)
          rw [putS_t e, ← te]
          exact Y4
      obtain ⟨v, h', r, rfl, A, f⟩ := Ret_ex (d := k + 1 + 2) (y := 144) (as := [.ref 24, .int (iN p)]) [some (.ref 24), some (.int (iN p)), none] rfl rfl (key (fun v h' => v = none ∧ Wy h' n (putS n (k + 1) p s) ∧ Fr Sw h h') fun h' a b => ⟨rfl, a, b⟩)
      exact ⟨h', r, A, f⟩
    · rw [putS_f e] at hl ⊢
      obtain ⟨h1, r1, Y1, f1⟩ := ih (p + 1) h s (by omega) hB hY h7 hl
      refine ⟨h1, ?_, Y1, f1⟩
      refine Ret_L [some (.ref 24), some (.int (iN p)), none] rfl rfl fun Q hQ => ?_
      (refine wp_go 600 ks_144_0.1 ?_; simp (disch := first | assumption | (simp only [ob_si, ar_si, ob_sl, ar_sl]; assumption) | omega) only [ci_1, cm_1, cm_9, inc_i, ldA_a, ldI_i, oc_145, p_0, p_10, p_2, p_3, p_30, p_41, p_43, p_44, p_6, p_60, p_62, p_80_1, p_81_2, p_81_3, p_9, p_94, wpn_succ, wpn_zero, stp_h, lk_0, lk_s, st1_0, st1_1, st1_2, st2_0, st2_1, st2_2, kj_i, kj_a, kj_l, kj_n, cat_n, cat_i, cat_a, cat_u, cat_l, vc_i, vc_a, rv_s, tl_n, tl_s, Cal'_s, List.length_cons, List.length_nil, i0, i1, iNd, iN_lt, iN_le, iN_eq, iN_add, iN_mul, iN_mod, iN_sub, iN_div, iN_clamp, iN_inb, zle_N, zlt_N, zN_le, zN_lt, zN_eq, Nz_eq, mI_t, mI_f, bI_0, bI_1, bI_t, bI_f, dltT, dltF, dleT, dleF, deqT, deqF, Nat.not_lt_zero, not_true_eq_false, not_false_eq_true, true_and, and_true, false_and, and_false, or_true, true_or, false_or, or_false, and_self, if_true, if_false, Classical.not_not, Nat.add_assoc, Nat.zero_add, Nat.add_zero, bI_or, bI_True, bI_False, Bool.false_eq_true, reduceCtorEq, eq_self, gi_si, gl_si, gr_si, hn_si, hL_si, hX_si, gi_sl, gl_sl, gr_sl, hn_sl, ob_si, ar_si, ob_sl, ar_sl, ks_144_0, ks_144_1, ks_144_2, oY, rY0, rY1, aY2, y1, y3, e, pI_n, c_cell_q, Cal_eq r1])
      exact hQ
/-- the ways, n people -/
noncomputable def wyL (n : Nat) : List (List Nat) := (putS n n 0 (fun _ => 7, [])).2
noncomputable def cw (n : Nat) : Nat := (wyL n).length
noncomputable def wy (n k p : Nat) : Nat := ((wyL n).getD k []).getD p 0
theorem wyL_le : ∀ n < 7, cw n ≤ 76 ∧ 0 < cw n := by decide +kernel
noncomputable def wy1 (l : List Nat) (n p : Nat) : Bool := decide (l.getD p 0 ≤ 6) && (decide (¬ l.getD p 0 < 6) || (decide (l.getD p 0 < n) && decide (¬ l.getD p 0 = p) && decide (l.getD (l.getD p 0) 0 = p)))
theorem wy_dec : ∀ n < 7, (wyL n).all (fun l => (List.range n).all (fun p => wy1 l n p)) = true := by decide +kernel
theorem wy_ok {n k p : Nat} (hn : n ≤ 6) (hk : k < cw n) (hp : p < n) : wy n k p ≤ 6 ∧ (wy n k p < 6 → wy n k p < n ∧ wy n k p ≠ p ∧ wy n k (wy n k p) = p) := by
  have h := wy_dec n (by omega)
  rw [List.all_eq_true] at h
  have h1 := h ((wyL n).getD k []) (by
    unfold cw at hk
    simp only [List.getD, List.getElem?_eq_getElem hk, Option.getD_some]
    exact List.getElem_mem hk)
  rw [List.all_eq_true] at h1
  have h2 := h1 p (List.mem_range.mpr hp)
  unfold wy
  generalize (wyL n).getD k [] = l at *
  simp only [wy1, Bool.and_eq_true, Bool.or_eq_true, decide_eq_true_eq] at h2
  exact ⟨h2.1, fun h6 => h2.2.elim (fun q => absurd h6 q) fun q => ⟨q.1.1, q.1.2, q.2⟩⟩
/-- the ways lie in the row -/
noncomputable def Wl (h : Hp) (n : Nat) : Prop := gi h 24 3 = iN (cw n) ∧ ∀ k, k < cw n → ∀ p, p < n → gi h 25 (k * 6 + p) = mI (wy n k p)
theorem y_list {h : Hp} {n : Nat} (hB : Bs h) (hn : n ≤ 6) : ∃ h', Ret 10 141 [.ref 24, .int (iN n)] h none h' ∧ Wl h' n ∧ Fr Sw h h' := by
  have hc := (wyL_le n (by omega)).1
  have key : ∀ Q : Option Value → Hp → Prop, (∀ h', Wl h' n → Fr Sw h h' → Q none h') → wp 10 141 0 [some (.ref 24), some (.int (iN n)), none] [] h Q := by
    intro Q hQ
    obtain ⟨oY, rY0, rY1, aY1, aY2, sY1, sY2⟩ := Y_facts hB
    have en : (if iN 6 < iN n then iN 6 else iN n) = iN n := by rw [if_neg (by rw [iN_lt (by omega) (by omega)]; omega)]
    have fin : wp 10 141 17 [some (.ref 24), some (.int (iN n)), some (.int (iN 0))] [] (si (si h 24 2 (iN n)) 24 3 (iN 0)) Q := by
      refine wp_loop (fun p L h' => L = [some (.ref 24), some (.int (iN n)), some (.int (iN p))] ∧ Fr Sw h h' ∧ gi h' 24 2 = iN n ∧ gi h' 24 3 = iN 0 ∧ ∀ i, i < p → gi h' 26 i = pI 7) 6 ?_ ?_ 6 0 _ _ (by omega) ⟨rfl, ((Fr.rf Sw h).si (by unfold Sw; omega) _ _).si (by unfold Sw; omega) _ _, ?_, ?_, fun i hi => by omega⟩
      · rintro p L h1 hp ⟨rfl, f, y1, y2, a⟩ hnx
        obtain ⟨oY, rY0, rY1, aY1, aY2, sY1, sY2⟩ := Y_facts (f.bs hB)
        (refine wp_go 600 ks_141_0.2.2.2.2.2.2.2.2.2.2.1 ?_; simp (disch := first | assumption | (simp only [ob_si, ar_si, ob_sl, ar_sl]; assumption) | omega) only [ci_0, ci_1, ci_6, cm_1, inc_i, ldA_a, ldI_i, p_0, p_2, p_3, p_30, p_44, p_54, p_6, p_62, p_63, p_81_2, p_81_3, p_9, p_94, wpn_succ, wpn_zero, stp_h, lk_0, lk_s, st1_0, st1_1, st1_2, st2_0, st2_1, st2_2, kj_i, kj_a, kj_l, kj_n, cat_n, cat_i, cat_a, cat_u, cat_l, vc_i, vc_a, rv_s, tl_n, tl_s, Cal'_s, List.length_cons, List.length_nil, i0, i1, iNd, iN_lt, iN_le, iN_eq, iN_add, iN_mul, iN_mod, iN_sub, iN_div, iN_clamp, iN_inb, zle_N, zlt_N, zN_le, zN_lt, zN_eq, Nz_eq, mI_t, mI_f, bI_0, bI_1, bI_t, bI_f, dltT, dltF, dleT, dleF, deqT, deqF, Nat.not_lt_zero, not_true_eq_false, not_false_eq_true, true_and, and_true, false_and, and_false, or_true, true_or, false_or, or_false, and_self, if_true, if_false, Classical.not_not, Nat.add_assoc, Nat.zero_add, Nat.add_zero, bI_or, bI_True, bI_False, Bool.false_eq_true, reduceCtorEq, eq_self, gi_si, gl_si, gr_si, hn_si, hL_si, hX_si, gi_sl, gl_sl, gr_sl, hn_sl, ob_si, ar_si, ob_sl, ar_sl, ks_141_0, oY, rY1, aY2, c_set_q])
        refine hnx _ _ ⟨rfl, f.si (by unfold Sw; omega) _ _, ?_, ?_, ?_⟩
        · simp (disch := omega) only [gi_si, up_f]; exact y1
        · simp (disch := omega) only [gi_si, up_f]; exact y2
        · intro i hi
          rw [gi_si, up_s]
          by_cases e : i = p
          · rw [up_t e]; rfl
          · rw [up_f e]; exact a i (by omega)
      · rintro L h1 ⟨rfl, f, y1, y2, a⟩
        obtain ⟨h2, r2, Y2, f2⟩ := y_put hn n 0 h1 (fun _ => 7, []) (by omega) (f.bs hB) ⟨y1, y2, a, fun k hk => absurd hk (Nat.not_lt_zero _)⟩ (fun _ => Nat.le_refl 7) hc
        have r2' := r2.up (show n + 2 ≤ 9 by omega)
        (refine wp_go 600 ks_141_0.2.2.2.2.2.2.2.2.2.2.1 ?_; simp (disch := first | assumption | (simp only [ob_si, ar_si, ob_sl, ar_sl]; assumption) | omega) only [ci_0, ci_1, ci_6, cm_1, inc_i, ldA_a, ldI_i, p_0, p_2, p_3, p_30, p_44, p_54, p_6, p_62, p_63, p_81_2, p_81_3, p_9, p_94, wpn_succ, wpn_zero, stp_h, lk_0, lk_s, st1_0, st1_1, st1_2, st2_0, st2_1, st2_2, kj_i, kj_a, kj_l, kj_n, cat_n, cat_i, cat_a, cat_u, cat_l, vc_i, vc_a, rv_s, tl_n, tl_s, Cal'_s, List.length_cons, List.length_nil, i0, i1, iNd, iN_lt, iN_le, iN_eq, iN_add, iN_mul, iN_mod, iN_sub, iN_div, iN_clamp, iN_inb, zle_N, zlt_N, zN_le, zN_lt, zN_eq, Nz_eq, mI_t, mI_f, bI_0, bI_1, bI_t, bI_f, dltT, dltF, dleT, dleF, deqT, deqF, Nat.not_lt_zero, not_true_eq_false, not_false_eq_true, true_and, and_true, false_and, and_false, or_true, true_or, false_or, or_false, and_self, if_true, if_false, Classical.not_not, Nat.add_assoc, Nat.zero_add, Nat.add_zero, bI_or, bI_True, bI_False, Bool.false_eq_true, reduceCtorEq, eq_self, gi_si, gl_si, gr_si, hn_si, hL_si, hX_si, gi_sl, gl_sl, gr_sl, hn_sl, ob_si, ar_si, ob_sl, ar_sl, ks_141_0, Cal_eq r2'])
        refine hQ _ ⟨Y2.2.1, fun k hk p hp => ?_⟩ (f.tr f2)
        rw [← pI_m (wy_ok hn hk hp).1]
        exact Y2.2.2.2 k hk p hp
      · simp (disch := omega) only [gi_si, up_f, up_s]
      · simp only [gi_si, up_s]
    by_cases e6 : n = 6
    · subst e6
      (refine wp_go 600 ks_141_0.1 ?_; simp (disch := first | assumption | (simp only [ob_si, ar_si, ob_sl, ar_sl]; assumption) | omega) only [ci_0, ci_1, ci_6, cm_1, inc_i, ldA_a, ldI_i, p_0, p_2, p_3, p_30, p_44, p_54, p_6, p_62, p_63, p_81_2, p_81_3, p_9, p_94, wpn_succ, wpn_zero, stp_h, lk_0, lk_s, st1_0, st1_1, st1_2, st2_0, st2_1, st2_2, kj_i, kj_a, kj_l, kj_n, cat_n, cat_i, cat_a, cat_u, cat_l, vc_i, vc_a, rv_s, tl_n, tl_s, Cal'_s, List.length_cons, List.length_nil, i0, i1, iNd, iN_lt, iN_le, iN_eq, iN_add, iN_mul, iN_mod, iN_sub, iN_div, iN_clamp, iN_inb, zle_N, zlt_N, zN_le, zN_lt, zN_eq, Nz_eq, mI_t, mI_f, bI_0, bI_1, bI_t, bI_f, dltT, dltF, dleT, dleF, deqT, deqF, Nat.not_lt_zero, not_true_eq_false, not_false_eq_true, true_and, and_true, false_and, and_false, or_true, true_or, false_or, or_false, and_self, if_true, if_false, Classical.not_not, Nat.add_assoc, Nat.zero_add, Nat.add_zero, bI_or, bI_True, bI_False, Bool.false_eq_true, reduceCtorEq, eq_self, gi_si, gl_si, gr_si, hn_si, hL_si, hX_si, gi_sl, gl_sl, gr_sl, hn_sl, ob_si, ar_si, ob_sl, ar_sl, ks_141_0, oY, ob_si])
      exact fin
    · (refine wp_go 600 ks_141_0.1 ?_; simp (disch := first | assumption | (simp only [ob_si, ar_si, ob_sl, ar_sl]; assumption) | omega) only [ci_0, ci_1, ci_6, cm_1, inc_i, ldA_a, ldI_i, p_0, p_2, p_3, p_30, p_44, p_54, p_6, p_62, p_63, p_81_2, p_81_3, p_9, p_94, wpn_succ, wpn_zero, stp_h, lk_0, lk_s, st1_0, st1_1, st1_2, st2_0, st2_1, st2_2, kj_i, kj_a, kj_l, kj_n, cat_n, cat_i, cat_a, cat_u, cat_l, vc_i, vc_a, rv_s, tl_n, tl_s, Cal'_s, List.length_cons, List.length_nil, i0, i1, iNd, iN_lt, iN_le, iN_eq, iN_add, iN_mul, iN_mod, iN_sub, iN_div, iN_clamp, iN_inb, zle_N, zlt_N, zN_le, zN_lt, zN_eq, Nz_eq, mI_t, mI_f, bI_0, bI_1, bI_t, bI_f, dltT, dltF, dleT, dleF, deqT, deqF, Nat.not_lt_zero, not_true_eq_false, not_false_eq_true, true_and, and_true, false_and, and_false, or_true, true_or, false_or, or_false, and_self, if_true, if_false, Classical.not_not, Nat.add_assoc, Nat.zero_add, Nat.add_zero, bI_or, bI_True, bI_False, Bool.false_eq_true, reduceCtorEq, eq_self, gi_si, gl_si, gr_si, hn_si, hL_si, hX_si, gi_sl, gl_sl, gr_sl, hn_sl, ob_si, ar_si, ob_sl, ar_sl, ks_141_0, oY, ob_si])
      exact fin
  obtain ⟨v, h', r, rfl, A, f⟩ := Ret_ex (d := 10) (y := 141) (as := [.ref 24, .int (iN n)]) [some (.ref 24), some (.int (iN n)), none] rfl rfl (key (fun v h' => v = none ∧ Wl h' n ∧ Fr Sw h h') fun h' a b => ⟨rfl, a, b⟩)
  exact ⟨h', r, A, f⟩
theorem y_num {h : Hp} {n : Nat} (hB : Bs h) (hY : Wl h n) (hn : n ≤ 6) : Ret 0 142 [.ref 24] h (some (.int (iN (cw n)))) (h) := by
  refine Ret_L [some (.ref 24)] rfl rfl fun Q hQ => ?_
  have oY := (Y_facts hB).1
  have y := hY.1
  (refine wp_go 600 ks_142_0.1 ?_; simp (disch := first | assumption | (simp only [ob_si, ar_si, ob_sl, ar_sl]; assumption) | omega) only [ldA_a, p_2, p_60, p_90, wpn_succ, wpn_zero, stp_h, lk_0, lk_s, st1_0, st1_1, st1_2, st2_0, st2_1, st2_2, kj_i, kj_a, kj_l, kj_n, cat_n, cat_i, cat_a, cat_u, cat_l, vc_i, vc_a, rv_s, tl_n, tl_s, Cal'_s, List.length_cons, List.length_nil, i0, i1, iNd, iN_lt, iN_le, iN_eq, iN_add, iN_mul, iN_mod, iN_sub, iN_div, iN_clamp, iN_inb, zle_N, zlt_N, zN_le, zN_lt, zN_eq, Nz_eq, mI_t, mI_f, bI_0, bI_1, bI_t, bI_f, dltT, dltF, dleT, dleF, deqT, deqF, Nat.not_lt_zero, not_true_eq_false, not_false_eq_true, true_and, and_true, false_and, and_false, or_true, true_or, false_or, or_false, and_self, if_true, if_false, Classical.not_not, Nat.add_assoc, Nat.zero_add, Nat.add_zero, bI_or, bI_True, bI_False, Bool.false_eq_true, reduceCtorEq, eq_self, gi_si, gl_si, gr_si, hn_si, hL_si, hX_si, gi_sl, gl_sl, gr_sl, hn_sl, ob_si, ar_si, ob_sl, ar_sl, ks_142_0, oY, y])
  exact hQ
theorem y_num_q {h : Hp} {n : Nat} (hB : Bs h) (hY : Wl h n) (hn : n ≤ 6) {e : Nat} (hd : 0 ≤ e) (K : Option Value → Hp → Prop) : Cal e 142 [.ref 24] h K = K (some (.int (iN (cw n)))) (h) := Cal_eq (y_num (hB := hB) (hY := hY) (hn := hn)) hd K
theorem y_mate {h : Hp} {n k p : Nat} (hB : Bs h) (hY : Wl h n) (hn : n ≤ 6) (hk : k < cw n) (hp : p < n) : Ret 1 143 [.ref 24, .int (iN k), .int (iN p)] h (some (.int (mI (wy n k p)))) (h) := by
  refine Ret_L [some (.ref 24), some (.int (iN k)), some (.int (iN p))] rfl rfl fun Q hQ => ?_
  obtain ⟨oY, rY0, rY1, aY1, aY2, sY1, sY2⟩ := Y_facts hB
  have hc := (wyL_le n (by omega)).1
  have y := hY.2 k hk p hp
  (refine wp_go 600 ks_143_0.1 ?_; simp (disch := first | assumption | (simp only [ob_si, ar_si, ob_sl, ar_sl]; assumption) | omega) only [ci_6, ldA_a, ldI_i, p_0, p_10, p_12, p_2, p_6, p_62, p_81_2, p_90, wpn_succ, wpn_zero, stp_h, lk_0, lk_s, st1_0, st1_1, st1_2, st2_0, st2_1, st2_2, kj_i, kj_a, kj_l, kj_n, cat_n, cat_i, cat_a, cat_u, cat_l, vc_i, vc_a, rv_s, tl_n, tl_s, Cal'_s, List.length_cons, List.length_nil, i0, i1, iNd, iN_lt, iN_le, iN_eq, iN_add, iN_mul, iN_mod, iN_sub, iN_div, iN_clamp, iN_inb, zle_N, zlt_N, zN_le, zN_lt, zN_eq, Nz_eq, mI_t, mI_f, bI_0, bI_1, bI_t, bI_f, dltT, dltF, dleT, dleF, deqT, deqF, Nat.not_lt_zero, not_true_eq_false, not_false_eq_true, true_and, and_true, false_and, and_false, or_true, true_or, false_or, or_false, and_self, if_true, if_false, Classical.not_not, Nat.add_assoc, Nat.zero_add, Nat.add_zero, bI_or, bI_True, bI_False, Bool.false_eq_true, reduceCtorEq, eq_self, gi_si, gl_si, gr_si, hn_si, hL_si, hX_si, gi_sl, gl_sl, gr_sl, hn_sl, ob_si, ar_si, ob_sl, ar_sl, ks_143_0, oY, rY0, aY1, y, c_cell_q])
  exact hQ
theorem y_mate_q {h : Hp} {n k p : Nat} (hB : Bs h) (hY : Wl h n) (hn : n ≤ 6) (hk : k < cw n) (hp : p < n) {e : Nat} (hd : 1 ≤ e) (K : Option Value → Hp → Prop) : Cal e 143 [.ref 24, .int (iN k), .int (iN p)] h K = K (some (.int (mI (wy n k p)))) (h) := Cal_eq (y_mate (hB := hB) (hY := hY) (hn := hn) (hk := hk) (hp := hp)) hd K
