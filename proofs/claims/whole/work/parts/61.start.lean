/-! the start: what is made -/
theorem hn_new (h : Hp) : hn (hnew h) = hn h + 1 := rfl
theorem hn_sr (h : Hp) (o k : Nat) (v : Option Nat) : hn (sr h o k v) = hn h := rfl
theorem gr_hw (h : Hp) : gr (hnew h) = up (gr h) (hn h) (fun _ => none) := rfl
theorem gi_new (h : Hp) : gi (hnew h) = up (gi h) (hn h) (fun _ => 0) := rfl
theorem gl_new (h : Hp) : gl (hnew h) = up (gl h) (hn h) (fun _ => 0) := rfl
theorem ob_u (h : Hp) (o c : Nat) : ob h o c = (o < hn h ∧ SH o = (0, c)) := rfl
theorem ar_u (h : Hp) (t o : Nat) : ar h t o = (o < hn h ∧ (SH o).1 = t) := rfl
noncomputable def Zi (h : Hp) (n L : Nat) (X : Nat → Int32) : Prop := hn h = n ∧ (∀ o k, ¬ (o = 87 ∧ k = 28) → gi h o k = iN 0) ∧ (∀ o k, gl h o k = jN 0) ∧ hL h = L ∧ hX h = X
noncomputable def Rf (h : Hp) (n : Nat) (l : List (Nat × Nat × Nat)) : Prop := ∀ q, q ∈ l → gr h q.1 q.2.1 = some q.2.2 ∧ q.1 < n
noncomputable def ZR (h : Hp) (n : Nat) (l : List (Nat × Nat × Nat)) (L : Nat) (X : Nat → Int32) : Prop := Zi h n L X ∧ Rf h n l
theorem ZR.new {h : Hp} {n L : Nat} {l : List (Nat × Nat × Nat)} {X : Nat → Int32} (z : ZR h n l L X) : ZR (hnew h) (n + 1) l L X := by
  obtain ⟨⟨z1, z2, z3, z4, z5⟩, z6⟩ := z
  refine ⟨⟨by rw [hn_new, z1], fun o k hk => ?_, fun o k => ?_, z4, z5⟩, fun q hq => ?_⟩
  · rw [gi_new]
    by_cases e : o = hn h
    · rw [up_t e]; exact i0
    · rw [up_f e]; exact z2 o k hk
  · rw [gl_new]
    by_cases e : o = hn h
    · rw [up_t e]; exact l0
    · rw [up_f e]; exact z3 o k
  · obtain ⟨a, b⟩ := z6 q hq
    rw [gr_hw, up_f (by omega)]
    exact ⟨a, by omega⟩
theorem ZR.sr {h : Hp} {n L o k v : Nat} {l : List (Nat × Nat × Nat)} {X : Nat → Int32} (z : ZR h n l L X) (ho : o < n) (hc : ∀ q, q ∈ l → ¬ (q.1 = o ∧ q.2.1 = k)) : ZR (sr h o k (some v)) n ((o, k, v) :: l) L X := by
  obtain ⟨⟨z1, z2, z3, z4, z5⟩, z6⟩ := z
  refine ⟨⟨z1, z2, z3, z4, z5⟩, fun q hq => ?_⟩
  rcases List.mem_cons.mp hq with e | hq
  · subst e
    rw [gr_sr, up_s, up_s]
    exact ⟨rfl, ho⟩
  · obtain ⟨a, b⟩ := z6 q hq
    refine ⟨?_, b⟩
    rw [gr_sr]
    by_cases e : q.1 = o
    · rw [up_t e, up_f (fun e2 => hc q hq ⟨e, e2⟩), ← e]; exact a
    · rw [up_f e]; exact a
theorem ZR.s28 {h : Hp} {n L : Nat} {v : Int32} {l : List (Nat × Nat × Nat)} {X : Nat → Int32} (z : ZR h n l L X) : ZR (si h 87 28 v) n l L X := by
  obtain ⟨⟨z1, z2, z3, z4, z5⟩, z6⟩ := z
  refine ⟨⟨z1, fun o k hk => ?_, z3, z4, z5⟩, z6⟩
  rw [gi_si]
  by_cases e : o = 87
  · subst e
    rw [up_s, up_f (fun e2 => hk ⟨rfl, e2⟩)]; exact z2 87 k hk
  · rw [up_f e]; exact z2 o k hk
theorem ZR.s7 {h : Hp} {n L : Nat} {l : List (Nat × Nat × Nat)} {X : Nat → Int32} (z : ZR h n l L X) : ZR (si h 87 7 (iN 0)) n l L X := by
  obtain ⟨⟨z1, z2, z3, z4, z5⟩, z6⟩ := z
  refine ⟨⟨z1, fun o k hk => ?_, z3, z4, z5⟩, z6⟩
  rw [gi_si]
  by_cases e : o = 87
  · subst e
    rw [up_s]
    by_cases e2 : k = 7
    · rw [up_t e2]
    · rw [up_f e2]; exact z2 87 k hk
  · rw [up_f e]; exact z2 o k hk
theorem ZR.n {h : Hp} {n L : Nat} {l : List (Nat × Nat × Nat)} {X : Nat → Int32} (z : ZR h n l L X) : hn h = n := z.1.1
theorem ZR.g {h : Hp} {n L o k v : Nat} {l : List (Nat × Nat × Nat)} {X : Nat → Int32} (z : ZR h n l L X) (hq : (o, k, v) ∈ l) : gr h o k = some v := (z.2 _ hq).1
theorem nc1 {o k a b c : Nat} {l : List (Nat × Nat × Nat)} (h : ¬ (a = o ∧ b = k)) (hl : ∀ q, q ∈ l → ¬ (q.1 = o ∧ q.2.1 = k)) : ∀ q, q ∈ (a, b, c) :: l → ¬ (q.1 = o ∧ q.2.1 = k) := List.forall_mem_cons.mpr ⟨h, hl⟩
theorem nc0 {o k m : Nat} {l : List (Nat × Nat × Nat)} (hl : ∀ q, q ∈ l → q.1 < m) (ho : m ≤ o) : ∀ q, q ∈ l → ¬ (q.1 = o ∧ q.2.1 = k) := fun q hq e => by have := hl q hq; omega
theorem i_meet {h : Hp} {m L : Nat} {l : List (Nat × Nat × Nat)} {X : Nat → Int32} (hZ : ZR h (m + 1) l L X) (hl : ∀ q, q ∈ l → q.1 < m) (s0 : SH m = (0, 3)) (s1 : SH (m + 1) = (1, 6)) (s2 : SH (m + 2) = (1, 6)) (s3 : SH (m + 3) = (1, 6)) (s4 : SH (m + 4) = (1, 6)) (s5 : SH (m + 5) = (1, 36)) : ∃ h', Ret 0 20 [.ref m] h none h' ∧ ZR h' (m + 6) ([(m, 4, m + 5), (m, 3, m + 4), (m, 2, m + 3), (m, 1, m + 2), (m, 0, m + 1)] ++ l) L X := by
  have n0 := hZ.n
  refine ⟨(sr (hnew (sr (hnew (sr (hnew (sr (hnew (sr (hnew h) m 0 (some (m + 1)))) m 1 (some (m + 2)))) m 2 (some (m + 3)))) m 3 (some (m + 4)))) m 4 (some (m + 5))), ?_, ?_⟩
  · refine Ret_L [some (.ref m)] rfl rfl fun Q hQ => ?_
    (refine wp_go 600 ks_20_0.1 ?_; simp (disch := first | with_reducible assumption | omega | (simp only [ob_si, ar_si, ob_sl, ar_sl]; with_reducible assumption)) only [ci_36, ci_6, ldA_a, r_2, r_6, r_67, r_83, r_94, r_96, wpn_S, wpn_zero, stp_h, lk_0, lk_s, st1_0, st1_1, st1_2, st2_0, st2_1, st2_2, kj_i, kj_a, kj_l, kj_n, cat_n, cat_i, cat_a, cat_u, cat_l, vc_i, vc_a, rv_s, tl_n, tl_s, Cal'_s, List.length_cons, List.length_nil, i0, i1, iNd, iN_lt, iN_le, iN_eq, iN_add, iN_mul, iN_mod, iN_sub, iN_div, iN_clamp, iN_inb, zle_N, zlt_N, zN_le, zN_lt, zN_eq, Nz_eq, mI_t, mI_f, bI_0, bI_1, bI_t, bI_f, dltT, dltF, dleT, dleF, deqT, deqF, Nat.not_lt_zero, not_true_eq_false, not_false_eq_true, true_and, and_true, false_and, and_false, or_true, true_or, false_or, or_false, and_self, if_true, if_false, Classical.not_not, Nat.add_assoc, Nat.zero_add, Nat.add_zero, bI_or, bI_True, bI_False, Bool.false_eq_true, reduceCtorEq, eq_self, gi_si, gl_si, gr_si, hn_si, hL_si, hX_si, gi_sl, gl_sl, gr_sl, hn_sl, ob_si, ar_si, ob_sl, ar_sl, ks_20_0, n0, hn_new, hn_sr, ob_u, s0, s1, s2, s3, s4, s5, kj_n])
    exact hQ
  · exact (ZR.sr (o := m) (k := 4) (v := m + 5) (((ZR.sr (o := m) (k := 3) (v := m + 4) (((ZR.sr (o := m) (k := 2) (v := m + 3) (((ZR.sr (o := m) (k := 1) (v := m + 2) (((ZR.sr (o := m) (k := 0) (v := m + 1) ((hZ).new) (by omega) (nc0 hl (by omega)))).new) (by omega) (nc1 (by omega) (nc0 hl (by omega))))).new) (by omega) (nc1 (by omega) (nc1 (by omega) (nc0 hl (by omega)))))).new) (by omega) (nc1 (by omega) (nc1 (by omega) (nc1 (by omega) (nc0 hl (by omega))))))).new) (by omega) (nc1 (by omega) (nc1 (by omega) (nc1 (by omega) (nc1 (by omega) (nc0 hl (by omega)))))))
theorem i_kn {h : Hp} {L : Nat} {l : List (Nat × Nat × Nat)} {X : Nat → Int32} (hZ : ZR h 20 l L X) (hl : ∀ q, q ∈ l → q.1 < 19) : ∃ h', Ret 0 6 [.ref 19] h none h' ∧ ZR h' 21 ([(19, 0, 20)] ++ l) L X := by
  have n0 := hZ.n
  have s19 : SH 19 = (0, 1) := by decide
  have s20 : SH 20 = (1, 5) := by decide
  refine ⟨(sr (hnew h) 19 0 (some (20))), ?_, ?_⟩
  · refine Ret_L [some (.ref 19)] rfl rfl fun Q hQ => ?_
    (refine wp_go 600 ks_6_0.1 ?_; simp (disch := first | with_reducible assumption | omega | (simp only [ob_si, ar_si, ob_sl, ar_sl]; with_reducible assumption)) only [ci_5, ldA_a, r_2, r_6, r_67, r_83, r_94, r_96, wpn_S, wpn_zero, stp_h, lk_0, lk_s, st1_0, st1_1, st1_2, st2_0, st2_1, st2_2, kj_i, kj_a, kj_l, kj_n, cat_n, cat_i, cat_a, cat_u, cat_l, vc_i, vc_a, rv_s, tl_n, tl_s, Cal'_s, List.length_cons, List.length_nil, i0, i1, iNd, iN_lt, iN_le, iN_eq, iN_add, iN_mul, iN_mod, iN_sub, iN_div, iN_clamp, iN_inb, zle_N, zlt_N, zN_le, zN_lt, zN_eq, Nz_eq, mI_t, mI_f, bI_0, bI_1, bI_t, bI_f, dltT, dltF, dleT, dleF, deqT, deqF, Nat.not_lt_zero, not_true_eq_false, not_false_eq_true, true_and, and_true, false_and, and_false, or_true, true_or, false_or, or_false, and_self, if_true, if_false, Classical.not_not, Nat.add_assoc, Nat.zero_add, Nat.add_zero, bI_or, bI_True, bI_False, Bool.false_eq_true, reduceCtorEq, eq_self, gi_si, gl_si, gr_si, hn_si, hL_si, hX_si, gi_sl, gl_sl, gr_sl, hn_sl, ob_si, ar_si, ob_sl, ar_sl, ks_6_0, n0, hn_new, hn_sr, ob_u, s19, s20])
    exact hQ
  · exact (ZR.sr (o := 19) (k := 0) (v := 20) ((hZ).new) (by omega) (nc0 hl (by omega)))
theorem i_st {h : Hp} {L : Nat} {l : List (Nat × Nat × Nat)} {X : Nat → Int32} (hZ : ZR h 22 l L X) (hl : ∀ q, q ∈ l → q.1 < 21) : ∃ h', Ret 0 117 [.ref 21, .ref 1] h none h' ∧ ZR h' 22 ([(21, 0, 1)] ++ l) L X := by
  have n0 := hZ.n
  have s21 : SH 21 = (0, 9) := by decide
  refine ⟨(sr h 21 0 (some (1))), ?_, ?_⟩
  · refine Ret_L [some (.ref 21), some (.ref 1)] rfl rfl fun Q hQ => ?_
    (refine wp_go 600 ks_117_0.1 ?_; simp (disch := first | with_reducible assumption | omega | (simp only [ob_si, ar_si, ob_sl, ar_sl]; with_reducible assumption)) only [ldA_a, r_2, r_67, r_83, r_94, wpn_S, wpn_zero, stp_h, lk_0, lk_s, st1_0, st1_1, st1_2, st2_0, st2_1, st2_2, kj_i, kj_a, kj_l, kj_n, cat_n, cat_i, cat_a, cat_u, cat_l, vc_i, vc_a, rv_s, tl_n, tl_s, Cal'_s, List.length_cons, List.length_nil, i0, i1, iNd, iN_lt, iN_le, iN_eq, iN_add, iN_mul, iN_mod, iN_sub, iN_div, iN_clamp, iN_inb, zle_N, zlt_N, zN_le, zN_lt, zN_eq, Nz_eq, mI_t, mI_f, bI_0, bI_1, bI_t, bI_f, dltT, dltF, dleT, dleF, deqT, deqF, Nat.not_lt_zero, not_true_eq_false, not_false_eq_true, true_and, and_true, false_and, and_false, or_true, true_or, false_or, or_false, and_self, if_true, if_false, Classical.not_not, Nat.add_assoc, Nat.zero_add, Nat.add_zero, bI_or, bI_True, bI_False, Bool.false_eq_true, reduceCtorEq, eq_self, gi_si, gl_si, gr_si, hn_si, hL_si, hX_si, gi_sl, gl_sl, gr_sl, hn_sl, ob_si, ar_si, ob_sl, ar_sl, ks_117_0, n0, hn_new, hn_sr, ob_u, s21])
    exact hQ
  · exact (ZR.sr (o := 21) (k := 0) (v := 1) (hZ) (by omega) (nc0 hl (by omega)))
theorem i_mi {h : Hp} {L : Nat} {l : List (Nat × Nat × Nat)} {X : Nat → Int32} (hZ : ZR h 23 l L X) (hl : ∀ q, q ∈ l → q.1 < 22) : ∃ h', Ret 0 57 [.ref 22, .ref 1, .ref 7, .ref 19] h none h' ∧ ZR h' 23 ([(22, 2, 19), (22, 1, 7), (22, 0, 1)] ++ l) L X := by
  have n0 := hZ.n
  have s22 : SH 22 = (0, 4) := by decide
  refine ⟨(sr (sr (sr h 22 0 (some (1))) 22 1 (some (7))) 22 2 (some (19))), ?_, ?_⟩
  · refine Ret_L [some (.ref 22), some (.ref 1), some (.ref 7), some (.ref 19)] rfl rfl fun Q hQ => ?_
    (refine wp_go 600 ks_57_0.1 ?_; simp (disch := first | with_reducible assumption | omega | (simp only [ob_si, ar_si, ob_sl, ar_sl]; with_reducible assumption)) only [ldA_a, r_2, r_67, r_83, r_94, wpn_S, wpn_zero, stp_h, lk_0, lk_s, st1_0, st1_1, st1_2, st2_0, st2_1, st2_2, kj_i, kj_a, kj_l, kj_n, cat_n, cat_i, cat_a, cat_u, cat_l, vc_i, vc_a, rv_s, tl_n, tl_s, Cal'_s, List.length_cons, List.length_nil, i0, i1, iNd, iN_lt, iN_le, iN_eq, iN_add, iN_mul, iN_mod, iN_sub, iN_div, iN_clamp, iN_inb, zle_N, zlt_N, zN_le, zN_lt, zN_eq, Nz_eq, mI_t, mI_f, bI_0, bI_1, bI_t, bI_f, dltT, dltF, dleT, dleF, deqT, deqF, Nat.not_lt_zero, not_true_eq_false, not_false_eq_true, true_and, and_true, false_and, and_false, or_true, true_or, false_or, or_false, and_self, if_true, if_false, Classical.not_not, Nat.add_assoc, Nat.zero_add, Nat.add_zero, bI_or, bI_True, bI_False, Bool.false_eq_true, reduceCtorEq, eq_self, gi_si, gl_si, gr_si, hn_si, hL_si, hX_si, gi_sl, gl_sl, gr_sl, hn_sl, ob_si, ar_si, ob_sl, ar_sl, ks_57_0, n0, hn_new, hn_sr, ob_u, s22])
    exact hQ
  · exact (ZR.sr (o := 22) (k := 2) (v := 19) ((ZR.sr (o := 22) (k := 1) (v := 7) ((ZR.sr (o := 22) (k := 0) (v := 1) (hZ) (by omega) (nc0 hl (by omega)))) (by omega) (nc1 (by omega) (nc0 hl (by omega))))) (by omega) (nc1 (by omega) (nc1 (by omega) (nc0 hl (by omega)))))
theorem i_wa {h : Hp} {L : Nat} {l : List (Nat × Nat × Nat)} {X : Nat → Int32} (hZ : ZR h 25 l L X) (hl : ∀ q, q ∈ l → q.1 < 24) : ∃ h', Ret 0 140 [.ref 24] h none h' ∧ ZR h' 27 ([(24, 1, 26), (24, 0, 25)] ++ l) L X := by
  have n0 := hZ.n
  have s24 : SH 24 = (0, 10) := by decide
  have s25 : SH 25 = (1, 456) := by decide
  have s26 : SH 26 = (1, 6) := by decide
  refine ⟨(sr (hnew (sr (hnew h) 24 0 (some (25)))) 24 1 (some (26))), ?_, ?_⟩
  · refine Ret_L [some (.ref 24)] rfl rfl fun Q hQ => ?_
    (refine wp_go 600 ks_140_0.1 ?_; simp (disch := first | with_reducible assumption | omega | (simp only [ob_si, ar_si, ob_sl, ar_sl]; with_reducible assumption)) only [ci_456, ci_6, ldA_a, r_2, r_6, r_67, r_83, r_94, r_96, wpn_S, wpn_zero, stp_h, lk_0, lk_s, st1_0, st1_1, st1_2, st2_0, st2_1, st2_2, kj_i, kj_a, kj_l, kj_n, cat_n, cat_i, cat_a, cat_u, cat_l, vc_i, vc_a, rv_s, tl_n, tl_s, Cal'_s, List.length_cons, List.length_nil, i0, i1, iNd, iN_lt, iN_le, iN_eq, iN_add, iN_mul, iN_mod, iN_sub, iN_div, iN_clamp, iN_inb, zle_N, zlt_N, zN_le, zN_lt, zN_eq, Nz_eq, mI_t, mI_f, bI_0, bI_1, bI_t, bI_f, dltT, dltF, dleT, dleF, deqT, deqF, Nat.not_lt_zero, not_true_eq_false, not_false_eq_true, true_and, and_true, false_and, and_false, or_true, true_or, false_or, or_false, and_self, if_true, if_false, Classical.not_not, Nat.add_assoc, Nat.zero_add, Nat.add_zero, bI_or, bI_True, bI_False, Bool.false_eq_true, reduceCtorEq, eq_self, gi_si, gl_si, gr_si, hn_si, hL_si, hX_si, gi_sl, gl_sl, gr_sl, hn_sl, ob_si, ar_si, ob_sl, ar_sl, ks_140_0, n0, hn_new, hn_sr, ob_u, s24, s25, s26])
    exact hQ
  · exact (ZR.sr (o := 24) (k := 1) (v := 26) (((ZR.sr (o := 24) (k := 0) (v := 25) ((hZ).new) (by omega) (nc0 hl (by omega)))).new) (by omega) (nc1 (by omega) (nc0 hl (by omega))))
theorem i_lo {h : Hp} {L : Nat} {l : List (Nat × Nat × Nat)} {X : Nat → Int32} (hZ : ZR h 29 l L X) (hl : ∀ q, q ∈ l → q.1 < 28) : ∃ h', Ret 0 14 [.ref 28, .ref 1, .ref 7, .ref 19] h none h' ∧ ZR h' 29 ([(28, 2, 19), (28, 1, 7), (28, 0, 1)] ++ l) L X := by
  have n0 := hZ.n
  have s28 : SH 28 = (0, 2) := by decide
  refine ⟨(sr (sr (sr h 28 0 (some (1))) 28 1 (some (7))) 28 2 (some (19))), ?_, ?_⟩
  · refine Ret_L [some (.ref 28), some (.ref 1), some (.ref 7), some (.ref 19)] rfl rfl fun Q hQ => ?_
    (refine wp_go 600 ks_14_0.1 ?_; simp (disch := first | with_reducible assumption | omega | (simp only [ob_si, ar_si, ob_sl, ar_sl]; with_reducible assumption)) only [ldA_a, r_2, r_67, r_83, r_94, wpn_S, wpn_zero, stp_h, lk_0, lk_s, st1_0, st1_1, st1_2, st2_0, st2_1, st2_2, kj_i, kj_a, kj_l, kj_n, cat_n, cat_i, cat_a, cat_u, cat_l, vc_i, vc_a, rv_s, tl_n, tl_s, Cal'_s, List.length_cons, List.length_nil, i0, i1, iNd, iN_lt, iN_le, iN_eq, iN_add, iN_mul, iN_mod, iN_sub, iN_div, iN_clamp, iN_inb, zle_N, zlt_N, zN_le, zN_lt, zN_eq, Nz_eq, mI_t, mI_f, bI_0, bI_1, bI_t, bI_f, dltT, dltF, dleT, dleF, deqT, deqF, Nat.not_lt_zero, not_true_eq_false, not_false_eq_true, true_and, and_true, false_and, and_false, or_true, true_or, false_or, or_false, and_self, if_true, if_false, Classical.not_not, Nat.add_assoc, Nat.zero_add, Nat.add_zero, bI_or, bI_True, bI_False, Bool.false_eq_true, reduceCtorEq, eq_self, gi_si, gl_si, gr_si, hn_si, hL_si, hX_si, gi_sl, gl_sl, gr_sl, hn_sl, ob_si, ar_si, ob_sl, ar_sl, ks_14_0, n0, hn_new, hn_sr, ob_u, s28])
    exact hQ
  · exact (ZR.sr (o := 28) (k := 2) (v := 19) ((ZR.sr (o := 28) (k := 1) (v := 7) ((ZR.sr (o := 28) (k := 0) (v := 1) (hZ) (by omega) (nc0 hl (by omega)))) (by omega) (nc1 (by omega) (nc0 hl (by omega))))) (by omega) (nc1 (by omega) (nc1 (by omega) (nc0 hl (by omega)))))
theorem i_ch {h : Hp} {L : Nat} {l : List (Nat × Nat × Nat)} {X : Nat → Int32} (hZ : ZR h 30 l L X) (hl : ∀ q, q ∈ l → q.1 < 29) : ∃ h', Ret 0 0 [.ref 29, .ref 1, .ref 19] h none h' ∧ ZR h' 32 ([(29, 3, 31), (29, 2, 30), (29, 1, 19), (29, 0, 1)] ++ l) L X := by
  have n0 := hZ.n
  have s29 : SH 29 = (0, 0) := by decide
  have s30 : SH 30 = (2, 100) := by decide
  have s31 : SH 31 = (2, 100) := by decide
  refine ⟨(sr (hnew (sr (hnew (sr (sr h 29 0 (some (1))) 29 1 (some (19)))) 29 2 (some (30)))) 29 3 (some (31))), ?_, ?_⟩
  · refine Ret_L [some (.ref 29), some (.ref 1), some (.ref 19)] rfl rfl fun Q hQ => ?_
    (refine wp_go 600 ks_0_0.1 ?_; simp (disch := first | with_reducible assumption | omega | (simp only [ob_si, ar_si, ob_sl, ar_sl]; with_reducible assumption)) only [ci_100, ldA_a, r_2, r_6, r_67, r_83, r_94, r_97, wpn_S, wpn_zero, stp_h, lk_0, lk_s, st1_0, st1_1, st1_2, st2_0, st2_1, st2_2, kj_i, kj_a, kj_l, kj_n, cat_n, cat_i, cat_a, cat_u, cat_l, vc_i, vc_a, rv_s, tl_n, tl_s, Cal'_s, List.length_cons, List.length_nil, i0, i1, iNd, iN_lt, iN_le, iN_eq, iN_add, iN_mul, iN_mod, iN_sub, iN_div, iN_clamp, iN_inb, zle_N, zlt_N, zN_le, zN_lt, zN_eq, Nz_eq, mI_t, mI_f, bI_0, bI_1, bI_t, bI_f, dltT, dltF, dleT, dleF, deqT, deqF, Nat.not_lt_zero, not_true_eq_false, not_false_eq_true, true_and, and_true, false_and, and_false, or_true, true_or, false_or, or_false, and_self, if_true, if_false, Classical.not_not, Nat.add_assoc, Nat.zero_add, Nat.add_zero, bI_or, bI_True, bI_False, Bool.false_eq_true, reduceCtorEq, eq_self, gi_si, gl_si, gr_si, hn_si, hL_si, hX_si, gi_sl, gl_sl, gr_sl, hn_sl, ob_si, ar_si, ob_sl, ar_sl, ks_0_0, n0, hn_new, hn_sr, ob_u, s29, s30, s31])
    exact hQ
  · exact (ZR.sr (o := 29) (k := 3) (v := 31) (((ZR.sr (o := 29) (k := 2) (v := 30) (((ZR.sr (o := 29) (k := 1) (v := 19) ((ZR.sr (o := 29) (k := 0) (v := 1) (hZ) (by omega) (nc0 hl (by omega)))) (by omega) (nc1 (by omega) (nc0 hl (by omega))))).new) (by omega) (nc1 (by omega) (nc1 (by omega) (nc0 hl (by omega)))))).new) (by omega) (nc1 (by omega) (nc1 (by omega) (nc1 (by omega) (nc0 hl (by omega))))))
theorem i_qu {h : Hp} {L : Nat} {l : List (Nat × Nat × Nat)} {X : Nat → Int32} (hZ : ZR h 33 l L X) (hl : ∀ q, q ∈ l → q.1 < 32) : ∃ h', Ret 0 95 [.ref 32, .ref 19] h none h' ∧ ZR h' 34 ([(32, 1, 33), (32, 0, 19)] ++ l) L X := by
  have n0 := hZ.n
  have s32 : SH 32 = (0, 7) := by decide
  have s33 : SH 33 = (1, 96) := by decide
  refine ⟨(sr (hnew (sr h 32 0 (some (19)))) 32 1 (some (33))), ?_, ?_⟩
  · refine Ret_L [some (.ref 32), some (.ref 19)] rfl rfl fun Q hQ => ?_
    (refine wp_go 600 ks_95_0.1 ?_; simp (disch := first | with_reducible assumption | omega | (simp only [ob_si, ar_si, ob_sl, ar_sl]; with_reducible assumption)) only [ci_96, ldA_a, r_2, r_6, r_67, r_83, r_94, r_96, wpn_S, wpn_zero, stp_h, lk_0, lk_s, st1_0, st1_1, st1_2, st2_0, st2_1, st2_2, kj_i, kj_a, kj_l, kj_n, cat_n, cat_i, cat_a, cat_u, cat_l, vc_i, vc_a, rv_s, tl_n, tl_s, Cal'_s, List.length_cons, List.length_nil, i0, i1, iNd, iN_lt, iN_le, iN_eq, iN_add, iN_mul, iN_mod, iN_sub, iN_div, iN_clamp, iN_inb, zle_N, zlt_N, zN_le, zN_lt, zN_eq, Nz_eq, mI_t, mI_f, bI_0, bI_1, bI_t, bI_f, dltT, dltF, dleT, dleF, deqT, deqF, Nat.not_lt_zero, not_true_eq_false, not_false_eq_true, true_and, and_true, false_and, and_false, or_true, true_or, false_or, or_false, and_self, if_true, if_false, Classical.not_not, Nat.add_assoc, Nat.zero_add, Nat.add_zero, bI_or, bI_True, bI_False, Bool.false_eq_true, reduceCtorEq, eq_self, gi_si, gl_si, gr_si, hn_si, hL_si, hX_si, gi_sl, gl_sl, gr_sl, hn_sl, ob_si, ar_si, ob_sl, ar_sl, ks_95_0, n0, hn_new, hn_sr, ob_u, s32, s33])
    exact hQ
  · exact (ZR.sr (o := 32) (k := 1) (v := 33) (((ZR.sr (o := 32) (k := 0) (v := 19) (hZ) (by omega) (nc0 hl (by omega)))).new) (by omega) (nc1 (by omega) (nc0 hl (by omega))))
theorem i_ro {h : Hp} {L : Nat} {l : List (Nat × Nat × Nat)} {X : Nat → Int32} (hZ : ZR h 35 l L X) (hl : ∀ q, q ∈ l → q.1 < 34) : ∃ h', Ret 0 111 [.ref 34] h none h' ∧ ZR h' 36 ([(34, 0, 35)] ++ l) L X := by
  have n0 := hZ.n
  have s34 : SH 34 = (0, 8) := by decide
  have s35 : SH 35 = (1, 12) := by decide
  refine ⟨(sr (hnew h) 34 0 (some (35))), ?_, ?_⟩
  · refine Ret_L [some (.ref 34)] rfl rfl fun Q hQ => ?_
    (refine wp_go 600 ks_111_0.1 ?_; simp (disch := first | with_reducible assumption | omega | (simp only [ob_si, ar_si, ob_sl, ar_sl]; with_reducible assumption)) only [ci_12, ldA_a, r_2, r_6, r_67, r_83, r_94, r_96, wpn_S, wpn_zero, stp_h, lk_0, lk_s, st1_0, st1_1, st1_2, st2_0, st2_1, st2_2, kj_i, kj_a, kj_l, kj_n, cat_n, cat_i, cat_a, cat_u, cat_l, vc_i, vc_a, rv_s, tl_n, tl_s, Cal'_s, List.length_cons, List.length_nil, i0, i1, iNd, iN_lt, iN_le, iN_eq, iN_add, iN_mul, iN_mod, iN_sub, iN_div, iN_clamp, iN_inb, zle_N, zlt_N, zN_le, zN_lt, zN_eq, Nz_eq, mI_t, mI_f, bI_0, bI_1, bI_t, bI_f, dltT, dltF, dleT, dleF, deqT, deqF, Nat.not_lt_zero, not_true_eq_false, not_false_eq_true, true_and, and_true, false_and, and_false, or_true, true_or, false_or, or_false, and_self, if_true, if_false, Classical.not_not, Nat.add_assoc, Nat.zero_add, Nat.add_zero, bI_or, bI_True, bI_False, Bool.false_eq_true, reduceCtorEq, eq_self, gi_si, gl_si, gr_si, hn_si, hL_si, hX_si, gi_sl, gl_sl, gr_sl, hn_sl, ob_si, ar_si, ob_sl, ar_sl, ks_111_0, n0, hn_new, hn_sr, ob_u, s34, s35])
    exact hQ
  · exact (ZR.sr (o := 34) (k := 0) (v := 35) ((hZ).new) (by omega) (nc0 hl (by omega)))
theorem i_pa {h : Hp} {L : Nat} {l : List (Nat × Nat × Nat)} {X : Nat → Int32} (hZ : ZR h 24 l L X) (hl : ∀ q, q ∈ l → q.1 < 23) : ∃ h', Ret 1 77 [.ref 23, .ref 1, .ref 7, .ref 19] h none h' ∧ ZR h' 28 ([(23, 4, 27), (23, 3, 24), (24, 1, 26), (24, 0, 25), (23, 2, 19), (23, 1, 7), (23, 0, 1)] ++ l) L X := by
  have n0 := hZ.n
  have s23 : SH 23 = (0, 5) := by decide
  have s24 : SH 24 = (0, 10) := by decide
  have s27 : SH 27 = (1, 36) := by decide
  have Z1 := ZR.sr (o := 23) (k := 2) (v := 19) (ZR.sr (o := 23) (k := 1) (v := 7) (ZR.sr (o := 23) (k := 0) (v := 1) hZ (by omega) (nc0 hl (by omega))) (by omega) (nc1 (by omega) (nc0 hl (by omega)))) (by omega) (nc1 (by omega) (nc1 (by omega) (nc0 hl (by omega))))
  have hl2 : ∀ q, q ∈ (23, 2, 19) :: (23, 1, 7) :: (23, 0, 1) :: l → q.1 < 24 := fun q hq => by
    rcases List.mem_cons.mp hq with e | hq
    · subst e; decide
    · rcases List.mem_cons.mp hq with e | hq
      · subst e; decide
      · rcases List.mem_cons.mp hq with e | hq
        · subst e; decide
        · have := hl q hq; omega
  obtain ⟨h2, r2, Z2⟩ := i_wa Z1.new hl2
  have n2 := Z2.n
  have Z3 := ZR.sr (o := 23) (k := 3) (v := 24) Z2 (by omega) (nc1 (by omega) (nc1 (by omega) (nc1 (by omega) (nc1 (by omega) (nc1 (by omega) (nc0 hl (by omega)))))))
  have Z4 := ZR.sr (o := 23) (k := 4) (v := 27) Z3.new (by omega) (nc1 (by omega) (nc1 (by omega) (nc1 (by omega) (nc1 (by omega) (nc1 (by omega) (nc1 (by omega) (nc0 hl (by omega))))))))
  refine ⟨_, ?_, Z4⟩
  refine Ret_L [some (.ref 23), some (.ref 1), some (.ref 7), some (.ref 19)] rfl rfl fun Q hQ => ?_
  (refine wp_go 600 ks_77_0.1 ?_; simp (disch := first | with_reducible assumption | omega | (simp only [ob_si, ar_si, ob_sl, ar_sl]; with_reducible assumption)) only [ci_36, ldA_a, r_2, r_50, r_6, r_67, r_82_1, r_83, r_94, r_95, r_96, wpn_S, wpn_zero, stp_h, lk_0, lk_s, st1_0, st1_1, st1_2, st2_0, st2_1, st2_2, kj_i, kj_a, kj_l, kj_n, cat_n, cat_i, cat_a, cat_u, cat_l, vc_i, vc_a, rv_s, tl_n, tl_s, Cal'_s, List.length_cons, List.length_nil, i0, i1, iNd, iN_lt, iN_le, iN_eq, iN_add, iN_mul, iN_mod, iN_sub, iN_div, iN_clamp, iN_inb, zle_N, zlt_N, zN_le, zN_lt, zN_eq, Nz_eq, mI_t, mI_f, bI_0, bI_1, bI_t, bI_f, dltT, dltF, dleT, dleF, deqT, deqF, Nat.not_lt_zero, not_true_eq_false, not_false_eq_true, true_and, and_true, false_and, and_false, or_true, true_or, false_or, or_false, and_self, if_true, if_false, Classical.not_not, Nat.add_assoc, Nat.zero_add, Nat.add_zero, bI_or, bI_True, bI_False, Bool.false_eq_true, reduceCtorEq, eq_self, gi_si, gl_si, gr_si, hn_si, hL_si, hX_si, gi_sl, gl_sl, gr_sl, hn_sl, ob_si, ar_si, ob_sl, ar_sl, ks_77_0, n0, n2, hn_new, hn_sr, ob_u, s23, s24, s27, Cal_eq r2])
  exact hQ
theorem sh_p : ∀ p < 8, SH (38 + 6 * p) = (0, 3) ∧ SH (38 + 6 * p + 1) = (1, 6) ∧ SH (38 + 6 * p + 2) = (1, 6) ∧ SH (38 + 6 * p + 3) = (1, 6) ∧ SH (38 + 6 * p + 4) = (1, 6) ∧ SH (38 + 6 * p + 5) = (1, 36) := by decide
noncomputable def pal : Nat → List (Nat × Nat × Nat) → List (Nat × Nat × Nat)
  | 0, l => l
  | p + 1, l => (37, p, 38 + 6 * p) :: (38 + 6 * p, 4, 38 + 6 * p + 5) :: (38 + 6 * p, 3, 38 + 6 * p + 4) :: (38 + 6 * p, 2, 38 + 6 * p + 3) :: (38 + 6 * p, 1, 38 + 6 * p + 2) :: (38 + 6 * p, 0, 38 + 6 * p + 1) :: pal p l
theorem pal_b {l : List (Nat × Nat × Nat)} (hl : ∀ q, q ∈ l → q.1 < 37) : ∀ p q, q ∈ pal p l → q.1 < 38 + 6 * p ∧ (q.1 = 37 → q.2.1 < p)
  | 0, q, hq => by have := hl q hq; exact ⟨by omega, fun e => by omega⟩
  | p + 1, q, hq => by
    rcases List.mem_cons.mp hq with e | hq
    · subst e; exact ⟨by show 37 < _; omega, fun _ => by show p < p + 1; omega⟩
    · rcases List.mem_cons.mp hq with e | hq
      · subst e; exact ⟨by show 38 + 6 * p < _; omega, fun e => by have e : 38 + 6 * p = 37 := e; omega⟩
      · rcases List.mem_cons.mp hq with e | hq
        · subst e; exact ⟨by show 38 + 6 * p < _; omega, fun e => by have e : 38 + 6 * p = 37 := e; omega⟩
        · rcases List.mem_cons.mp hq with e | hq
          · subst e; exact ⟨by show 38 + 6 * p < _; omega, fun e => by have e : 38 + 6 * p = 37 := e; omega⟩
          · rcases List.mem_cons.mp hq with e | hq
            · subst e; exact ⟨by show 38 + 6 * p < _; omega, fun e => by have e : 38 + 6 * p = 37 := e; omega⟩
            · rcases List.mem_cons.mp hq with e | hq
              · subst e; exact ⟨by show 38 + 6 * p < _; omega, fun e => by have e : 38 + 6 * p = 37 := e; omega⟩
              · have := pal_b hl p q hq
                exact ⟨by omega, fun e => by have := this.2 e; omega⟩
theorem pal_mem (l : List (Nat × Nat × Nat)) {q : Nat × Nat × Nat} : ∀ p, q ∈ l → q ∈ pal p l
  | 0, h => h
  | p + 1, h => List.mem_cons_of_mem _ (List.mem_cons_of_mem _ (List.mem_cons_of_mem _ (List.mem_cons_of_mem _ (List.mem_cons_of_mem _ (List.mem_cons_of_mem _ (pal_mem l p h))))))
theorem sr_mem {h : Hp} {n L o k v : Nat} {l : List (Nat × Nat × Nat)} {X : Nat → Int32} (z : ZR h n l L X) (ho : o < n) (hc : ∀ q, q ∈ l → q.1 = o → q.2.1 < k) : ZR (sr h o k (some v)) n ((o, k, v) :: l) L X := ZR.sr z ho fun q hq e => by have := hc q hq e.1; omega
theorem i_pt {h : Hp} {L : Nat} {l : List (Nat × Nat × Nat)} {X : Nat → Int32} (hZ : ZR h 37 l L X) (hl : ∀ q, q ∈ l → q.1 < 36) : ∃ h', Ret 1 87 [.ref 36] h none h' ∧ ZR h' 86 (pal 8 ((36, 0, 37) :: l)) L X := by
  have n0 := hZ.n
  have s36 : SH 36 = (0, 6) := by decide
  have s37 : SH 37 = (3, 8) := by decide
  have Z1 := ZR.sr (o := 36) (k := 0) (v := 37) hZ.new (by omega) (nc0 hl (by omega))
  have hl2 : ∀ q, q ∈ (36, 0, 37) :: l → q.1 < 37 := fun q hq => by
    rcases List.mem_cons.mp hq with e | hq
    · subst e; decide
    · have := hl q hq; omega
  have key : ∀ Q : Option Value → Hp → Prop, (∀ h', ZR h' 86 (pal 8 ((36, 0, 37) :: l)) L X → Q none h') → wp 1 87 0 [some (.ref 36), none] [] h Q := by
    intro Q hQ
    (refine wp_go 600 ks_87_0.1 ?_; simp (disch := first | with_reducible assumption | omega | (simp only [ob_si, ar_si, ob_sl, ar_sl]; with_reducible assumption)) only [ci_0, ci_1, ci_8, inc_i, ldA_a, ldI_i, r_0, r_2, r_3, r_30, r_44, r_50, r_6, r_62, r_67, r_75, r_76, r_82_1, r_83, r_9, r_94, r_95, r_98, wpn_S, wpn_zero, stp_h, lk_0, lk_s, st1_0, st1_1, st1_2, st2_0, st2_1, st2_2, kj_i, kj_a, kj_l, kj_n, cat_n, cat_i, cat_a, cat_u, cat_l, vc_i, vc_a, rv_s, tl_n, tl_s, Cal'_s, List.length_cons, List.length_nil, i0, i1, iNd, iN_lt, iN_le, iN_eq, iN_add, iN_mul, iN_mod, iN_sub, iN_div, iN_clamp, iN_inb, zle_N, zlt_N, zN_le, zN_lt, zN_eq, Nz_eq, mI_t, mI_f, bI_0, bI_1, bI_t, bI_f, dltT, dltF, dleT, dleF, deqT, deqF, Nat.not_lt_zero, not_true_eq_false, not_false_eq_true, true_and, and_true, false_and, and_false, or_true, true_or, false_or, or_false, and_self, if_true, if_false, Classical.not_not, Nat.add_assoc, Nat.zero_add, Nat.add_zero, bI_or, bI_True, bI_False, Bool.false_eq_true, reduceCtorEq, eq_self, gi_si, gl_si, gr_si, hn_si, hL_si, hX_si, gi_sl, gl_sl, gr_sl, hn_sl, ob_si, ar_si, ob_sl, ar_sl, ks_87_0, n0, hn_new, hn_sr, ob_u, s36, s37])
    refine wp_loop (fun p L1 h' => ZR h' (38 + 6 * p) (pal p ((36, 0, 37) :: l)) L X ∧ L1 = [some (.ref 36), some (.int (iN p))]) 8 ?_ ?_ 8 0 _ _ (by omega) ⟨Z1, rfl⟩
    · rintro p L1 h1 hp ⟨Zp, rfl⟩ hnx
      have np := Zp.n
      have hb := pal_b hl2 p
      have e37 : gr h1 36 0 = some 37 := Zp.g (pal_mem _ p List.mem_cons_self)
      obtain ⟨a0, a1, a2, a3, a4, a5⟩ := sh_p p hp
      obtain ⟨h2, r2, Z2⟩ := i_meet (m := 38 + 6 * p) Zp.new (fun q hq => (hb q hq).1) a0 a1 a2 a3 a4 a5
      have n2 := Z2.n
      have Z3 := sr_mem (o := 37) (k := p) (v := 38 + 6 * p) Z2 (by omega) (fun q hq e => by
        have hq : q ∈ (38 + 6 * p, 4, 38 + 6 * p + 5) :: (38 + 6 * p, 3, 38 + 6 * p + 4) :: (38 + 6 * p, 2, 38 + 6 * p + 3) :: (38 + 6 * p, 1, 38 + 6 * p + 2) :: (38 + 6 * p, 0, 38 + 6 * p + 1) :: pal p ((36, 0, 37) :: l) := hq
        rcases List.mem_cons.mp hq with e2 | hq
        · subst e2; have e : 38 + 6 * p = 37 := e; omega
        · rcases List.mem_cons.mp hq with e2 | hq
          · subst e2; have e : 38 + 6 * p = 37 := e; omega
          · rcases List.mem_cons.mp hq with e2 | hq
            · subst e2; have e : 38 + 6 * p = 37 := e; omega
            · rcases List.mem_cons.mp hq with e2 | hq
              · subst e2; have e : 38 + 6 * p = 37 := e; omega
              · rcases List.mem_cons.mp hq with e2 | hq
                · subst e2; have e : 38 + 6 * p = 37 := e; omega
                · exact (hb q hq).2 e)
      have hnx := hnx [some (.ref 36), some (.int (iN (p + 1)))] _ ⟨by rw [show 38 + 6 * (p + 1) = 38 + 6 * p + 6 by omega]; exact Z3, rfl⟩
      (refine wp_go 600 ks_87_0.2.2.2.2.2.2.2.2.1 ?_; simp (disch := first | with_reducible assumption | omega | (simp only [ob_si, ar_si, ob_sl, ar_sl]; with_reducible assumption)) only [ci_0, ci_1, ci_8, inc_i, ldA_a, ldI_i, r_0, r_2, r_3, r_30, r_44, r_50, r_6, r_62, r_67, r_75, r_76, r_82_1, r_83, r_9, r_94, r_95, r_98, wpn_S, wpn_zero, stp_h, lk_0, lk_s, st1_0, st1_1, st1_2, st2_0, st2_1, st2_2, kj_i, kj_a, kj_l, kj_n, cat_n, cat_i, cat_a, cat_u, cat_l, vc_i, vc_a, rv_s, tl_n, tl_s, Cal'_s, List.length_cons, List.length_nil, i0, i1, iNd, iN_lt, iN_le, iN_eq, iN_add, iN_mul, iN_mod, iN_sub, iN_div, iN_clamp, iN_inb, zle_N, zlt_N, zN_le, zN_lt, zN_eq, Nz_eq, mI_t, mI_f, bI_0, bI_1, bI_t, bI_f, dltT, dltF, dleT, dleF, deqT, deqF, Nat.not_lt_zero, not_true_eq_false, not_false_eq_true, true_and, and_true, false_and, and_false, or_true, true_or, false_or, or_false, and_self, if_true, if_false, Classical.not_not, Nat.add_assoc, Nat.zero_add, Nat.add_zero, bI_or, bI_True, bI_False, Bool.false_eq_true, reduceCtorEq, eq_self, gi_si, gl_si, gr_si, hn_si, hL_si, hX_si, gi_sl, gl_sl, gr_sl, hn_sl, ob_si, ar_si, ob_sl, ar_sl, ks_87_0, np, n2, hn_new, hn_sr, ob_u, ar_u, s36, s37, e37, a0, iNd, Cal_eq r2])
      exact hnx
    · rintro L1 h1 ⟨Zp, rfl⟩
      have np := Zp.n
      have e37 : gr h1 36 0 = some 37 := Zp.g (pal_mem _ 8 List.mem_cons_self)
      (refine wp_go 600 ks_87_0.2.2.2.2.2.2.2.2.1 ?_; simp (disch := first | with_reducible assumption | omega | (simp only [ob_si, ar_si, ob_sl, ar_sl]; with_reducible assumption)) only [ci_0, ci_1, ci_8, inc_i, ldA_a, ldI_i, r_0, r_2, r_3, r_30, r_44, r_50, r_6, r_62, r_67, r_75, r_76, r_82_1, r_83, r_9, r_94, r_95, r_98, wpn_S, wpn_zero, stp_h, lk_0, lk_s, st1_0, st1_1, st1_2, st2_0, st2_1, st2_2, kj_i, kj_a, kj_l, kj_n, cat_n, cat_i, cat_a, cat_u, cat_l, vc_i, vc_a, rv_s, tl_n, tl_s, Cal'_s, List.length_cons, List.length_nil, i0, i1, iNd, iN_lt, iN_le, iN_eq, iN_add, iN_mul, iN_mod, iN_sub, iN_div, iN_clamp, iN_inb, zle_N, zlt_N, zN_le, zN_lt, zN_eq, Nz_eq, mI_t, mI_f, bI_0, bI_1, bI_t, bI_f, dltT, dltF, dleT, dleF, deqT, deqF, Nat.not_lt_zero, not_true_eq_false, not_false_eq_true, true_and, and_true, false_and, and_false, or_true, true_or, false_or, or_false, and_self, if_true, if_false, Classical.not_not, Nat.add_assoc, Nat.zero_add, Nat.add_zero, bI_or, bI_True, bI_False, Bool.false_eq_true, reduceCtorEq, eq_self, gi_si, gl_si, gr_si, hn_si, hL_si, hX_si, gi_sl, gl_sl, gr_sl, hn_sl, ob_si, ar_si, ob_sl, ar_sl, ks_87_0, np, ob_u, s36, s37, e37, iNd])
      exact hQ _ Zp
  obtain ⟨v, h', r, rfl, z⟩ := Ret_ex (d := 1) (y := 87) (as := [.ref 36]) [some (.ref 36), none] rfl rfl (key (fun v h' => v = none ∧ ZR h' 86 (pal 8 ((36, 0, 37) :: l)) L X) fun h' a => ⟨rfl, a⟩)
  exact ⟨h', r, z⟩
set_option maxRecDepth 20000 in
set_option maxHeartbeats 8000000 in
theorem i_F {h : Hp} {L : Nat} {X : Nat → Int32} (hZ : ZR h 1 [] L X) : ∃ h' l, Ret 2 146 [.ref 0] h none h' ∧ ZR h' 87 l L X ∧ (∀ q, q ∈ l → q.1 < 87) ∧ (∀ q, q ∈ grT → q.1 < 87 → q ∈ l) := by
  have n0 := hZ.n
  have Y0 := hZ.new
  obtain ⟨g0, r0, Z0⟩ := i_meet (m := 1) Y0 (by decide) (by decide) (by decide) (by decide) (by decide) (by decide) (by decide)
  have m0 := Z0.n
  have W0 := ZR.sr (o := 0) (k := 0) (v := 1) Z0 (by omega) (by decide)
  have Y1 := W0.new
  obtain ⟨g1, r1, Z1⟩ := i_meet (m := 7) Y1 (by decide) (by decide) (by decide) (by decide) (by decide) (by decide) (by decide)
  have m1 := Z1.n
  have W1 := ZR.sr (o := 0) (k := 1) (v := 7) Z1 (by omega) (by decide)
  have Y2 := W1.new
  obtain ⟨g2, r2, Z2⟩ := i_meet (m := 13) Y2 (by decide) (by decide) (by decide) (by decide) (by decide) (by decide) (by decide)
  have m2 := Z2.n
  have W2 := ZR.sr (o := 0) (k := 2) (v := 13) Z2 (by omega) (by decide)
  have Y3 := W2.new
  obtain ⟨g3, r3, Z3⟩ := i_kn Y3 (by decide)
  have m3 := Z3.n
  have W3 := ZR.sr (o := 0) (k := 4) (v := 19) Z3 (by omega) (by decide)
  have Y4 := W3.new
  have e4_0 := Y4.g (o := 0) (k := 0) (v := 1) (by decide)
  obtain ⟨g4, r4, Z4⟩ := i_st Y4 (by decide)
  have m4 := Z4.n
  have W4 := ZR.sr (o := 0) (k := 5) (v := 21) Z4 (by omega) (by decide)
  have Y5 := W4.new
  have e5_0 := Y5.g (o := 0) (k := 0) (v := 1) (by decide)
  have e5_1 := Y5.g (o := 0) (k := 1) (v := 7) (by decide)
  have e5_4 := Y5.g (o := 0) (k := 4) (v := 19) (by decide)
  obtain ⟨g5, r5, Z5⟩ := i_mi Y5 (by decide)
  have m5 := Z5.n
  have W5 := ZR.sr (o := 0) (k := 6) (v := 22) Z5 (by omega) (by decide)
  have Y6 := W5.new
  have e6_0 := Y6.g (o := 0) (k := 0) (v := 1) (by decide)
  have e6_1 := Y6.g (o := 0) (k := 1) (v := 7) (by decide)
  have e6_4 := Y6.g (o := 0) (k := 4) (v := 19) (by decide)
  obtain ⟨g6, r6, Z6⟩ := i_pa Y6 (by decide)
  have m6 := Z6.n
  have W6 := ZR.sr (o := 0) (k := 7) (v := 23) Z6 (by omega) (by decide)
  have Y7 := W6.new
  have e7_0 := Y7.g (o := 0) (k := 0) (v := 1) (by decide)
  have e7_1 := Y7.g (o := 0) (k := 1) (v := 7) (by decide)
  have e7_4 := Y7.g (o := 0) (k := 4) (v := 19) (by decide)
  obtain ⟨g7, r7, Z7⟩ := i_lo Y7 (by decide)
  have m7 := Z7.n
  have W7 := ZR.sr (o := 0) (k := 8) (v := 28) Z7 (by omega) (by decide)
  have Y8 := W7.new
  have e8_0 := Y8.g (o := 0) (k := 0) (v := 1) (by decide)
  have e8_4 := Y8.g (o := 0) (k := 4) (v := 19) (by decide)
  obtain ⟨g8, r8, Z8⟩ := i_ch Y8 (by decide)
  have m8 := Z8.n
  have W8 := ZR.sr (o := 0) (k := 9) (v := 29) Z8 (by omega) (by decide)
  have Y9 := W8.new
  have e9_4 := Y9.g (o := 0) (k := 4) (v := 19) (by decide)
  obtain ⟨g9, r9, Z9⟩ := i_qu Y9 (by decide)
  have m9 := Z9.n
  have W9 := ZR.sr (o := 0) (k := 10) (v := 32) Z9 (by omega) (by decide)
  have Y10 := W9.new
  obtain ⟨g10, r10, Z10⟩ := i_ro Y10 (by decide)
  have m10 := Z10.n
  have W10 := ZR.sr (o := 0) (k := 11) (v := 34) Z10 (by omega) (by decide)
  have Y11 := W10.new
  obtain ⟨g11, r11, Z11⟩ := i_pt Y11 (by decide)
  have m11 := Z11.n
  have W11 := ZR.sr (o := 0) (k := 12) (v := 36) Z11 (by omega) (by decide)
  have WE := ZR.sr (o := 0) (k := 13) (v := 86) W11.new (by omega) (by decide)
  have s0 : SH 0 = (0, 11) := by decide
  have s1 : SH 1 = (0, 3) := by decide
  have s7 : SH 7 = (0, 3) := by decide
  have s13 : SH 13 = (0, 3) := by decide
  have s19 : SH 19 = (0, 1) := by decide
  have s21 : SH 21 = (0, 9) := by decide
  have s22 : SH 22 = (0, 4) := by decide
  have s23 : SH 23 = (0, 5) := by decide
  have s28 : SH 28 = (0, 2) := by decide
  have s29 : SH 29 = (0, 0) := by decide
  have s32 : SH 32 = (0, 7) := by decide
  have s34 : SH 34 = (0, 8) := by decide
  have s36 : SH 36 = (0, 6) := by decide
  have s86 : SH 86 = (1, 7) := by decide
  refine ⟨_, _, ?_, WE, by decide, by decide⟩
  refine Ret_L [some (.ref 0)] rfl rfl fun Q hQ => ?_
  (refine wp_go 600 ks_146_0.1 ?_; simp (disch := first | with_reducible assumption | omega | (simp only [ob_si, ar_si, ob_sl, ar_sl]; with_reducible assumption)) only [ci_7, ldA_a, r_2, r_50, r_6, r_62, r_67, r_82_1, r_82_2, r_82_3, r_82_4, r_83, r_94, r_95, r_96, wpn_S, wpn_zero, stp_h, lk_0, lk_s, st1_0, st1_1, st1_2, st2_0, st2_1, st2_2, kj_i, kj_a, kj_l, kj_n, cat_n, cat_i, cat_a, cat_u, cat_l, vc_i, vc_a, rv_s, tl_n, tl_s, Cal'_s, List.length_cons, List.length_nil, i0, i1, iNd, iN_lt, iN_le, iN_eq, iN_add, iN_mul, iN_mod, iN_sub, iN_div, iN_clamp, iN_inb, zle_N, zlt_N, zN_le, zN_lt, zN_eq, Nz_eq, mI_t, mI_f, bI_0, bI_1, bI_t, bI_f, dltT, dltF, dleT, dleF, deqT, deqF, Nat.not_lt_zero, not_true_eq_false, not_false_eq_true, true_and, and_true, false_and, and_false, or_true, true_or, false_or, or_false, and_self, if_true, if_false, Classical.not_not, Nat.add_assoc, Nat.zero_add, Nat.add_zero, bI_or, bI_True, bI_False, Bool.false_eq_true, reduceCtorEq, eq_self, gi_si, gl_si, gr_si, hn_si, hL_si, hX_si, gi_sl, gl_sl, gr_sl, hn_sl, ob_si, ar_si, ob_sl, ar_sl, ks_146_0, ks_146_1, ks_146_2, ks_146_3, n0, m0, Cal_eq r0, m1, Cal_eq r1, m2, Cal_eq r2, m3, Cal_eq r3, e4_0, m4, Cal_eq r4, e5_0, e5_1, e5_4, m5, Cal_eq r5, e6_0, e6_1, e6_4, m6, Cal_eq r6, e7_0, e7_1, e7_4, m7, Cal_eq r7, e8_0, e8_4, m8, Cal_eq r8, e9_4, m9, Cal_eq r9, m10, Cal_eq r10, m11, Cal_eq r11, hn_new, hn_sr, ob_u, s0, s1, s7, s13, s19, s21, s22, s23, s28, s29, s32, s34, s36, s86])
  exact hQ
noncomputable def OL : List (Nat × Nat × Nat) := [(87, 30, 104), (87, 29, 103), (87, 26, 102), (87, 24, 101), (87, 23, 100), (87, 18, 99), (87, 17, 98), (87, 16, 97), (87, 15, 96), (87, 14, 95), (87, 9, 94), (87, 8, 93), (87, 5, 92), (87, 4, 91), (87, 3, 90), (87, 2, 89), (87, 1, 88)]
set_option maxRecDepth 20000 in
set_option maxHeartbeats 8000000 in
theorem i_O {h : Hp} {L : Nat} {X : Nat → Int32} {l : List (Nat × Nat × Nat)} (hZ : ZR h 88 l L X) (hl : ∀ q, q ∈ l → q.1 < 87) : ∃ h', Ret 0 199 [.ref 87] h none h' ∧ ZR h' 105 (OL ++ l) L X ∧ gi h' 87 28 = zI (-1) := by
  have n0 := hZ.n
  have s87 : SH 87 = (0, 12) := by decide
  have s88 : SH 88 = (1, 6) := by decide
  have s89 : SH 89 = (1, 6) := by decide
  have s90 : SH 90 = (1, 6) := by decide
  have s91 : SH 91 = (1, 6) := by decide
  have s92 : SH 92 = (1, 36) := by decide
  have s93 : SH 93 = (1, 7) := by decide
  have s94 : SH 94 = (1, 96) := by decide
  have s95 : SH 95 = (1, 49) := by decide
  have s96 : SH 96 = (1, 49) := by decide
  have s97 : SH 97 = (1, 147) := by decide
  have s98 : SH 98 = (1, 62) := by decide
  have s99 : SH 99 = (1, 62) := by decide
  have s100 : SH 100 = (1, 496) := by decide
  have s101 : SH 101 = (1, 62) := by decide
  have s102 : SH 102 = (1, 456) := by decide
  have s103 : SH 103 = (1, 6) := by decide
  have s104 : SH 104 = (1, 12) := by decide
  refine ⟨(si (sr (hnew (sr (hnew (si (sr (hnew (sr (hnew (sr (hnew (sr (hnew (sr (hnew (sr (hnew (sr (hnew (sr (hnew (sr (hnew (sr (hnew (sr (hnew (sr (hnew (sr (hnew (sr (hnew (sr (hnew h) 87 1 (some 88))) 87 2 (some 89))) 87 3 (some 90))) 87 4 (some 91))) 87 5 (some 92))) 87 8 (some 93))) 87 9 (some 94))) 87 14 (some 95))) 87 15 (some 96))) 87 16 (some 97))) 87 17 (some 98))) 87 18 (some 99))) 87 23 (some 100))) 87 24 (some 101))) 87 26 (some 102)) 87 28 (zI (-1)))) 87 29 (some 103))) 87 30 (some 104)) 87 7 (iN 0)), ?_, ?_, ?_⟩
  · refine Ret_L [some (.ref 87)] rfl rfl fun Q hQ => ?_
    (refine wp_go 600 ks_199_0.1 ?_; simp (disch := first | with_reducible assumption | omega | (simp only [ob_si, ar_si, ob_sl, ar_sl]; with_reducible assumption)) only [ci_0, ci_12, ci_147, ci_36, ci_456, ci_49, ci_496, ci_6, ci_62, ci_7, ci_96, cm_1, ldA_a, r_2, r_6, r_63, r_67, r_83, r_94, r_96, wpn_S, wpn_zero, stp_h, lk_0, lk_s, st1_0, st1_1, st1_2, st2_0, st2_1, st2_2, kj_i, kj_a, kj_l, kj_n, cat_n, cat_i, cat_a, cat_u, cat_l, vc_i, vc_a, rv_s, tl_n, tl_s, Cal'_s, List.length_cons, List.length_nil, i0, i1, iNd, iN_lt, iN_le, iN_eq, iN_add, iN_mul, iN_mod, iN_sub, iN_div, iN_clamp, iN_inb, zle_N, zlt_N, zN_le, zN_lt, zN_eq, Nz_eq, mI_t, mI_f, bI_0, bI_1, bI_t, bI_f, dltT, dltF, dleT, dleF, deqT, deqF, Nat.not_lt_zero, not_true_eq_false, not_false_eq_true, true_and, and_true, false_and, and_false, or_true, true_or, false_or, or_false, and_self, if_true, if_false, Classical.not_not, Nat.add_assoc, Nat.zero_add, Nat.add_zero, bI_or, bI_True, bI_False, Bool.false_eq_true, reduceCtorEq, eq_self, gi_si, gl_si, gr_si, hn_si, hL_si, hX_si, gi_sl, gl_sl, gr_sl, hn_sl, ob_si, ar_si, ob_sl, ar_sl, ks_199_0, ks_199_1, ks_199_2, ks_199_3, n0, hn_new, hn_sr, hn_si, ob_u, s87, s88, s89, s90, s91, s92, s93, s94, s95, s96, s97, s98, s99, s100, s101, s102, s103, s104])
    exact hQ
  · exact (ZR.s7 (ZR.sr (o := 87) (k := 30) (v := 104) (ZR.new (ZR.sr (o := 87) (k := 29) (v := 103) (ZR.new (ZR.s28 (ZR.sr (o := 87) (k := 26) (v := 102) (ZR.new (ZR.sr (o := 87) (k := 24) (v := 101) (ZR.new (ZR.sr (o := 87) (k := 23) (v := 100) (ZR.new (ZR.sr (o := 87) (k := 18) (v := 99) (ZR.new (ZR.sr (o := 87) (k := 17) (v := 98) (ZR.new (ZR.sr (o := 87) (k := 16) (v := 97) (ZR.new (ZR.sr (o := 87) (k := 15) (v := 96) (ZR.new (ZR.sr (o := 87) (k := 14) (v := 95) (ZR.new (ZR.sr (o := 87) (k := 9) (v := 94) (ZR.new (ZR.sr (o := 87) (k := 8) (v := 93) (ZR.new (ZR.sr (o := 87) (k := 5) (v := 92) (ZR.new (ZR.sr (o := 87) (k := 4) (v := 91) (ZR.new (ZR.sr (o := 87) (k := 3) (v := 90) (ZR.new (ZR.sr (o := 87) (k := 2) (v := 89) (ZR.new (ZR.sr (o := 87) (k := 1) (v := 88) (ZR.new hZ) (by omega) (nc0 hl (by omega)))) (by omega) (nc1 (by omega) (nc0 hl (by omega))))) (by omega) (nc1 (by omega) (nc1 (by omega) (nc0 hl (by omega)))))) (by omega) (nc1 (by omega) (nc1 (by omega) (nc1 (by omega) (nc0 hl (by omega))))))) (by omega) (nc1 (by omega) (nc1 (by omega) (nc1 (by omega) (nc1 (by omega) (nc0 hl (by omega)))))))) (by omega) (nc1 (by omega) (nc1 (by omega) (nc1 (by omega) (nc1 (by omega) (nc1 (by omega) (nc0 hl (by omega))))))))) (by omega) (nc1 (by omega) (nc1 (by omega) (nc1 (by omega) (nc1 (by omega) (nc1 (by omega) (nc1 (by omega) (nc0 hl (by omega)))))))))) (by omega) (nc1 (by omega) (nc1 (by omega) (nc1 (by omega) (nc1 (by omega) (nc1 (by omega) (nc1 (by omega) (nc1 (by omega) (nc0 hl (by omega))))))))))) (by omega) (nc1 (by omega) (nc1 (by omega) (nc1 (by omega) (nc1 (by omega) (nc1 (by omega) (nc1 (by omega) (nc1 (by omega) (nc1 (by omega) (nc0 hl (by omega)))))))))))) (by omega) (nc1 (by omega) (nc1 (by omega) (nc1 (by omega) (nc1 (by omega) (nc1 (by omega) (nc1 (by omega) (nc1 (by omega) (nc1 (by omega) (nc1 (by omega) (nc0 hl (by omega))))))))))))) (by omega) (nc1 (by omega) (nc1 (by omega) (nc1 (by omega) (nc1 (by omega) (nc1 (by omega) (nc1 (by omega) (nc1 (by omega) (nc1 (by omega) (nc1 (by omega) (nc1 (by omega) (nc0 hl (by omega)))))))))))))) (by omega) (nc1 (by omega) (nc1 (by omega) (nc1 (by omega) (nc1 (by omega) (nc1 (by omega) (nc1 (by omega) (nc1 (by omega) (nc1 (by omega) (nc1 (by omega) (nc1 (by omega) (nc1 (by omega) (nc0 hl (by omega))))))))))))))) (by omega) (nc1 (by omega) (nc1 (by omega) (nc1 (by omega) (nc1 (by omega) (nc1 (by omega) (nc1 (by omega) (nc1 (by omega) (nc1 (by omega) (nc1 (by omega) (nc1 (by omega) (nc1 (by omega) (nc1 (by omega) (nc0 hl (by omega)))))))))))))))) (by omega) (nc1 (by omega) (nc1 (by omega) (nc1 (by omega) (nc1 (by omega) (nc1 (by omega) (nc1 (by omega) (nc1 (by omega) (nc1 (by omega) (nc1 (by omega) (nc1 (by omega) (nc1 (by omega) (nc1 (by omega) (nc1 (by omega) (nc0 hl (by omega))))))))))))))))) (by omega) (nc1 (by omega) (nc1 (by omega) (nc1 (by omega) (nc1 (by omega) (nc1 (by omega) (nc1 (by omega) (nc1 (by omega) (nc1 (by omega) (nc1 (by omega) (nc1 (by omega) (nc1 (by omega) (nc1 (by omega) (nc1 (by omega) (nc1 (by omega) (nc0 hl (by omega))))))))))))))))))) (by omega) (nc1 (by omega) (nc1 (by omega) (nc1 (by omega) (nc1 (by omega) (nc1 (by omega) (nc1 (by omega) (nc1 (by omega) (nc1 (by omega) (nc1 (by omega) (nc1 (by omega) (nc1 (by omega) (nc1 (by omega) (nc1 (by omega) (nc1 (by omega) (nc1 (by omega) (nc0 hl (by omega))))))))))))))))))) (by omega) (nc1 (by omega) (nc1 (by omega) (nc1 (by omega) (nc1 (by omega) (nc1 (by omega) (nc1 (by omega) (nc1 (by omega) (nc1 (by omega) (nc1 (by omega) (nc1 (by omega) (nc1 (by omega) (nc1 (by omega) (nc1 (by omega) (nc1 (by omega) (nc1 (by omega) (nc1 (by omega) (nc0 hl (by omega))))))))))))))))))))
  · have n1 : hn (sr (hnew h) 87 1 (some 88)) = 89 := by rw [hn_sr, hn_new, n0]
    simp (disch := omega) only [gi_si, gi_sr, gi_new, up_s, up_f, hn_new, hn_sr, hn_si, n0]
