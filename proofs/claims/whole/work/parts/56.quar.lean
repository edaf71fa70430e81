/-! a quarter told in letters: what it says; the class -/
noncomputable def dgN (c : Nat) : Nat := if c = 112 then 4 else if c = 113 then 4 else if c = 104 then 3 else if c = 109 then 2 else if c = 100 then 2 else 0
noncomputable def fitP (v : Nat → Nat) (a i : Nat) : Prop := (i = 0 ∧ ¬ dgN (v a) = 0) ∨ (0 < i ∧ i ≤ dgN (v a) ∧ 48 ≤ v (a + i) ∧ v (a + i) ≤ 57) ∨ (0 < i ∧ i = dgN (v a) + 1 ∧ v (a + i) = 59)
noncomputable def qsN (v : Nat → Nat) : Nat → Nat
  | 0 => 0
  | k + 1 => qsN v k + dgN (v (qsN v k)) + 2
theorem sp_s (v : Nat → Nat) (k : Nat) : qsN v (k + 1) = qsN v k + dgN (v (qsN v k)) + 2 := rfl
/-- K statements in form, and i letters of one more; then the end, or a letter amiss -/
noncomputable def TxP (v : Nat → Nat) (n K i : Nat) : Prop := (∀ j, j < K → ∀ q, q ≤ dgN (v (qsN v j)) + 1 → fitP v (qsN v j) q) ∧ i ≤ dgN (v (qsN v K)) + 1 ∧ (∀ q, q < i → fitP v (qsN v K) q) ∧ qsN v K + i ≤ n
noncomputable def Tx (v : Nat → Nat) (n K i : Nat) : Prop := TxP v n K i ∧ (qsN v K + i = n ∨ ¬ fitP v (qsN v K) i)
theorem Tx_step {v : Nat → Nat} {n K i : Nat} (h : TxP v n K i) (hn : ¬ qsN v K + i = n) (hf : fitP v (qsN v K) i) : (i ≤ dgN (v (qsN v K)) → TxP v n K (i + 1)) ∧ (¬ i ≤ dgN (v (qsN v K)) → TxP v n (K + 1) 0) := by
  obtain ⟨h1, h2, h3, h4⟩ := h
  refine ⟨fun hi => ⟨h1, by omega, fun q hq => ?_, by omega⟩, fun hi => ⟨fun j hj q hq => ?_, Nat.zero_le _, fun q hq => absurd hq (Nat.not_lt_zero q), by rw [sp_s]; omega⟩⟩
  · by_cases e : q = i
    · rw [e]; exact hf
    · exact h3 q (by omega)
  · by_cases e : j = K
    · subst e
      by_cases e2 : q = i
      · rw [e2]; exact hf
      · exact h3 q (by omega)
    · exact h1 j (by omega) q hq
theorem Tx_ex {v : Nat → Nat} {n : Nat} : ∀ f K i, n - (qsN v K + i) ≤ f → TxP v n K i → ∃ K i, Tx v n K i
  | 0, K, i, hf, h => ⟨K, i, h, Or.inl (by have := h.2.2.2; omega)⟩
  | f + 1, K, i, hf, h => by
    by_cases hn : qsN v K + i = n
    · exact ⟨K, i, h, Or.inl hn⟩
    · by_cases hp : fitP v (qsN v K) i
      · have h4 := h.2.2.2
        have hs := Tx_step h hn hp
        by_cases hi : i ≤ dgN (v (qsN v K))
        · exact Tx_ex f K (i + 1) (by omega) (hs.1 hi)
        · have h2 := h.2.1
          exact Tx_ex f (K + 1) 0 (by rw [sp_s]; omega) (hs.2 hi)
      · exact ⟨K, i, h, Or.inr hp⟩
theorem Tx_0 (v : Nat → Nat) (n : Nat) : ∃ K i, Tx v n K i := Tx_ex n 0 0 (by omega) ⟨fun j hj => absurd hj (Nat.not_lt_zero j), Nat.zero_le _, fun q hq => absurd hq (Nat.not_lt_zero q), Nat.zero_le _⟩
theorem fit_d {v : Nat → Nat} {a : Nat} (h : fitP v a 0) : ¬ dgN (v a) = 0 := by
  rcases h with ⟨_, h⟩ | ⟨h, _⟩ | ⟨h, _⟩
  · exact h
  · exact absurd h (Nat.lt_irrefl 0)
  · exact absurd h (Nat.lt_irrefl 0)
theorem fit_i {v : Nat → Nat} {a i : Nat} (h : fitP v a i) (h0 : 0 < i) (h1 : i ≤ dgN (v a)) : 48 ≤ v (a + i) ∧ v (a + i) ≤ 57 := by
  rcases h with ⟨e, _⟩ | ⟨_, _, h⟩ | ⟨_, e, _⟩
  · omega
  · exact h
  · omega
theorem fit_e {v : Nat → Nat} {a : Nat} (h : fitP v a (dgN (v a) + 1)) : v (a + (dgN (v a) + 1)) = 59 := by
  rcases h with ⟨e, _⟩ | ⟨_, e, _⟩ | ⟨_, _, h⟩
  · omega
  · omega
  · exact h
theorem sp_le {v : Nat → Nat} : ∀ {j k : Nat}, j ≤ k → qsN v j + 2 * (k - j) ≤ qsN v k := by
  intro j k h
  induction k with
  | zero => rw [show j = 0 by omega]; omega
  | succ k ih =>
    by_cases e : j = k + 1
    · rw [e]; omega
    · have := ih (by omega)
      rw [sp_s]; omega
theorem dg_le (c : Nat) : dgN c ≤ 4 := by unfold dgN; (repeat' split) <;> omega
theorem dg_c {c : Nat} (h : ¬ dgN c = 0) : c = 112 ∨ c = 113 ∨ c = 104 ∨ c = 109 ∨ c = 100 := by
  unfold dgN at h
  (repeat' split at h) <;> omega
theorem dg_0 {c : Nat} (h : dgN c = 0) : ¬ c = 112 ∧ ¬ c = 113 ∧ ¬ c = 104 ∧ ¬ c = 109 ∧ ¬ c = 100 := by
  unfold dgN at h
  (repeat' split at h) <;> omega
/-! what a statement does -/
noncomputable def dv (v : Nat → Nat) (k : Nat) : Nat := v k - 48
noncomputable def tw2 (v : Nat → Nat) (k : Nat) : Nat := 10 * dv v k + dv v (k + 1)
noncomputable def tA (v : Nat → Nat) (a : Nat) : Nat := if v a = 100 then tw2 v (a + 1) else dv v (a + 1)
noncomputable def tB (v : Nat → Nat) (a : Nat) : Nat := if v a = 104 then tw2 v (a + 2) else dv v (a + 2)
noncomputable def tE (v : Nat → Nat) (a : Nat) : Nat := tw2 v (a + 3)
noncomputable def isO {α : Type} (P : Prop) (x : α) : Option α := @ite _ P (Classical.propDecidable _) (some x) none
theorem isO_t {α : Type} {P : Prop} {x : α} (h : P) : isO P x = some x := if_pos h
theorem isO_f {α : Type} {P : Prop} {x : α} (h : ¬ P) : isO P x = none := if_neg h
noncomputable def exO (c a b e : Nat) (y : Mt) : Option Mt := if c = 112 then isO (a < 6 ∧ e ≤ 31 ∧ xN y < 6) (adM y a b e) else if c = 104 then isO (a < xN y ∧ b ≤ 31) (uH y a b) else if c = 113 then isO (a < xN y ∧ b < xN y ∧ ¬ a = b) (uQ y a b e) else if c = 109 then isO (a < xN y ∧ b < xN y ∧ ¬ a = b) (jpM y a b) else isO ((1 ≤ a ∧ a ≤ 60) ∧ ¬ iN 999 < xD y + iN a) (dayM y a)
noncomputable def exM (v : Nat → Nat) (a : Nat) (y : Mt) : Option Mt := exO (v a) (tA v a) (tB v a) (tE v a) y
theorem isO_s {α : Type} {P : Prop} {x y : α} (h : isO P x = some y) : P ∧ x = y := by
  by_cases hp : P
  · rw [isO_t hp] at h; exact ⟨hp, Option.some.inj h⟩
  · rw [isO_f hp] at h; cases h
theorem exO_wf {c a b e : Nat} {y z : Mt} (hW : Wf y) (hb : c = 112 → b < 10) (he : c = 113 → e ≤ 99) (h : exO c a b e y = some z) : Wf z := by
  unfold exO at h
  by_cases c1 : c = 112
  · rw [if_pos c1] at h
    obtain ⟨⟨p1, p2, p3⟩, rfl⟩ := isO_s h
    exact wf_ad hW p3 p1 (hb c1) (by omega)
  · rw [if_neg c1] at h
    by_cases c2 : c = 104
    · rw [if_pos c2] at h
      obtain ⟨⟨p1, p2⟩, rfl⟩ := isO_s h
      exact wf_H hW (by omega)
    · rw [if_neg c2] at h
      by_cases c3 : c = 113
      · rw [if_pos c3] at h
        obtain ⟨⟨p1, p2, p3⟩, rfl⟩ := isO_s h
        exact wf_uQ hW p1 p2 (he c3)
      · rw [if_neg c3] at h
        by_cases c4 : c = 109
        · rw [if_pos c4] at h
          obtain ⟨⟨p1, p2, p3⟩, rfl⟩ := isO_s h
          exact wf_jp hW p1 p2 p3
        · rw [if_neg c4] at h
          obtain ⟨_, rfl⟩ := isO_s h
          exact wf_day hW a
/-- a statement in form at a -/
noncomputable def StP (v : Nat → Nat) (n a : Nat) : Prop := (∀ q, q ≤ dgN (v a) + 1 → fitP v a q) ∧ a + dgN (v a) + 2 ≤ n
theorem St_k {v : Nat → Nat} {n K i k : Nat} (h : TxP v n K i) (hk : k < K) : StP v n (qsN v k) := by
  refine ⟨h.1 k hk, ?_⟩
  have h1 := sp_le (v := v) (show k + 1 ≤ K by omega)
  have h4 := h.2.2.2
  rw [sp_s] at h1
  omega
theorem St_dig {v : Nat → Nat} {n a : Nat} (h : StP v n a) {q : Nat} (h0 : 0 < q) (h1 : q ≤ dgN (v a)) : 48 ≤ v (a + q) ∧ v (a + q) ≤ 57 := fit_i (h.1 q (by omega)) h0 h1
theorem St_d {v : Nat → Nat} {n a : Nat} (h : StP v n a) : ¬ dgN (v a) = 0 := fit_d (h.1 0 (by omega))
theorem ex_wf {v : Nat → Nat} {n a : Nat} {y z : Mt} (hS : StP v n a) (hW : Wf y) (h : exM v a y = some z) : Wf z := by
  refine exO_wf hW (fun c => ?_) (fun c => ?_) h
  · unfold tB
    rw [if_neg (by omega)]
    have := (St_dig hS (q := 2) (by omega) (by rw [c]; decide)).2
    unfold dv
    omega
  · unfold tE tw2 dv
    have h3 := (St_dig hS (q := 3) (by omega) (by rw [c]; decide)).2
    have h4 := (St_dig hS (q := 4) (by omega) (by rw [c]; decide)).2
    rw [show a + 3 + 1 = a + 4 by omega]
    omega
/-! the class' contracts -/
theorem swk_all {x : Int32} {d : Nat} : ∀ {cs : List (Int × Nat)}, (∀ q, q ∈ cs → x = Int32.ofInt q.1 → q.2 = d) → swk x d cs = d
  | [], _ => rfl
  | q :: cs, h => by
    show (if x = Int32.ofInt q.1 then q.2 else swk x d cs) = d
    by_cases e : x = Int32.ofInt q.1
    · rw [if_pos e]; exact h q List.mem_cons_self e
    · rw [if_neg e]; exact swk_all fun r hr => h r (List.mem_cons_of_mem _ hr)
theorem ci_ne {c k : Nat} (hc : c < 256) (hk : k < 256) (h : ¬ c = k) : ¬ iN c = Int32.ofInt (k : Int) := fun e => by
  rw [show Int32.ofInt (k : Int) = iN k by rw [iN_def]; exact Int32.ofInt_eq_ofNat] at e
  exact h (iN_inj (by omega) (by omega) e)
theorem swk_ne {x : Int32} {d : Nat} {a : Int} {b : Nat} {qs : List (Int × Nat)} (h : ¬ x = Int32.ofInt a) : swk x d ((a, b) :: qs) = swk x d qs := if_neg h
theorem swk_eq {x : Int32} {d : Nat} {a : Int} {b : Nat} {qs : List (Int × Nat)} (h : x = Int32.ofInt a) : swk x d ((a, b) :: qs) = b := if_pos h
theorem ci_neA {x : Int32} {k : Nat} (h : ¬ x = iN k) : ¬ x = Int32.ofInt (k : Int) := fun e => h (e.trans (show Int32.ofInt (k : Int) = iN k by rw [iN_def]; exact Int32.ofInt_eq_ofNat))
theorem swd_no {c : Nat} (hc : c < 256) (e1 : ¬ c = 112) (e2 : ¬ c = 113) (e3 : ¬ c = 104) (e4 : ¬ c = 109) (e5 : ¬ c = 100) : swk (iN c) 78 ([(100, 76), (101, 78), (102, 78), (103, 78), (104, 74), (105, 78), (106, 78), (107, 78), (108, 78), (109, 76), (110, 78), (111, 78), (112, 72), (113, 72)] : List (Int × Nat)) = 78 := by
  refine swk_all fun q hq e => ?_
  simp only [List.mem_cons, List.not_mem_nil, or_false] at hq
  rcases hq with rfl | rfl | rfl | rfl | rfl | rfl | rfl | rfl | rfl | rfl | rfl | rfl | rfl | rfl
  · exact absurd e (ci_ne (k := 100) hc (by omega) (by omega))
  · rfl
  · rfl
  · rfl
  · exact absurd e (ci_ne (k := 104) hc (by omega) (by omega))
  · rfl
  · rfl
  · rfl
  · rfl
  · exact absurd e (ci_ne (k := 109) hc (by omega) (by omega))
  · rfl
  · rfl
  · exact absurd e (ci_ne (k := 112) hc (by omega) (by omega))
  · exact absurd e (ci_ne (k := 113) hc (by omega) (by omega))
theorem swd_112 : swk (iN 112) 78 ([(100, 76), (101, 78), (102, 78), (103, 78), (104, 74), (105, 78), (106, 78), (107, 78), (108, 78), (109, 76), (110, 78), (111, 78), (112, 72), (113, 72)] : List (Int × Nat)) = 72 := Eq.trans (swk_ne (ci_ne (c := 112) (k := 100) (by decide) (by decide) (by decide))) (Eq.trans (swk_ne (ci_ne (c := 112) (k := 101) (by decide) (by decide) (by decide))) (Eq.trans (swk_ne (ci_ne (c := 112) (k := 102) (by decide) (by decide) (by decide))) (Eq.trans (swk_ne (ci_ne (c := 112) (k := 103) (by decide) (by decide) (by decide))) (Eq.trans (swk_ne (ci_ne (c := 112) (k := 104) (by decide) (by decide) (by decide))) (Eq.trans (swk_ne (ci_ne (c := 112) (k := 105) (by decide) (by decide) (by decide))) (Eq.trans (swk_ne (ci_ne (c := 112) (k := 106) (by decide) (by decide) (by decide))) (Eq.trans (swk_ne (ci_ne (c := 112) (k := 107) (by decide) (by decide) (by decide))) (Eq.trans (swk_ne (ci_ne (c := 112) (k := 108) (by decide) (by decide) (by decide))) (Eq.trans (swk_ne (ci_ne (c := 112) (k := 109) (by decide) (by decide) (by decide))) (Eq.trans (swk_ne (ci_ne (c := 112) (k := 110) (by decide) (by decide) (by decide))) (Eq.trans (swk_ne (ci_ne (c := 112) (k := 111) (by decide) (by decide) (by decide))) (swk_eq ci_112.symm))))))))))))
theorem q_d112 {h : Hp} (hh : True) : Ret 0 103 [.int (iN 112)] h (some (.int (iN 4))) (h) := by
  refine Ret_L [some (.int (iN 112))] rfl rfl fun Q hQ => ?_
  (refine wp_go 600 ks_103_0.1 ?_; simp (disch := first | with_reducible assumption | omega | (simp only [ob_si, ar_si, ob_sl, ar_sl]; with_reducible assumption)) only [ci_100, ci_101, ci_102, ci_103, ci_104, ci_105, ci_106, ci_107, ci_108, ci_109, ci_110, ci_111, ci_112, ci_113, ci_2, ci_3, ci_4, cm_2, ldI_i, r_0, r_6, r_90, r_99n, wpn_S, wpn_zero, stp_h, lk_0, lk_s, st1_0, st1_1, st1_2, st2_0, st2_1, st2_2, kj_i, kj_a, kj_l, kj_n, cat_n, cat_i, cat_a, cat_u, cat_l, vc_i, vc_a, rv_s, tl_n, tl_s, Cal'_s, List.length_cons, List.length_nil, i0, i1, iNd, iN_lt, iN_le, iN_eq, iN_add, iN_mul, iN_mod, iN_sub, iN_div, iN_clamp, iN_inb, zle_N, zlt_N, zN_le, zN_lt, zN_eq, Nz_eq, mI_t, mI_f, bI_0, bI_1, bI_t, bI_f, dltT, dltF, dleT, dleF, deqT, deqF, Nat.not_lt_zero, not_true_eq_false, not_false_eq_true, true_and, and_true, false_and, and_false, or_true, true_or, false_or, or_false, and_self, if_true, if_false, Classical.not_not, Nat.add_assoc, Nat.zero_add, Nat.add_zero, bI_or, bI_True, bI_False, Bool.false_eq_true, reduceCtorEq, eq_self, gi_si, gl_si, gr_si, hn_si, hL_si, hX_si, gi_sl, gl_sl, gr_sl, hn_sl, ob_si, ar_si, ob_sl, ar_sl, ks_103_0, swd_112])
  exact hQ
theorem q_d112_q {h : Hp} (hh : True) {e : Nat} (hd : 0 ≤ e) (K : Option Value → Hp → Prop) : Cal e 103 [.int (iN 112)] h K = K (some (.int (iN 4))) (h) := Cal_eq (q_d112 (hh := hh)) hd K
theorem swd_113 : swk (iN 113) 78 ([(100, 76), (101, 78), (102, 78), (103, 78), (104, 74), (105, 78), (106, 78), (107, 78), (108, 78), (109, 76), (110, 78), (111, 78), (112, 72), (113, 72)] : List (Int × Nat)) = 72 := Eq.trans (swk_ne (ci_ne (c := 113) (k := 100) (by decide) (by decide) (by decide))) (Eq.trans (swk_ne (ci_ne (c := 113) (k := 101) (by decide) (by decide) (by decide))) (Eq.trans (swk_ne (ci_ne (c := 113) (k := 102) (by decide) (by decide) (by decide))) (Eq.trans (swk_ne (ci_ne (c := 113) (k := 103) (by decide) (by decide) (by decide))) (Eq.trans (swk_ne (ci_ne (c := 113) (k := 104) (by decide) (by decide) (by decide))) (Eq.trans (swk_ne (ci_ne (c := 113) (k := 105) (by decide) (by decide) (by decide))) (Eq.trans (swk_ne (ci_ne (c := 113) (k := 106) (by decide) (by decide) (by decide))) (Eq.trans (swk_ne (ci_ne (c := 113) (k := 107) (by decide) (by decide) (by decide))) (Eq.trans (swk_ne (ci_ne (c := 113) (k := 108) (by decide) (by decide) (by decide))) (Eq.trans (swk_ne (ci_ne (c := 113) (k := 109) (by decide) (by decide) (by decide))) (Eq.trans (swk_ne (ci_ne (c := 113) (k := 110) (by decide) (by decide) (by decide))) (Eq.trans (swk_ne (ci_ne (c := 113) (k := 111) (by decide) (by decide) (by decide))) (Eq.trans (swk_ne (ci_ne (c := 113) (k := 112) (by decide) (by decide) (by decide))) (swk_eq ci_113.symm)))))))))))))
theorem q_d113 {h : Hp} (hh : True) : Ret 0 103 [.int (iN 113)] h (some (.int (iN 4))) (h) := by
  refine Ret_L [some (.int (iN 113))] rfl rfl fun Q hQ => ?_
  (refine wp_go 600 ks_103_0.1 ?_; simp (disch := first | with_reducible assumption | omega | (simp only [ob_si, ar_si, ob_sl, ar_sl]; with_reducible assumption)) only [ci_100, ci_101, ci_102, ci_103, ci_104, ci_105, ci_106, ci_107, ci_108, ci_109, ci_110, ci_111, ci_112, ci_113, ci_2, ci_3, ci_4, cm_2, ldI_i, r_0, r_6, r_90, r_99n, wpn_S, wpn_zero, stp_h, lk_0, lk_s, st1_0, st1_1, st1_2, st2_0, st2_1, st2_2, kj_i, kj_a, kj_l, kj_n, cat_n, cat_i, cat_a, cat_u, cat_l, vc_i, vc_a, rv_s, tl_n, tl_s, Cal'_s, List.length_cons, List.length_nil, i0, i1, iNd, iN_lt, iN_le, iN_eq, iN_add, iN_mul, iN_mod, iN_sub, iN_div, iN_clamp, iN_inb, zle_N, zlt_N, zN_le, zN_lt, zN_eq, Nz_eq, mI_t, mI_f, bI_0, bI_1, bI_t, bI_f, dltT, dltF, dleT, dleF, deqT, deqF, Nat.not_lt_zero, not_true_eq_false, not_false_eq_true, true_and, and_true, false_and, and_false, or_true, true_or, false_or, or_false, and_self, if_true, if_false, Classical.not_not, Nat.add_assoc, Nat.zero_add, Nat.add_zero, bI_or, bI_True, bI_False, Bool.false_eq_true, reduceCtorEq, eq_self, gi_si, gl_si, gr_si, hn_si, hL_si, hX_si, gi_sl, gl_sl, gr_sl, hn_sl, ob_si, ar_si, ob_sl, ar_sl, ks_103_0, swd_113])
  exact hQ
theorem q_d113_q {h : Hp} (hh : True) {e : Nat} (hd : 0 ≤ e) (K : Option Value → Hp → Prop) : Cal e 103 [.int (iN 113)] h K = K (some (.int (iN 4))) (h) := Cal_eq (q_d113 (hh := hh)) hd K
theorem swd_104 : swk (iN 104) 78 ([(100, 76), (101, 78), (102, 78), (103, 78), (104, 74), (105, 78), (106, 78), (107, 78), (108, 78), (109, 76), (110, 78), (111, 78), (112, 72), (113, 72)] : List (Int × Nat)) = 74 := Eq.trans (swk_ne (ci_ne (c := 104) (k := 100) (by decide) (by decide) (by decide))) (Eq.trans (swk_ne (ci_ne (c := 104) (k := 101) (by decide) (by decide) (by decide))) (Eq.trans (swk_ne (ci_ne (c := 104) (k := 102) (by decide) (by decide) (by decide))) (Eq.trans (swk_ne (ci_ne (c := 104) (k := 103) (by decide) (by decide) (by decide))) (swk_eq ci_104.symm))))
theorem q_d104 {h : Hp} (hh : True) : Ret 0 103 [.int (iN 104)] h (some (.int (iN 3))) (h) := by
  refine Ret_L [some (.int (iN 104))] rfl rfl fun Q hQ => ?_
  (refine wp_go 600 ks_103_0.1 ?_; simp (disch := first | with_reducible assumption | omega | (simp only [ob_si, ar_si, ob_sl, ar_sl]; with_reducible assumption)) only [ci_100, ci_101, ci_102, ci_103, ci_104, ci_105, ci_106, ci_107, ci_108, ci_109, ci_110, ci_111, ci_112, ci_113, ci_2, ci_3, ci_4, cm_2, ldI_i, r_0, r_6, r_90, r_99n, wpn_S, wpn_zero, stp_h, lk_0, lk_s, st1_0, st1_1, st1_2, st2_0, st2_1, st2_2, kj_i, kj_a, kj_l, kj_n, cat_n, cat_i, cat_a, cat_u, cat_l, vc_i, vc_a, rv_s, tl_n, tl_s, Cal'_s, List.length_cons, List.length_nil, i0, i1, iNd, iN_lt, iN_le, iN_eq, iN_add, iN_mul, iN_mod, iN_sub, iN_div, iN_clamp, iN_inb, zle_N, zlt_N, zN_le, zN_lt, zN_eq, Nz_eq, mI_t, mI_f, bI_0, bI_1, bI_t, bI_f, dltT, dltF, dleT, dleF, deqT, deqF, Nat.not_lt_zero, not_true_eq_false, not_false_eq_true, true_and, and_true, false_and, and_false, or_true, true_or, false_or, or_false, and_self, if_true, if_false, Classical.not_not, Nat.add_assoc, Nat.zero_add, Nat.add_zero, bI_or, bI_True, bI_False, Bool.false_eq_true, reduceCtorEq, eq_self, gi_si, gl_si, gr_si, hn_si, hL_si, hX_si, gi_sl, gl_sl, gr_sl, hn_sl, ob_si, ar_si, ob_sl, ar_sl, ks_103_0, swd_104])
  exact hQ
theorem q_d104_q {h : Hp} (hh : True) {e : Nat} (hd : 0 ≤ e) (K : Option Value → Hp → Prop) : Cal e 103 [.int (iN 104)] h K = K (some (.int (iN 3))) (h) := Cal_eq (q_d104 (hh := hh)) hd K
theorem swd_109 : swk (iN 109) 78 ([(100, 76), (101, 78), (102, 78), (103, 78), (104, 74), (105, 78), (106, 78), (107, 78), (108, 78), (109, 76), (110, 78), (111, 78), (112, 72), (113, 72)] : List (Int × Nat)) = 76 := Eq.trans (swk_ne (ci_ne (c := 109) (k := 100) (by decide) (by decide) (by decide))) (Eq.trans (swk_ne (ci_ne (c := 109) (k := 101) (by decide) (by decide) (by decide))) (Eq.trans (swk_ne (ci_ne (c := 109) (k := 102) (by decide) (by decide) (by decide))) (Eq.trans (swk_ne (ci_ne (c := 109) (k := 103) (by decide) (by decide) (by decide))) (Eq.trans (swk_ne (ci_ne (c := 109) (k := 104) (by decide) (by decide) (by decide))) (Eq.trans (swk_ne (ci_ne (c := 109) (k := 105) (by decide) (by decide) (by decide))) (Eq.trans (swk_ne (ci_ne (c := 109) (k := 106) (by decide) (by decide) (by decide))) (Eq.trans (swk_ne (ci_ne (c := 109) (k := 107) (by decide) (by decide) (by decide))) (Eq.trans (swk_ne (ci_ne (c := 109) (k := 108) (by decide) (by decide) (by decide))) (swk_eq ci_109.symm)))))))))
theorem q_d109 {h : Hp} (hh : True) : Ret 0 103 [.int (iN 109)] h (some (.int (iN 2))) (h) := by
  refine Ret_L [some (.int (iN 109))] rfl rfl fun Q hQ => ?_
  (refine wp_go 600 ks_103_0.1 ?_; simp (disch := first | with_reducible assumption | omega | (simp only [ob_si, ar_si, ob_sl, ar_sl]; with_reducible assumption)) only [ci_100, ci_101, ci_102, ci_103, ci_104, ci_105, ci_106, ci_107, ci_108, ci_109, ci_110, ci_111, ci_112, ci_113, ci_2, ci_3, ci_4, cm_2, ldI_i, r_0, r_6, r_90, r_99n, wpn_S, wpn_zero, stp_h, lk_0, lk_s, st1_0, st1_1, st1_2, st2_0, st2_1, st2_2, kj_i, kj_a, kj_l, kj_n, cat_n, cat_i, cat_a, cat_u, cat_l, vc_i, vc_a, rv_s, tl_n, tl_s, Cal'_s, List.length_cons, List.length_nil, i0, i1, iNd, iN_lt, iN_le, iN_eq, iN_add, iN_mul, iN_mod, iN_sub, iN_div, iN_clamp, iN_inb, zle_N, zlt_N, zN_le, zN_lt, zN_eq, Nz_eq, mI_t, mI_f, bI_0, bI_1, bI_t, bI_f, dltT, dltF, dleT, dleF, deqT, deqF, Nat.not_lt_zero, not_true_eq_false, not_false_eq_true, true_and, and_true, false_and, and_false, or_true, true_or, false_or, or_false, and_self, if_true, if_false, Classical.not_not, Nat.add_assoc, Nat.zero_add, Nat.add_zero, bI_or, bI_True, bI_False, Bool.false_eq_true, reduceCtorEq, eq_self, gi_si, gl_si, gr_si, hn_si, hL_si, hX_si, gi_sl, gl_sl, gr_sl, hn_sl, ob_si, ar_si, ob_sl, ar_sl, ks_103_0, swd_109])
  exact hQ
theorem q_d109_q {h : Hp} (hh : True) {e : Nat} (hd : 0 ≤ e) (K : Option Value → Hp → Prop) : Cal e 103 [.int (iN 109)] h K = K (some (.int (iN 2))) (h) := Cal_eq (q_d109 (hh := hh)) hd K
theorem swd_100 : swk (iN 100) 78 ([(100, 76), (101, 78), (102, 78), (103, 78), (104, 74), (105, 78), (106, 78), (107, 78), (108, 78), (109, 76), (110, 78), (111, 78), (112, 72), (113, 72)] : List (Int × Nat)) = 76 := swk_eq ci_100.symm
theorem q_d100 {h : Hp} (hh : True) : Ret 0 103 [.int (iN 100)] h (some (.int (iN 2))) (h) := by
  refine Ret_L [some (.int (iN 100))] rfl rfl fun Q hQ => ?_
  (refine wp_go 600 ks_103_0.1 ?_; simp (disch := first | with_reducible assumption | omega | (simp only [ob_si, ar_si, ob_sl, ar_sl]; with_reducible assumption)) only [ci_100, ci_101, ci_102, ci_103, ci_104, ci_105, ci_106, ci_107, ci_108, ci_109, ci_110, ci_111, ci_112, ci_113, ci_2, ci_3, ci_4, cm_2, ldI_i, r_0, r_6, r_90, r_99n, wpn_S, wpn_zero, stp_h, lk_0, lk_s, st1_0, st1_1, st1_2, st2_0, st2_1, st2_2, kj_i, kj_a, kj_l, kj_n, cat_n, cat_i, cat_a, cat_u, cat_l, vc_i, vc_a, rv_s, tl_n, tl_s, Cal'_s, List.length_cons, List.length_nil, i0, i1, iNd, iN_lt, iN_le, iN_eq, iN_add, iN_mul, iN_mod, iN_sub, iN_div, iN_clamp, iN_inb, zle_N, zlt_N, zN_le, zN_lt, zN_eq, Nz_eq, mI_t, mI_f, bI_0, bI_1, bI_t, bI_f, dltT, dltF, dleT, dleF, deqT, deqF, Nat.not_lt_zero, not_true_eq_false, not_false_eq_true, true_and, and_true, false_and, and_false, or_true, true_or, false_or, or_false, and_self, if_true, if_false, Classical.not_not, Nat.add_assoc, Nat.zero_add, Nat.add_zero, bI_or, bI_True, bI_False, Bool.false_eq_true, reduceCtorEq, eq_self, gi_si, gl_si, gr_si, hn_si, hL_si, hX_si, gi_sl, gl_sl, gr_sl, hn_sl, ob_si, ar_si, ob_sl, ar_sl, ks_103_0, swd_100])
  exact hQ
theorem q_d100_q {h : Hp} (hh : True) {e : Nat} (hd : 0 ≤ e) (K : Option Value → Hp → Prop) : Cal e 103 [.int (iN 100)] h K = K (some (.int (iN 2))) (h) := Cal_eq (q_d100 (hh := hh)) hd K
theorem q_dig {h : Hp} {c : Nat} (hz : ¬ dgN c = 0) : Ret 0 103 [.int (iN c)] h (some (.int (iN (dgN c)))) h := by
  rcases dg_c hz with e | e | e | e | e
  · rw [e]; exact q_d112 trivial
  · rw [e]; exact q_d113 trivial
  · rw [e]; exact q_d104 trivial
  · rw [e]; exact q_d109 trivial
  · rw [e]; exact q_d100 trivial
theorem q_digF {h : Hp} {c : Nat} (hc : c < 256) (e1 : ¬ c = 112) (e2 : ¬ c = 113) (e3 : ¬ c = 104) (e4 : ¬ c = 109) (e5 : ¬ c = 100) : Ret 0 103 [.int (iN c)] h (some (.int (zI (-2)))) (h) := by
  refine Ret_L [some (.int (iN c))] rfl rfl fun Q hQ => ?_
  (refine wp_go 600 ks_103_0.1 ?_; simp (disch := first | with_reducible assumption | omega | (simp only [ob_si, ar_si, ob_sl, ar_sl]; with_reducible assumption)) only [ci_100, ci_101, ci_102, ci_103, ci_104, ci_105, ci_106, ci_107, ci_108, ci_109, ci_110, ci_111, ci_112, ci_113, ci_2, ci_3, ci_4, cm_2, ldI_i, r_0, r_6, r_90, r_99n, wpn_S, wpn_zero, stp_h, lk_0, lk_s, st1_0, st1_1, st1_2, st2_0, st2_1, st2_2, kj_i, kj_a, kj_l, kj_n, cat_n, cat_i, cat_a, cat_u, cat_l, vc_i, vc_a, rv_s, tl_n, tl_s, Cal'_s, List.length_cons, List.length_nil, i0, i1, iNd, iN_lt, iN_le, iN_eq, iN_add, iN_mul, iN_mod, iN_sub, iN_div, iN_clamp, iN_inb, zle_N, zlt_N, zN_le, zN_lt, zN_eq, Nz_eq, mI_t, mI_f, bI_0, bI_1, bI_t, bI_f, dltT, dltF, dleT, dleF, deqT, deqF, Nat.not_lt_zero, not_true_eq_false, not_false_eq_true, true_and, and_true, false_and, and_false, or_true, true_or, false_or, or_false, and_self, if_true, if_false, Classical.not_not, Nat.add_assoc, Nat.zero_add, Nat.add_zero, bI_or, bI_True, bI_False, Bool.false_eq_true, reduceCtorEq, eq_self, gi_si, gl_si, gr_si, hn_si, hL_si, hX_si, gi_sl, gl_sl, gr_sl, hn_sl, ob_si, ar_si, ob_sl, ar_sl, ks_103_0, swd_no])
  exact hQ
theorem q_digF_q {h : Hp} {c : Nat} (hc : c < 256) (e1 : ¬ c = 112) (e2 : ¬ c = 113) (e3 : ¬ c = 104) (e4 : ¬ c = 109) (e5 : ¬ c = 100) {e : Nat} (hd : 0 ≤ e) (K : Option Value → Hp → Prop) : Cal e 103 [.int (iN c)] h K = K (some (.int (zI (-2)))) (h) := Cal_eq (q_digF (hc := hc) (e1 := e1) (e2 := e2) (e3 := e3) (e4 := e4) (e5 := e5)) hd K
theorem q_due0 {h : Hp} {c : Nat} (hc : c < 256) (hz : ¬ dgN c = 0) : Ret 1 102 [.int (zI (-1)), .int (iN c)] h (some (.int (iN (dgN c)))) h := by
  have r := q_dig (h := h) hz
  generalize dgN c = d at *
  refine Ret_L [some (.int (zI (-1))), some (.int (iN c))] rfl rfl fun Q hQ => ?_
  (refine wp_go 600 ks_102_0.1 ?_; simp (disch := first | with_reducible assumption | omega | (simp only [ob_si, ar_si, ob_sl, ar_sl]; with_reducible assumption)) only [ci_1, ci_48, ci_57, ci_59, cm_1, cm_2, ldI_i, r_0, r_11, r_30, r_32, r_42, r_43, r_45, r_6, r_81_1, r_90, wpn_S, wpn_zero, stp_h, lk_0, lk_s, st1_0, st1_1, st1_2, st2_0, st2_1, st2_2, kj_i, kj_a, kj_l, kj_n, cat_n, cat_i, cat_a, cat_u, cat_l, vc_i, vc_a, rv_s, tl_n, tl_s, Cal'_s, List.length_cons, List.length_nil, i0, i1, iNd, iN_lt, iN_le, iN_eq, iN_add, iN_mul, iN_mod, iN_sub, iN_div, iN_clamp, iN_inb, zle_N, zlt_N, zN_le, zN_lt, zN_eq, Nz_eq, mI_t, mI_f, bI_0, bI_1, bI_t, bI_f, dltT, dltF, dleT, dleF, deqT, deqF, Nat.not_lt_zero, not_true_eq_false, not_false_eq_true, true_and, and_true, false_and, and_false, or_true, true_or, false_or, or_false, and_self, if_true, if_false, Classical.not_not, Nat.add_assoc, Nat.zero_add, Nat.add_zero, bI_or, bI_True, bI_False, Bool.false_eq_true, reduceCtorEq, eq_self, gi_si, gl_si, gr_si, hn_si, hL_si, hX_si, gi_sl, gl_sl, gr_sl, hn_sl, ob_si, ar_si, ob_sl, ar_sl, ks_102_0, ks_102_1, Cal_eq r])
  exact hQ
theorem q_due0F {h : Hp} {c : Nat} (hc : c < 256) (hz : dgN c = 0) : Ret 1 102 [.int (zI (-1)), .int (iN c)] h (some (.int (zI (-2)))) h := by
  obtain ⟨e1, e2, e3, e4, e5⟩ := dg_0 hz
  have r := q_digF (h := h) hc e1 e2 e3 e4 e5
  clear hz
  refine Ret_L [some (.int (zI (-1))), some (.int (iN c))] rfl rfl fun Q hQ => ?_
  (refine wp_go 600 ks_102_0.1 ?_; simp (disch := first | with_reducible assumption | omega | (simp only [ob_si, ar_si, ob_sl, ar_sl]; with_reducible assumption)) only [ci_1, ci_48, ci_57, ci_59, cm_1, cm_2, ldI_i, r_0, r_11, r_30, r_32, r_42, r_43, r_45, r_6, r_81_1, r_90, wpn_S, wpn_zero, stp_h, lk_0, lk_s, st1_0, st1_1, st1_2, st2_0, st2_1, st2_2, kj_i, kj_a, kj_l, kj_n, cat_n, cat_i, cat_a, cat_u, cat_l, vc_i, vc_a, rv_s, tl_n, tl_s, Cal'_s, List.length_cons, List.length_nil, i0, i1, iNd, iN_lt, iN_le, iN_eq, iN_add, iN_mul, iN_mod, iN_sub, iN_div, iN_clamp, iN_inb, zle_N, zlt_N, zN_le, zN_lt, zN_eq, Nz_eq, mI_t, mI_f, bI_0, bI_1, bI_t, bI_f, dltT, dltF, dleT, dleF, deqT, deqF, Nat.not_lt_zero, not_true_eq_false, not_false_eq_true, true_and, and_true, false_and, and_false, or_true, true_or, false_or, or_false, and_self, if_true, if_false, Classical.not_not, Nat.add_assoc, Nat.zero_add, Nat.add_zero, bI_or, bI_True, bI_False, Bool.false_eq_true, reduceCtorEq, eq_self, gi_si, gl_si, gr_si, hn_si, hL_si, hX_si, gi_sl, gl_sl, gr_sl, hn_sl, ob_si, ar_si, ob_sl, ar_sl, ks_102_0, ks_102_1, Cal_eq r])
  exact hQ
theorem q_due {h : Hp} {c d : Nat} (hc : c < 256) (h0 : 0 < d) (h1 : d ≤ 4) (g1 : 48 ≤ c) (g2 : c ≤ 57) : Ret 1 102 [.int (iN d), .int (iN c)] h (some (.int (iN (d - 1)))) (h) := by
  refine Ret_L [some (.int (iN d)), some (.int (iN c))] rfl rfl fun Q hQ => ?_
  (refine wp_go 600 ks_102_0.1 ?_; simp (disch := first | with_reducible assumption | omega | (simp only [ob_si, ar_si, ob_sl, ar_sl]; with_reducible assumption)) only [ci_1, ci_48, ci_57, ci_59, cm_1, cm_2, ldI_i, r_0, r_11, r_30, r_32, r_42, r_43, r_45, r_6, r_81_1, r_90, wpn_S, wpn_zero, stp_h, lk_0, lk_s, st1_0, st1_1, st1_2, st2_0, st2_1, st2_2, kj_i, kj_a, kj_l, kj_n, cat_n, cat_i, cat_a, cat_u, cat_l, vc_i, vc_a, rv_s, tl_n, tl_s, Cal'_s, List.length_cons, List.length_nil, i0, i1, iNd, iN_lt, iN_le, iN_eq, iN_add, iN_mul, iN_mod, iN_sub, iN_div, iN_clamp, iN_inb, zle_N, zlt_N, zN_le, zN_lt, zN_eq, Nz_eq, mI_t, mI_f, bI_0, bI_1, bI_t, bI_f, dltT, dltF, dleT, dleF, deqT, deqF, Nat.not_lt_zero, not_true_eq_false, not_false_eq_true, true_and, and_true, false_and, and_false, or_true, true_or, false_or, or_false, and_self, if_true, if_false, Classical.not_not, Nat.add_assoc, Nat.zero_add, Nat.add_zero, bI_or, bI_True, bI_False, Bool.false_eq_true, reduceCtorEq, eq_self, gi_si, gl_si, gr_si, hn_si, hL_si, hX_si, gi_sl, gl_sl, gr_sl, hn_sl, ob_si, ar_si, ob_sl, ar_sl, ks_102_0, ks_102_1])
  exact hQ
theorem q_due_q {h : Hp} {c d : Nat} (hc : c < 256) (h0 : 0 < d) (h1 : d ≤ 4) (g1 : 48 ≤ c) (g2 : c ≤ 57) {e : Nat} (hd : 1 ≤ e) (K : Option Value → Hp → Prop) : Cal e 102 [.int (iN d), .int (iN c)] h K = K (some (.int (iN (d - 1)))) (h) := Cal_eq (q_due (hc := hc) (h0 := h0) (h1 := h1) (g1 := g1) (g2 := g2)) hd K
theorem q_dueF {h : Hp} {c d : Nat} (hc : c < 256) (h0 : 0 < d) (h1 : d ≤ 4) (g : ¬ (48 ≤ c ∧ c ≤ 57)) : Ret 1 102 [.int (iN d), .int (iN c)] h (some (.int (zI (-2)))) (h) := by
  refine Ret_L [some (.int (iN d)), some (.int (iN c))] rfl rfl fun Q hQ => ?_
  by_cases g1 : c < 48
  · (refine wp_go 600 ks_102_0.1 ?_; simp (disch := first | with_reducible assumption | omega | (simp only [ob_si, ar_si, ob_sl, ar_sl]; with_reducible assumption)) only [ci_1, ci_48, ci_57, ci_59, cm_1, cm_2, ldI_i, r_0, r_11, r_30, r_32, r_42, r_43, r_45, r_6, r_81_1, r_90, wpn_S, wpn_zero, stp_h, lk_0, lk_s, st1_0, st1_1, st1_2, st2_0, st2_1, st2_2, kj_i, kj_a, kj_l, kj_n, cat_n, cat_i, cat_a, cat_u, cat_l, vc_i, vc_a, rv_s, tl_n, tl_s, Cal'_s, List.length_cons, List.length_nil, i0, i1, iNd, iN_lt, iN_le, iN_eq, iN_add, iN_mul, iN_mod, iN_sub, iN_div, iN_clamp, iN_inb, zle_N, zlt_N, zN_le, zN_lt, zN_eq, Nz_eq, mI_t, mI_f, bI_0, bI_1, bI_t, bI_f, dltT, dltF, dleT, dleF, deqT, deqF, Nat.not_lt_zero, not_true_eq_false, not_false_eq_true, true_and, and_true, false_and, and_false, or_true, true_or, false_or, or_false, and_self, if_true, if_false, Classical.not_not, Nat.add_assoc, Nat.zero_add, Nat.add_zero, bI_or, bI_True, bI_False, Bool.false_eq_true, reduceCtorEq, eq_self, gi_si, gl_si, gr_si, hn_si, hL_si, hX_si, gi_sl, gl_sl, gr_sl, hn_sl, ob_si, ar_si, ob_sl, ar_sl, ks_102_0, ks_102_1])
    exact hQ
  · (refine wp_go 600 ks_102_0.1 ?_; simp (disch := first | with_reducible assumption | omega | (simp only [ob_si, ar_si, ob_sl, ar_sl]; with_reducible assumption)) only [ci_1, ci_48, ci_57, ci_59, cm_1, cm_2, ldI_i, r_0, r_11, r_30, r_32, r_42, r_43, r_45, r_6, r_81_1, r_90, wpn_S, wpn_zero, stp_h, lk_0, lk_s, st1_0, st1_1, st1_2, st2_0, st2_1, st2_2, kj_i, kj_a, kj_l, kj_n, cat_n, cat_i, cat_a, cat_u, cat_l, vc_i, vc_a, rv_s, tl_n, tl_s, Cal'_s, List.length_cons, List.length_nil, i0, i1, iNd, iN_lt, iN_le, iN_eq, iN_add, iN_mul, iN_mod, iN_sub, iN_div, iN_clamp, iN_inb, zle_N, zlt_N, zN_le, zN_lt, zN_eq, Nz_eq, mI_t, mI_f, bI_0, bI_1, bI_t, bI_f, dltT, dltF, dleT, dleF, deqT, deqF, Nat.not_lt_zero, not_true_eq_false, not_false_eq_true, true_and, and_true, false_and, and_false, or_true, true_or, false_or, or_false, and_self, if_true, if_false, Classical.not_not, Nat.add_assoc, Nat.zero_add, Nat.add_zero, bI_or, bI_True, bI_False, Bool.false_eq_true, reduceCtorEq, eq_self, gi_si, gl_si, gr_si, hn_si, hL_si, hX_si, gi_sl, gl_sl, gr_sl, hn_sl, ob_si, ar_si, ob_sl, ar_sl, ks_102_0, ks_102_1])
    exact hQ
theorem q_dueF_q {h : Hp} {c d : Nat} (hc : c < 256) (h0 : 0 < d) (h1 : d ≤ 4) (g : ¬ (48 ≤ c ∧ c ≤ 57)) {e : Nat} (hd : 1 ≤ e) (K : Option Value → Hp → Prop) : Cal e 102 [.int (iN d), .int (iN c)] h K = K (some (.int (zI (-2)))) (h) := Cal_eq (q_dueF (hc := hc) (h0 := h0) (h1 := h1) (g := g)) hd K
theorem q_dueE {h : Hp} {c : Nat} (hc : c < 256) (g : c = 59) : Ret 1 102 [.int (iN 0), .int (iN c)] h (some (.int (zI (-1)))) (h) := by
  refine Ret_L [some (.int (iN 0)), some (.int (iN c))] rfl rfl fun Q hQ => ?_
  subst g
  (refine wp_go 600 ks_102_0.1 ?_; simp (disch := first | with_reducible assumption | omega | (simp only [ob_si, ar_si, ob_sl, ar_sl]; with_reducible assumption)) only [ci_1, ci_48, ci_57, ci_59, cm_1, cm_2, ldI_i, r_0, r_11, r_30, r_32, r_42, r_43, r_45, r_6, r_81_1, r_90, wpn_S, wpn_zero, stp_h, lk_0, lk_s, st1_0, st1_1, st1_2, st2_0, st2_1, st2_2, kj_i, kj_a, kj_l, kj_n, cat_n, cat_i, cat_a, cat_u, cat_l, vc_i, vc_a, rv_s, tl_n, tl_s, Cal'_s, List.length_cons, List.length_nil, i0, i1, iNd, iN_lt, iN_le, iN_eq, iN_add, iN_mul, iN_mod, iN_sub, iN_div, iN_clamp, iN_inb, zle_N, zlt_N, zN_le, zN_lt, zN_eq, Nz_eq, mI_t, mI_f, bI_0, bI_1, bI_t, bI_f, dltT, dltF, dleT, dleF, deqT, deqF, Nat.not_lt_zero, not_true_eq_false, not_false_eq_true, true_and, and_true, false_and, and_false, or_true, true_or, false_or, or_false, and_self, if_true, if_false, Classical.not_not, Nat.add_assoc, Nat.zero_add, Nat.add_zero, bI_or, bI_True, bI_False, Bool.false_eq_true, reduceCtorEq, eq_self, gi_si, gl_si, gr_si, hn_si, hL_si, hX_si, gi_sl, gl_sl, gr_sl, hn_sl, ob_si, ar_si, ob_sl, ar_sl, ks_102_0, ks_102_1])
  exact hQ
theorem q_dueE_q {h : Hp} {c : Nat} (hc : c < 256) (g : c = 59) {e : Nat} (hd : 1 ≤ e) (K : Option Value → Hp → Prop) : Cal e 102 [.int (iN 0), .int (iN c)] h K = K (some (.int (zI (-1)))) (h) := Cal_eq (q_dueE (hc := hc) (g := g)) hd K
theorem q_dueEF {h : Hp} {c : Nat} (hc : c < 256) (g : ¬ c = 59) : Ret 1 102 [.int (iN 0), .int (iN c)] h (some (.int (zI (-2)))) (h) := by
  refine Ret_L [some (.int (iN 0)), some (.int (iN c))] rfl rfl fun Q hQ => ?_
  (refine wp_go 600 ks_102_0.1 ?_; simp (disch := first | with_reducible assumption | omega | (simp only [ob_si, ar_si, ob_sl, ar_sl]; with_reducible assumption)) only [ci_1, ci_48, ci_57, ci_59, cm_1, cm_2, ldI_i, r_0, r_11, r_30, r_32, r_42, r_43, r_45, r_6, r_81_1, r_90, wpn_S, wpn_zero, stp_h, lk_0, lk_s, st1_0, st1_1, st1_2, st2_0, st2_1, st2_2, kj_i, kj_a, kj_l, kj_n, cat_n, cat_i, cat_a, cat_u, cat_l, vc_i, vc_a, rv_s, tl_n, tl_s, Cal'_s, List.length_cons, List.length_nil, i0, i1, iNd, iN_lt, iN_le, iN_eq, iN_add, iN_mul, iN_mod, iN_sub, iN_div, iN_clamp, iN_inb, zle_N, zlt_N, zN_le, zN_lt, zN_eq, Nz_eq, mI_t, mI_f, bI_0, bI_1, bI_t, bI_f, dltT, dltF, dleT, dleF, deqT, deqF, Nat.not_lt_zero, not_true_eq_false, not_false_eq_true, true_and, and_true, false_and, and_false, or_true, true_or, false_or, or_false, and_self, if_true, if_false, Classical.not_not, Nat.add_assoc, Nat.zero_add, Nat.add_zero, bI_or, bI_True, bI_False, Bool.false_eq_true, reduceCtorEq, eq_self, gi_si, gl_si, gr_si, hn_si, hL_si, hX_si, gi_sl, gl_sl, gr_sl, hn_sl, ob_si, ar_si, ob_sl, ar_sl, ks_102_0, ks_102_1])
  exact hQ
theorem q_dueEF_q {h : Hp} {c : Nat} (hc : c < 256) (g : ¬ c = 59) {e : Nat} (hd : 1 ≤ e) (K : Option Value → Hp → Prop) : Cal e 102 [.int (iN 0), .int (iN c)] h K = K (some (.int (zI (-2)))) (h) := Cal_eq (q_dueEF (hc := hc) (g := g)) hd K
noncomputable def duV (v : Nat → Nat) (a i : Nat) : Int32 := if i = 0 then zI (-1) else iN (dgN (v a) + 1 - i)
/-- one letter that fits, or not -/
theorem q_fit {h : Hp} {v : Nat → Nat} {a i : Nat} (hv : ∀ k, v k ≤ 255) (hi : i ≤ dgN (v a) + 1) (hf : fitP v a i) : Ret 1 102 [.int (duV v a i), .int (iN (v (a + i)))] h (some (.int (if i ≤ dgN (v a) then duV v a (i + 1) else zI (-1)))) h := by
  have hc := hv (a + i)
  have h4 := dg_le (v a)
  by_cases h0 : i = 0
  · subst h0
    have hd := fit_d hf
    rw [if_pos (Nat.zero_le _)]
    show Ret _ _ [.int (zI (-1)), .int (iN (v a))] h (some (.int (iN (dgN (v a) + 1 - 1)))) h
    rw [show dgN (v a) + 1 - 1 = dgN (v a) by omega]
    exact q_due0 (by have := hv a; omega) hd
  · by_cases h1 : i ≤ dgN (v a)
    · obtain ⟨g1, g2⟩ := fit_i hf (by omega) h1
      rw [if_pos h1]
      unfold duV
      rw [if_neg h0, if_neg (by omega), show dgN (v a) + 1 - (i + 1) = dgN (v a) + 1 - i - 1 by omega]
      exact q_due (by omega) (by omega) (by omega) g1 g2
    · have e : i = dgN (v a) + 1 := by omega
      subst e
      have g := fit_e hf
      rw [if_neg h1]
      unfold duV
      rw [if_neg h0, Nat.sub_self]
      exact q_dueE (by omega) g
theorem q_fitF {h : Hp} {v : Nat → Nat} {a i : Nat} (hv : ∀ k, v k ≤ 255) (hi : i ≤ dgN (v a) + 1) (hf : ¬ fitP v a i) : Ret 1 102 [.int (duV v a i), .int (iN (v (a + i)))] h (some (.int (zI (-2)))) h := by
  have hc := hv (a + i)
  have h4 := dg_le (v a)
  by_cases h0 : i = 0
  · subst h0
    have hd : dgN (v a) = 0 := Classical.byContradiction fun e => hf (Or.inl ⟨rfl, e⟩)
    exact q_due0F (by have := hv a; omega) hd
  · by_cases h1 : i ≤ dgN (v a)
    · have g : ¬ (48 ≤ v (a + i) ∧ v (a + i) ≤ 57) := fun e => hf (Or.inr (Or.inl ⟨by omega, h1, e⟩))
      unfold duV
      rw [if_neg h0]
      exact q_dueF (by omega) (by omega) (by omega) g
    · have e : i = dgN (v a) + 1 := by omega
      subst e
      have g : ¬ v (a + (dgN (v a) + 1)) = 59 := fun e => hf (Or.inr (Or.inr ⟨by omega, rfl, e⟩))
      unfold duV
      rw [if_neg h0, Nat.sub_self]
      exact q_dueEF (by omega) g
/-- in form or amiss: where -/
noncomputable def okP (v : Nat → Nat) (n K i : Nat) : Prop := 0 < n ∧ i = 0 ∧ qsN v K = n
noncomputable def amV (v : Nat → Nat) (n K i : Nat) : Int32 := @ite _ (okP v n K i) (Classical.propDecidable _) (zI (-1)) (iN (qsN v K + i))
theorem q_amiss {h : Hp} {n K t0 : Nat} {v : Nat → Nat} (hB : Bs h) (hL : Lo h n v) (hn : n ≤ 96) (hv : ∀ k, v k ≤ 255) (hT : Tx v n K t0) : Ret 2 101 [.ref 32] h (some (.int (amV v n K t0))) h := by
  obtain ⟨hT, hE⟩ := hT
  obtain ⟨oQ, rQ0, rQ1, aQ, sQ⟩ := Q_facts hB
  have l1 := hL.1
  refine Ret_L [some (.ref 32), none, none] rfl rfl fun Q hQ => ?_
  (refine wp_go 600 ks_101_0.1 ?_; simp (disch := first | with_reducible assumption | omega | (simp only [ob_si, ar_si, ob_sl, ar_sl]; with_reducible assumption)) only [ci_0, ci_1, cm_1, cm_2, inc_i, ldA_a, ldI_i, r_0, r_2, r_3, r_30, r_36, r_42, r_44, r_6, r_60, r_62, r_81_2, r_9, r_90, wpn_S, wpn_zero, stp_h, lk_0, lk_s, st1_0, st1_1, st1_2, st2_0, st2_1, st2_2, kj_i, kj_a, kj_l, kj_n, cat_n, cat_i, cat_a, cat_u, cat_l, vc_i, vc_a, rv_s, tl_n, tl_s, Cal'_s, List.length_cons, List.length_nil, i0, i1, iNd, iN_lt, iN_le, iN_eq, iN_add, iN_mul, iN_mod, iN_sub, iN_div, iN_clamp, iN_inb, zle_N, zlt_N, zN_le, zN_lt, zN_eq, Nz_eq, mI_t, mI_f, bI_0, bI_1, bI_t, bI_f, dltT, dltF, dleT, dleF, deqT, deqF, Nat.not_lt_zero, not_true_eq_false, not_false_eq_true, true_and, and_true, false_and, and_false, or_true, true_or, false_or, or_false, and_self, if_true, if_false, Classical.not_not, Nat.add_assoc, Nat.zero_add, Nat.add_zero, bI_or, bI_True, bI_False, Bool.false_eq_true, reduceCtorEq, eq_self, gi_si, gl_si, gr_si, hn_si, hL_si, hX_si, gi_sl, gl_sl, gr_sl, hn_sl, ob_si, ar_si, ob_sl, ar_sl, ks_101_0, ks_101_1])
  refine wp_loop (fun p L h' => h' = h ∧ ∃ k i, p = qsN v k + i ∧ i ≤ dgN (v (qsN v k)) + 1 ∧ (k < K ∨ (k = K ∧ i ≤ t0)) ∧ L = [some (.ref 32), some (.int (duV v (qsN v k) i)), some (.int (iN p))]) n ?_ ?_ n 0 _ h (by omega) ⟨rfl, 0, 0, rfl, Nat.zero_le _, ?_, rfl⟩
  · rintro p L h' hp ⟨rfl, k, i, e, hi, hk, rfl⟩ hn2
    have l2 := hL.2 p (by omega)
    have hvp := hv p
    by_cases hf : fitP v (qsN v k) i
    · have r := q_fit (h := h') hv hi hf
      rw [← e] at r
      have hk2 : k < K ∨ (k = K ∧ i < t0) := by
        rcases hk with hk | ⟨hk, hk2⟩
        · exact Or.inl hk
        · refine Or.inr ⟨hk, ?_⟩
          by_cases e2 : i = t0
          · subst e2 hk
            rcases hE with hE | hE
            · omega
            · exact absurd hf hE
          · omega
      by_cases h1 : i ≤ dgN (v (qsN v k))
      · rw [if_pos h1] at r
        have hn2 := hn2 [some (.ref 32), some (.int (duV v (qsN v k) (i + 1))), some (.int (iN (p + 1)))] h' ⟨rfl, k, i + 1, by omega, by omega, by omega, rfl⟩
        have hne : (duV v (qsN v k) (i + 1) = zI (-2)) = False := by
          unfold duV
          rw [if_neg (by omega)]
          have := dg_le (v (qsN v k))
          exact zN_eq (by omega) (by omega) (by omega)
        (refine wp_go 600 ks_101_0.2.2.2.2.1 ?_; simp (disch := first | with_reducible assumption | omega | (simp only [ob_si, ar_si, ob_sl, ar_sl]; with_reducible assumption)) only [ci_0, ci_1, cm_1, cm_2, inc_i, ldA_a, ldI_i, r_0, r_2, r_3, r_30, r_36, r_42, r_44, r_6, r_60, r_62, r_81_2, r_9, r_90, wpn_S, wpn_zero, stp_h, lk_0, lk_s, st1_0, st1_1, st1_2, st2_0, st2_1, st2_2, kj_i, kj_a, kj_l, kj_n, cat_n, cat_i, cat_a, cat_u, cat_l, vc_i, vc_a, rv_s, tl_n, tl_s, Cal'_s, List.length_cons, List.length_nil, i0, i1, iNd, iN_lt, iN_le, iN_eq, iN_add, iN_mul, iN_mod, iN_sub, iN_div, iN_clamp, iN_inb, zle_N, zlt_N, zN_le, zN_lt, zN_eq, Nz_eq, mI_t, mI_f, bI_0, bI_1, bI_t, bI_f, dltT, dltF, dleT, dleF, deqT, deqF, Nat.not_lt_zero, not_true_eq_false, not_false_eq_true, true_and, and_true, false_and, and_false, or_true, true_or, false_or, or_false, and_self, if_true, if_false, Classical.not_not, Nat.add_assoc, Nat.zero_add, Nat.add_zero, bI_or, bI_True, bI_False, Bool.false_eq_true, reduceCtorEq, eq_self, gi_si, gl_si, gr_si, hn_si, hL_si, hX_si, gi_sl, gl_sl, gr_sl, hn_sl, ob_si, ar_si, ob_sl, ar_sl, ks_101_0, ks_101_1, oQ, rQ1, aQ, sQ, l1, l2, c_cell_q, Cal_eq r, hne])
        exact hn2
      · rw [if_neg h1] at r
        have hT2 := hT.2.1
        have hn2 := hn2 [some (.ref 32), some (.int (duV v (qsN v (k + 1)) 0)), some (.int (iN (p + 1)))] h' ⟨rfl, k + 1, 0, by rw [sp_s]; omega, Nat.zero_le _, by
          rcases hk2 with hk2 | ⟨rfl, hk2⟩
          · by_cases e2 : k + 1 = K
            · exact Or.inr ⟨e2, Nat.zero_le _⟩
            · exact Or.inl (by omega)
          · omega, rfl⟩
        have hne : (zI (-1) = zI (-2)) = False := by
          rw [z_eq (by omega) (by omega) (by omega) (by omega)]
          exact eq_false (by omega)
        (refine wp_go 600 ks_101_0.2.2.2.2.1 ?_; simp (disch := first | with_reducible assumption | omega | (simp only [ob_si, ar_si, ob_sl, ar_sl]; with_reducible assumption)) only [ci_0, ci_1, cm_1, cm_2, inc_i, ldA_a, ldI_i, r_0, r_2, r_3, r_30, r_36, r_42, r_44, r_6, r_60, r_62, r_81_2, r_9, r_90, wpn_S, wpn_zero, stp_h, lk_0, lk_s, st1_0, st1_1, st1_2, st2_0, st2_1, st2_2, kj_i, kj_a, kj_l, kj_n, cat_n, cat_i, cat_a, cat_u, cat_l, vc_i, vc_a, rv_s, tl_n, tl_s, Cal'_s, List.length_cons, List.length_nil, i0, i1, iNd, iN_lt, iN_le, iN_eq, iN_add, iN_mul, iN_mod, iN_sub, iN_div, iN_clamp, iN_inb, zle_N, zlt_N, zN_le, zN_lt, zN_eq, Nz_eq, mI_t, mI_f, bI_0, bI_1, bI_t, bI_f, dltT, dltF, dleT, dleF, deqT, deqF, Nat.not_lt_zero, not_true_eq_false, not_false_eq_true, true_and, and_true, false_and, and_false, or_true, true_or, false_or, or_false, and_self, if_true, if_false, Classical.not_not, Nat.add_assoc, Nat.zero_add, Nat.add_zero, bI_or, bI_True, bI_False, Bool.false_eq_true, reduceCtorEq, eq_self, gi_si, gl_si, gr_si, hn_si, hL_si, hX_si, gi_sl, gl_sl, gr_sl, hn_sl, ob_si, ar_si, ob_sl, ar_sl, ks_101_0, ks_101_1, oQ, rQ1, aQ, sQ, l1, l2, c_cell_q, Cal_eq r, hne])
        exact hn2
    · have r := q_fitF (h := h') hv hi hf
      rw [← e] at r
      have hk2 : k = K ∧ i = t0 := by
        rcases hk with hk | ⟨hk, hk2⟩
        · exact absurd (hT.1 k hk i hi) hf
        · refine ⟨hk, ?_⟩
          by_cases e2 : i = t0
          · exact e2
          · subst hk; exact absurd (hT.2.2.1 i (by omega)) hf
      obtain ⟨rfl, rfl⟩ := hk2
      have ev : amV v n k i = iN p := by
        unfold amV okP
        rw [if_neg (by omega), e]
      rw [ev] at hQ
      (refine wp_go 600 ks_101_0.2.2.2.2.1 ?_; simp (disch := first | with_reducible assumption | omega | (simp only [ob_si, ar_si, ob_sl, ar_sl]; with_reducible assumption)) only [ci_0, ci_1, cm_1, cm_2, inc_i, ldA_a, ldI_i, r_0, r_2, r_3, r_30, r_36, r_42, r_44, r_6, r_60, r_62, r_81_2, r_9, r_90, wpn_S, wpn_zero, stp_h, lk_0, lk_s, st1_0, st1_1, st1_2, st2_0, st2_1, st2_2, kj_i, kj_a, kj_l, kj_n, cat_n, cat_i, cat_a, cat_u, cat_l, vc_i, vc_a, rv_s, tl_n, tl_s, Cal'_s, List.length_cons, List.length_nil, i0, i1, iNd, iN_lt, iN_le, iN_eq, iN_add, iN_mul, iN_mod, iN_sub, iN_div, iN_clamp, iN_inb, zle_N, zlt_N, zN_le, zN_lt, zN_eq, Nz_eq, mI_t, mI_f, bI_0, bI_1, bI_t, bI_f, dltT, dltF, dleT, dleF, deqT, deqF, Nat.not_lt_zero, not_true_eq_false, not_false_eq_true, true_and, and_true, false_and, and_false, or_true, true_or, false_or, or_false, and_self, if_true, if_false, Classical.not_not, Nat.add_assoc, Nat.zero_add, Nat.add_zero, bI_or, bI_True, bI_False, Bool.false_eq_true, reduceCtorEq, eq_self, gi_si, gl_si, gr_si, hn_si, hL_si, hX_si, gi_sl, gl_sl, gr_sl, hn_sl, ob_si, ar_si, ob_sl, ar_sl, ks_101_0, ks_101_1, oQ, rQ1, aQ, sQ, l1, l2, c_cell_q, Cal_eq r])
      exact hQ
  · rintro L h' ⟨rfl, k, i, e, hi, hk, rfl⟩
    have hkK : k = K ∧ i = t0 := by
      rcases hk with hk | ⟨hk, hk2⟩
      · have := sp_le (v := v) (show k + 1 ≤ K by omega)
        have h4 := hT.2.2.2
        rw [sp_s] at this
        omega
      · refine ⟨hk, ?_⟩
        have h4 := hT.2.2.2
        subst hk
        omega
    obtain ⟨rfl, rfl⟩ := hkK
    by_cases ho : okP v n k i
    · rw [amV, if_pos ho] at hQ
      obtain ⟨o1, o2, o3⟩ := ho
      subst o2
      unfold duV
      rw [if_pos rfl]
      (refine wp_go 600 ks_101_0.2.2.2.2.1 ?_; simp (disch := first | with_reducible assumption | omega | (simp only [ob_si, ar_si, ob_sl, ar_sl]; with_reducible assumption)) only [ci_0, ci_1, cm_1, cm_2, inc_i, ldA_a, ldI_i, r_0, r_2, r_3, r_30, r_36, r_42, r_44, r_6, r_60, r_62, r_81_2, r_9, r_90, wpn_S, wpn_zero, stp_h, lk_0, lk_s, st1_0, st1_1, st1_2, st2_0, st2_1, st2_2, kj_i, kj_a, kj_l, kj_n, cat_n, cat_i, cat_a, cat_u, cat_l, vc_i, vc_a, rv_s, tl_n, tl_s, Cal'_s, List.length_cons, List.length_nil, i0, i1, iNd, iN_lt, iN_le, iN_eq, iN_add, iN_mul, iN_mod, iN_sub, iN_div, iN_clamp, iN_inb, zle_N, zlt_N, zN_le, zN_lt, zN_eq, Nz_eq, mI_t, mI_f, bI_0, bI_1, bI_t, bI_f, dltT, dltF, dleT, dleF, deqT, deqF, Nat.not_lt_zero, not_true_eq_false, not_false_eq_true, true_and, and_true, false_and, and_false, or_true, true_or, false_or, or_false, and_self, if_true, if_false, Classical.not_not, Nat.add_assoc, Nat.zero_add, Nat.add_zero, bI_or, bI_True, bI_False, Bool.false_eq_true, reduceCtorEq, eq_self, gi_si, gl_si, gr_si, hn_si, hL_si, hX_si, gi_sl, gl_sl, gr_sl, hn_sl, ob_si, ar_si, ob_sl, ar_sl, ks_101_0, ks_101_1, oQ, l1])
      exact hQ
    · rw [amV, if_neg ho, ← e] at hQ
      unfold duV
      by_cases h0 : i = 0
      · have n0 : n = 0 := by
          unfold okP at ho
          omega
        rw [if_pos h0]
        subst n0
        (refine wp_go 600 ks_101_0.2.2.2.2.1 ?_; simp (disch := first | with_reducible assumption | omega | (simp only [ob_si, ar_si, ob_sl, ar_sl]; with_reducible assumption)) only [ci_0, ci_1, cm_1, cm_2, inc_i, ldA_a, ldI_i, r_0, r_2, r_3, r_30, r_36, r_42, r_44, r_6, r_60, r_62, r_81_2, r_9, r_90, wpn_S, wpn_zero, stp_h, lk_0, lk_s, st1_0, st1_1, st1_2, st2_0, st2_1, st2_2, kj_i, kj_a, kj_l, kj_n, cat_n, cat_i, cat_a, cat_u, cat_l, vc_i, vc_a, rv_s, tl_n, tl_s, Cal'_s, List.length_cons, List.length_nil, i0, i1, iNd, iN_lt, iN_le, iN_eq, iN_add, iN_mul, iN_mod, iN_sub, iN_div, iN_clamp, iN_inb, zle_N, zlt_N, zN_le, zN_lt, zN_eq, Nz_eq, mI_t, mI_f, bI_0, bI_1, bI_t, bI_f, dltT, dltF, dleT, dleF, deqT, deqF, Nat.not_lt_zero, not_true_eq_false, not_false_eq_true, true_and, and_true, false_and, and_false, or_true, true_or, false_or, or_false, and_self, if_true, if_false, Classical.not_not, Nat.add_assoc, Nat.zero_add, Nat.add_zero, bI_or, bI_True, bI_False, Bool.false_eq_true, reduceCtorEq, eq_self, gi_si, gl_si, gr_si, hn_si, hL_si, hX_si, gi_sl, gl_sl, gr_sl, hn_sl, ob_si, ar_si, ob_sl, ar_sl, ks_101_0, ks_101_1, oQ, l1])
        exact hQ
      · rw [if_neg h0]
        have := dg_le (v (qsN v k))
        (refine wp_go 600 ks_101_0.2.2.2.2.1 ?_; simp (disch := first | with_reducible assumption | omega | (simp only [ob_si, ar_si, ob_sl, ar_sl]; with_reducible assumption)) only [ci_0, ci_1, cm_1, cm_2, inc_i, ldA_a, ldI_i, r_0, r_2, r_3, r_30, r_36, r_42, r_44, r_6, r_60, r_62, r_81_2, r_9, r_90, wpn_S, wpn_zero, stp_h, lk_0, lk_s, st1_0, st1_1, st1_2, st2_0, st2_1, st2_2, kj_i, kj_a, kj_l, kj_n, cat_n, cat_i, cat_a, cat_u, cat_l, vc_i, vc_a, rv_s, tl_n, tl_s, Cal'_s, List.length_cons, List.length_nil, i0, i1, iNd, iN_lt, iN_le, iN_eq, iN_add, iN_mul, iN_mod, iN_sub, iN_div, iN_clamp, iN_inb, zle_N, zlt_N, zN_le, zN_lt, zN_eq, Nz_eq, mI_t, mI_f, bI_0, bI_1, bI_t, bI_f, dltT, dltF, dleT, dleF, deqT, deqF, Nat.not_lt_zero, not_true_eq_false, not_false_eq_true, true_and, and_true, false_and, and_false, or_true, true_or, false_or, or_false, and_self, if_true, if_false, Classical.not_not, Nat.add_assoc, Nat.zero_add, Nat.add_zero, bI_or, bI_True, bI_False, Bool.false_eq_true, reduceCtorEq, eq_self, gi_si, gl_si, gr_si, hn_si, hL_si, hX_si, gi_sl, gl_sl, gr_sl, hn_sl, ob_si, ar_si, ob_sl, ar_sl, ks_101_0, ks_101_1, oQ, l1])
        exact hQ
  · by_cases h0 : 0 < K
    · exact Or.inl h0
    · exact Or.inr ⟨by omega, Nat.zero_le _⟩
theorem q_digit {h : Hp} {n k : Nat} {v : Nat → Nat} (hB : Bs h) (hL : Lo h n v) (hk : k < 96) (hv : v k ≤ 255) (g : 48 ≤ v k) : Ret 1 105 [.ref 32, .int (iN k)] h (some (.int (iN (dv v k)))) (h) := by
  refine Ret_L [some (.ref 32), some (.int (iN k))] rfl rfl fun Q hQ => ?_
  obtain ⟨oQ, rQ0, rQ1, aQ, sQ⟩ := Q_facts hB
  have l2 := hL.2 k hk
  (refine wp_go 600 ks_105_0.1 ?_; simp (disch := first | with_reducible assumption | omega | (simp only [ob_si, ar_si, ob_sl, ar_sl]; with_reducible assumption)) only [ci_48, ldA_a, ldI_i, r_0, r_11, r_2, r_6, r_62, r_81_2, r_90, wpn_S, wpn_zero, stp_h, lk_0, lk_s, st1_0, st1_1, st1_2, st2_0, st2_1, st2_2, kj_i, kj_a, kj_l, kj_n, cat_n, cat_i, cat_a, cat_u, cat_l, vc_i, vc_a, rv_s, tl_n, tl_s, Cal'_s, List.length_cons, List.length_nil, i0, i1, iNd, iN_lt, iN_le, iN_eq, iN_add, iN_mul, iN_mod, iN_sub, iN_div, iN_clamp, iN_inb, zle_N, zlt_N, zN_le, zN_lt, zN_eq, Nz_eq, mI_t, mI_f, bI_0, bI_1, bI_t, bI_f, dltT, dltF, dleT, dleF, deqT, deqF, Nat.not_lt_zero, not_true_eq_false, not_false_eq_true, true_and, and_true, false_and, and_false, or_true, true_or, false_or, or_false, and_self, if_true, if_false, Classical.not_not, Nat.add_assoc, Nat.zero_add, Nat.add_zero, bI_or, bI_True, bI_False, Bool.false_eq_true, reduceCtorEq, eq_self, gi_si, gl_si, gr_si, hn_si, hL_si, hX_si, gi_sl, gl_sl, gr_sl, hn_sl, ob_si, ar_si, ob_sl, ar_sl, ks_105_0, oQ, rQ1, aQ, sQ, l2, c_cell_q])
  exact hQ
theorem q_digit_q {h : Hp} {n k : Nat} {v : Nat → Nat} (hB : Bs h) (hL : Lo h n v) (hk : k < 96) (hv : v k ≤ 255) (g : 48 ≤ v k) {e : Nat} (hd : 1 ≤ e) (K : Option Value → Hp → Prop) : Cal e 105 [.ref 32, .int (iN k)] h K = K (some (.int (iN (dv v k)))) (h) := Cal_eq (q_digit (hB := hB) (hL := hL) (hk := hk) (hv := hv) (g := g)) hd K
theorem q_two {h : Hp} {n k : Nat} {v : Nat → Nat} (hB : Bs h) (hL : Lo h n v) (hk : k + 1 < 96) (hv : v k ≤ 255) (hv1 : v (k + 1) ≤ 255) (g : 48 ≤ v k) (g1 : 48 ≤ v (k + 1)) : Ret 2 106 [.ref 32, .int (iN k)] h (some (.int (iN (tw2 v k)))) (h) := by
  refine Ret_L [some (.ref 32), some (.int (iN k))] rfl rfl fun Q hQ => ?_
  obtain ⟨oQ, rQ0, rQ1, aQ, sQ⟩ := Q_facts hB
  (refine wp_go 600 ks_106_0.1 ?_; simp (disch := first | with_reducible assumption | omega | (simp only [ob_si, ar_si, ob_sl, ar_sl]; with_reducible assumption)) only [ci_1, ci_10, ldA_a, ldI_i, oc_105, r_0, r_10, r_12, r_2, r_6, r_80_2, r_90, wpn_S, wpn_zero, stp_h, lk_0, lk_s, st1_0, st1_1, st1_2, st2_0, st2_1, st2_2, kj_i, kj_a, kj_l, kj_n, cat_n, cat_i, cat_a, cat_u, cat_l, vc_i, vc_a, rv_s, tl_n, tl_s, Cal'_s, List.length_cons, List.length_nil, i0, i1, iNd, iN_lt, iN_le, iN_eq, iN_add, iN_mul, iN_mod, iN_sub, iN_div, iN_clamp, iN_inb, zle_N, zlt_N, zN_le, zN_lt, zN_eq, Nz_eq, mI_t, mI_f, bI_0, bI_1, bI_t, bI_f, dltT, dltF, dleT, dleF, deqT, deqF, Nat.not_lt_zero, not_true_eq_false, not_false_eq_true, true_and, and_true, false_and, and_false, or_true, true_or, false_or, or_false, and_self, if_true, if_false, Classical.not_not, Nat.add_assoc, Nat.zero_add, Nat.add_zero, bI_or, bI_True, bI_False, Bool.false_eq_true, reduceCtorEq, eq_self, gi_si, gl_si, gr_si, hn_si, hL_si, hX_si, gi_sl, gl_sl, gr_sl, hn_sl, ob_si, ar_si, ob_sl, ar_sl, ks_106_0, oQ, q_digit_q hB hL])
  exact hQ
theorem q_two_q {h : Hp} {n k : Nat} {v : Nat → Nat} (hB : Bs h) (hL : Lo h n v) (hk : k + 1 < 96) (hv : v k ≤ 255) (hv1 : v (k + 1) ≤ 255) (g : 48 ≤ v k) (g1 : 48 ≤ v (k + 1)) {e : Nat} (hd : 2 ≤ e) (K : Option Value → Hp → Prop) : Cal e 106 [.ref 32, .int (iN k)] h K = K (some (.int (iN (tw2 v k)))) (h) := Cal_eq (q_two (hB := hB) (hL := hL) (hk := hk) (hv := hv) (hv1 := hv1) (g := g) (g1 := g1)) hd K
