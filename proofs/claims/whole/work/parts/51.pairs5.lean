/-! pairings, the best one -/
theorem itx_ni {ρ : Type} (f : Nat → Option ρ) : ∀ (k i : Nat), itx f i k = none ↔ ∀ j, i ≤ j → j < i + k → f j = none
  | 0, i => ⟨fun _ j h1 h2 => absurd h2 (by omega), fun _ => rfl⟩
  | k + 1, i => by
    rw [itx_last, itx_ni f k i]
    constructor
    · intro h j h1 h2
      by_cases e : j = i + k
      · rw [e]; exact h.2
      · exact h.1 j h1 (by omega)
    · intro h
      exact ⟨fun j h1 h2 => h j h1 (by omega), h _ (by omega) (by omega)⟩
theorem itx_si {ρ : Type} {f : Nat → Option ρ} : ∀ (k i : Nat) (r : ρ), itx f i k = some r → ∃ j, i ≤ j ∧ j < i + k ∧ f j = some r
  | 0, i, r, h => by cases h
  | k + 1, i, r, h => by
    cases e : f i with
    | none =>
      rw [itx_n e] at h
      obtain ⟨j, h1, h2, h3⟩ := itx_si k (i + 1) r h
      exact ⟨j, by omega, by omega, h3⟩
    | some q =>
      rw [itx_r e] at h
      cases h
      exact ⟨i, Nat.le_refl _, by omega, e⟩
theorem itr_z {f : Nat → Nat → Nat} {P : Nat → Prop} (h : ∀ j a, f j a = 0 ↔ a = 0 ∧ P j) : ∀ (k i a : Nat), itr f i k a = 0 ↔ a = 0 ∧ ∀ j, i ≤ j → j < i + k → P j
  | 0, i, a => ⟨fun e => ⟨e, fun j h1 h2 => absurd h2 (by omega)⟩, fun e => e.1⟩
  | k + 1, i, a => by
    rw [itr_s, itr_z h k (i + 1) (f i a), h i a]
    constructor
    · rintro ⟨⟨h1, h2⟩, h3⟩
      refine ⟨h1, fun j a1 a2 => ?_⟩
      by_cases e : j = i
      · rw [e]; exact h2
      · exact h3 j (by omega) (by omega)
    · rintro ⟨h1, h2⟩
      exact ⟨⟨h1, h2 i (Nat.le_refl _) (by omega)⟩, fun j a1 a2 => h2 j (by omega) (by omega)⟩
theorem ste_iff (y : Mt) : (lvT y = 0 ∧ ridF y = 0) ↔ itx (stF y) 0 (xN y) = none := by
  unfold lvT ridF
  rw [itr_z (P := fun i => ∀ j, i + 1 ≤ j → j < i + 1 + (xN y - (i + 1)) → ¬ leavB y i j = true) (fun i a => itr_z (P := fun j => ¬ leavB y i j = true) (fun j a => by
    by_cases hc : leavB y i j = true
    · simp only [if_pos hc]; exact ⟨fun e => by omega, fun e => absurd hc e.2⟩
    · simp only [if_neg hc]; exact ⟨fun e => ⟨e, hc⟩, fun e => e.1⟩) _ _ _) _ _ _, itr_z (P := fun i => ¬ ridB y i = true) (fun i a => by
    by_cases hc : ridB y i = true
    · simp only [if_pos hc]; exact ⟨fun e => absurd e (or_pow a i), fun e => absurd hc e.2⟩
    · simp only [if_neg hc]; exact ⟨fun e => ⟨e, hc⟩, fun e => e.1⟩) _ _ _, itx_ni]
  constructor
  · rintro ⟨⟨_, h1⟩, ⟨_, h2⟩⟩ i a1 a2
    unfold stF
    rw [if_neg (h2 i a1 a2)]
    refine (itx_ni _ _ _).mpr fun j b1 b2 => ?_
    rw [if_neg (h1 i a1 a2 j b1 b2)]
  · intro h
    refine ⟨⟨rfl, fun i a1 a2 j b1 b2 hc => ?_⟩, ⟨rfl, fun i a1 a2 hc => ?_⟩⟩
    · have := h i a1 a2
      unfold stF at this
      by_cases hr : ridB y i = true
      · rw [if_pos hr] at this; cases this
      · rw [if_neg hr] at this
        have := (itx_ni _ _ _).mp this j b1 b2
        rw [if_pos hc] at this; cases this
    · have := h i a1 a2
      unfold stF at this
      rw [if_pos hc] at this; cases this
theorem ridF_lt {x : Mt} (hW : Wf x) : ridF x < 64 := by
  have hn := hW.1
  refine itr_inv2 (P := fun a => a < 64) _ _ _ (fun j a _ h2 ha => ?_) (by omega)
  show (if ridB x j = true then a ||| 2 ^ j else a) < 64
  split
  · exact or_64 ha (by omega)
  · exact ha
theorem lvT_b {x : Mt} (hW : Wf x) : lvT x ≤ 36 := by
  have hn := hW.1
  have h1 : ∀ i a, itr (fun j a => if leavB x i j = true then a + 1 else a) (i + 1) (xN x - (i + 1)) a ≤ a + 6 := by
    intro i a
    have := itr_bd (f := fun j a => if leavB x i j = true then a + 1 else a) (c := 1) (fun j a => by show (if leavB x i j = true then a + 1 else a) ≤ a + 1; split <;> omega) (xN x - (i + 1)) (i + 1) a
    omega
  have h2 := itr_bd (f := fun i a => itr (fun j a => if leavB x i j = true then a + 1 else a) (i + 1) (xN x - (i + 1)) a) (c := 6) h1 (xN x) 0 0
  unfold lvT
  omega
theorem itr_pair {α β : Type} (f : Nat → α → α) (g : Nat → β → β) : ∀ (k i : Nat) (a : α) (b : β), itr (fun i (q : α × β) => (f i q.1, g i q.2)) i k (a, b) = (itr f i k a, itr g i k b)
  | 0, _, _, _ => rfl
  | k + 1, i, a, b => by rw [itr_s, itr_s, itr_s]; exact itr_pair f g k (i + 1) (f i a) (g i b)
theorem itr_cm {f : Nat → Nat → Nat} {c : Nat → Nat} (h : ∀ j a, f j a = a + c j) : ∀ (k i a b : Nat), itr f i k (a + b) = itr f i k a + b
  | 0, _, _, _ => rfl
  | k + 1, i, a, b => by rw [itr_s, itr_s, h, h, show a + b + c i = a + c i + b by omega]; exact itr_cm h k (i + 1) _ b
theorem itr_rev {f : Nat → Nat → Nat} {c : Nat → Nat} (h : ∀ j a, f j a = a + c j) : ∀ (n m a : Nat), itr (fun i a => f (n + m - 1 - i) a) 0 n a = itr f m n a
  | 0, _, _ => rfl
  | n + 1, m, a => by
    rw [itr_last, Nat.zero_add, show n + 1 + m - 1 - n = m by omega]
    have e : itr (fun i a => f (n + 1 + m - 1 - i) a) 0 n a = itr (fun i a => f (n + (m + 1) - 1 - i) a) 0 n a := by
      congr 1
      funext i b
      rw [show n + 1 + m - 1 - i = n + (m + 1) - 1 - i by omega]
    rw [e, itr_rev h n (m + 1) a, itr_s, h m a, itr_cm h, h]
noncomputable def pgS (x : Mt) (i : Nat) (a : Nat × Option Nat) : Nat × Option Nat := (steS x (cw (xN x) + 0 - 1 - i) a.1, dnF (stxF x) 0 (cw (xN x)) i a.2)
theorem pg_eq (x : Mt) : itr (pgS x) 0 (cw (xN x)) (0, none) = (steN x, stxO x) := by
  have h1 := itr_pair (fun i a => steS x (cw (xN x) + 0 - 1 - i) a) (dnF (stxF x) 0 (cw (xN x))) (cw (xN x)) 0 0 none
  have h2 := itr_rev (f := steS x) (c := fun k => @ite _ (steP x k) (Classical.propDecidable _) 1 0) (fun j a => by
    by_cases hc : steP x j
    · rw [steS_t hc, if_pos hc]
    · rw [steS_f hc, if_neg hc]; rfl) (cw (xN x)) 0 0
  rw [h2, dn_itx, orO_n] at h1
  exact h1
theorem stxO_lt {x : Mt} {k : Nat} (h : stxO x = some k) : k < cw (xN x) := by
  obtain ⟨j, h1, h2, h3⟩ := itx_si _ _ _ h
  by_cases hc : steP x j
  · rw [stxF_t hc] at h3; cases h3; omega
  · rw [stxF_f hc] at h3; cases h3
theorem in_m1 {n : Nat} (hn : n ≤ 6) (p : Int32) : (Int64.ofInt (-1) ≤ p.toInt64 ∧ p.toInt64 ≤ (iN n - iN 1).toInt64) = (p = zI (-1) ∨ isP n p) := by
  have e0 : (Int64.ofInt (-1)).toInt = -1 := by decide
  have e2 : (iN n - iN 1).toInt = (n : Int) - 1 := by
    rw [NN_sub, iZ_toInt (by omega) (by omega)]
    rfl
  rw [Int64.le_iff_toInt_le, Int64.le_iff_toInt_le, e0, Int32.toInt_toInt64, Int32.toInt_toInt64, e2]
  refine propext ⟨fun h => ?_, ?_⟩
  · by_cases h0 : p.toInt = -1
    · refine Or.inl ?_
      rw [← Int32.toInt_inj, iZ_toInt (by omega) (by omega), h0]
    · refine Or.inr ⟨p.toInt.toNat, by omega, ?_⟩
      rw [← Int32.toInt_inj, iN_toInt (by omega)]; omega
  · rintro (h | ⟨i, hi, rfl⟩)
    · rw [h, iZ_toInt (by omega) (by omega)]; omega
    · rw [iN_toInt (by omega)]; omega
theorem in_z : (Int64.ofInt (-1) ≤ (zI (-1)).toInt64) = True := by
  have e0 : (Int64.ofInt (-1)).toInt = -1 := by decide
  rw [Int64.le_iff_toInt_le, e0, Int32.toInt_toInt64, iZ_toInt (by omega) (by omega)]
  exact eq_true (by omega)
theorem in_zn {n : Nat} (hn : n ≤ 6) : ((zI (-1)).toInt64 ≤ (iN n - iN 1).toInt64) = True := by
  rw [Int64.le_iff_toInt_le, Int32.toInt_toInt64, Int32.toInt_toInt64, iZ_toInt (by omega) (by omega), NN_sub, iZ_toInt (by omega) (by omega)]
  exact eq_true (by omega)
theorem in_q {q : Nat} (hq : q < 1000) : (Int64.ofInt (-1) ≤ jN q) = True := by
  have e0 : (Int64.ofInt (-1)).toInt = -1 := by decide
  rw [Int64.le_iff_toInt_le, e0, jN_toInt (by omega)]
  exact eq_true (by omega)
theorem in_qn {n q : Nat} (hn : n ≤ 6) (hq : q < n) : (jN q ≤ (iN n - iN 1).toInt64) = True := by
  rw [Int64.le_iff_toInt_le, Int32.toInt_toInt64, jN_toInt (by omega), NN_sub, iZ_toInt (by omega) (by omega)]
  exact eq_true (by omega)
noncomputable def Syp : Nat → Prop := fun o => (88 ≤ o ∧ o ≤ 92) ∨ (95 ≤ o ∧ o ≤ 98) ∨ (101 ≤ o ∧ o ≤ 103)
noncomputable def Fyp : Nat → Prop := fun k => k = 0 ∨ k = 6 ∨ k = 7 ∨ k = 11 ∨ k = 12 ∨ k = 13 ∨ k = 20 ∨ k = 21 ∨ k = 27 ∨ k = 28 ∨ k = 32
theorem Fo_p98 {h h' : Hp} (f : Fo (Sc 98) Fc h h') : Fo Syp Fyp h h' := f.mono (fun o ho => by unfold Sc at ho; unfold Syp; omega) (fun k hk => by unfold Fc at hk; unfold Fyp; omega)
theorem Fo_pq {h h' : Hp} (f : Fo Sq Fq h h') : Fo Syp Fyp h h' := f.mono (fun o ho => by unfold Sq at ho; unfold Syp; omega) (fun k hk => by unfold Fq at hk; unfold Fyp; omega)
theorem Fo_pl {h h' : Hp} (f : Fo Sl2 Fl2 h h') : Fo Syp Fyp h h' := f.mono (fun o ho => by unfold Sl2 at ho; unfold Syp; omega) (fun k hk => by unfold Fl2 at hk; unfold Fyp; omega)
theorem Fo_py {h h' : Hp} (f : Fo Sy Fy h h') : Fo Syp Fyp h h' := f.mono (fun o ho => by unfold Sy at ho; unfold Syp; omega) (fun k hk => by unfold Fy at hk; unfold Fyp; omega)
theorem op_queryP {yc ym : Nat} {as : List Value} {s : Gs} (hs : GW s) {v : Value} (hc : ∀ h, Bs h → IC h s → ∃ h', Ret 14 yc (.ref 0 :: as) h (some v) h' ∧ Fr Sz h h') (hm : ∀ h, Bs h → IO h s → ∃ h', Ret 14 ym (.ref 87 :: as) h (some v) h' ∧ Ao h' (gX s) ∧ Pd h' ∧ Fo Syp Fyp h h') (hv : kdV yc v := by first | (show ∃ x, _ = Value.int x; exact ⟨_, rfl⟩) | (show ∃ x, _ = Value.long x; exact ⟨_, rfl⟩)) : OpOk yc ym as s := by
  refine ⟨v, s, hv, hs, fun h hB hI => ?_, fun h hB hI => ?_⟩
  · obtain ⟨h', r, f⟩ := hc h hB hI
    exact ⟨h', r, hI.fr f, f.mono fun o ho => by unfold Sz at ho; unfold Lc87; omega⟩
  · obtain ⟨h', r, A, P, f⟩ := hm h hB hI
    obtain ⟨_, a, b, c, d, e, g⟩ := hI
    refine ⟨h', r, ⟨A, ?_, b.fr f (by unfold Syp; omega) (by unfold Fyp; omega), ⟨?_, ?_⟩, ⟨?_, ?_⟩, ?_, P⟩, f.gc fun o ho => by unfold Syp at ho; omega⟩
    · cases hi : gI s with
      | none => rw [hi] at a; show gi h' 87 19 = _; rw [f.2 19 (by unfold Fyp; omega)]; exact a
      | some y => rw [hi] at a; exact ⟨by rw [f.2 19 (by unfold Fyp; omega)]; exact a.1, a.2.fr f (by unfold Syp; omega) (by omega)⟩
    · rw [f.2 31 (by unfold Fyp; omega)]; exact c.1
    · rw [f.i (o := 104) (by unfold Syp; omega) (by omega)]; exact c.2
    · rw [f.2 10 (by unfold Fyp; omega)]; exact d.1
    · rw [f.i (o := 94) (by unfold Syp; omega) (by omega)]; exact d.2
    · rw [f.i (o := 93) (by unfold Syp; omega) (by omega)]; exact e
theorem ps_all {x : Mt} (hW : Wf x) {k : Nat} (hk : k < cw (xN x)) (d : Nat) : (allQ (dayM (psM x k) d) : Int) = allQ x + cbZ x d k := by
  show (allQ (lyM (psM x k) (dgo (psM x k) d) (xN x)) : Int) = _
  rw [ly_all (wf_ps hW hk) (xN x) (Nat.le_refl _)]
  have e1 : allQ (psM x k) = allQ x := rfl
  rw [e1]
  unfold cbZ
  rw [itr_sm (g := fun p => if wy (xN x) k p < 6 ∧ p < wy (xN x) k p then chZ x d p (wy (xN x) k p) else 0) (fun i a => by
    unfold cbS
    by_cases h : wy (xN x) k i < 6 ∧ i < wy (xN x) k i
    · rw [if_pos h, if_pos h]
    · rw [if_neg h, if_neg h]; omega) 0 (xN x), Int.zero_add]
  refine congrArg _ (sm_cg _ fun i hi => ?_)
  unfold mtS
  rw [show xM (psM x k) i = wy (xN x) k i from if_pos hi]
  rfl
noncomputable def bpA (x : Mt) (d k : Nat) : Nat := allQ (dayM (psM x k) d)
theorem bp_am {x : Mt} (hW : Wf x) (d : Nat) : itr (amS (bpA x d)) 0 (cw (xN x)) none = some (bwN x d, bpA x d (bwN x d)) := by
  have hc := wyL_le (xN x) (by have := hW.1; omega)
  have e : itr (amF (bpA x d)) 1 (cw (xN x) - 1) 0 = bwN x d := by
    unfold bwN
    refine am_cg (N := cw (xN x)) (fun k a hk ha => ⟨?_, ?_⟩) _ 1 0 (by omega) hc.2
    · unfold amF bwS bpA
      have h1 := ps_all hW hk d
      have h2 := ps_all hW ha d
      by_cases h : cbZ x d k < cbZ x d a
      · rw [if_pos h, if_pos (by omega)]
      · rw [if_neg h, if_neg (by omega)]
    · unfold amF
      split <;> assumption
  have h3 := am_eq (bpA x d) (cw (xN x) - 1)
  rw [e, show cw (xN x) - 1 + 1 = cw (xN x) by omega] at h3
  exact h3
theorem amP_it {B : Nat → Nat} {N : Nat} (hB : ∀ k, k < N → B k ≤ 3564) (hN : N ≤ 100) : ∀ (k i : Nat) (a : Option (Nat × Nat)), i + k ≤ N → amP a → amP (itr (amS B) i k a)
  | 0, _, _, _, ha => ha
  | k + 1, i, a, h, ha => by
    rw [itr_s]
    refine amP_it hB hN k (i + 1) _ (by omega) ?_
    intro b l e
    have := hB i (by omega)
    cases a with
    | none => simp only [amS, Option.some.injEq, Prod.mk.injEq] at e; omega
    | some z =>
      obtain ⟨b2, l2⟩ := z
      have := ha b2 l2 rfl
      simp only [amS] at e
      split at e <;> simp only [Option.some.injEq, Prod.mk.injEq] at e <;> omega
theorem bw_lt {x : Mt} (hW : Wf x) (d : Nat) : bwN x d < cw (xN x) := by
  have hc := wyL_le (xN x) (by have := hW.1; omega)
  unfold bwN
  refine itr_inv2 (P := fun a => a < cw (xN x)) _ _ _ (fun j a h1 h2 ha => ?_) hc.2
  unfold bwS
  split
  · omega
  · exact ha
set_option maxHeartbeats 8000000 in
theorem op_pairings {s : Gs} (hs : GW s) (a : Int32) : OpOk 163 263 [.int a] s := by
  by_cases hm1 : a = zI (-1)
  · subst hm1
    refine op_queryP hs (v := .int (iN (steN (gX s)))) (fun h hB hI => ?_) (fun h hB hI => ?_)
    · obtain ⟨oF, g0, g1, g2, g4, g5, g6, g7, g8, g9, g10, g11, g12, g13, o21, o22, o23, o28, o29, o32, o34, o36, oM⟩ := F_facts hB; obtain ⟨hA, iI, ⟨nx, hP⟩, hR, hL, hF, hT⟩ := id hI; have hW := hs.1; have hm : isM 1 := Or.inl rfl; have wN := hW.1
      obtain ⟨h1, r1, f1⟩ := p_steady hB hA hW
      refine ⟨h1, Ret.up (d := 13) ?_ (by decide), Fr_zp f1⟩
      refine Ret_L [some (.ref 0), some (.int (zI (-1)))] rfl rfl fun Q hQ => ?_
      (refine wp_go 600 ks_163_0.1 ?_; simp (disch := first | with_reducible assumption | omega | (simp only [ob_si, ar_si, ob_sl, ar_sl]; with_reducible assumption)) only [cm_1, ldA_a, ldI_i, oc_191, oc_25, oc_78, oc_79, r_0, r_2, r_30, r_32, r_41, r_42, r_6, r_62, r_80_1, r_80_2, r_90, wpn_S, wpn_zero, stp_h, lk_0, lk_s, st1_0, st1_1, st1_2, st2_0, st2_1, st2_2, kj_i, kj_a, kj_l, kj_n, cat_n, cat_i, cat_a, cat_u, cat_l, vc_i, vc_a, rv_s, tl_n, tl_s, Cal'_s, List.length_cons, List.length_nil, i0, i1, iNd, iN_lt, iN_le, iN_eq, iN_add, iN_mul, iN_mod, iN_sub, iN_div, iN_clamp, iN_inb, zle_N, zlt_N, zN_le, zN_lt, zN_eq, Nz_eq, mI_t, mI_f, bI_0, bI_1, bI_t, bI_f, dltT, dltF, dleT, dleF, deqT, deqF, Nat.not_lt_zero, not_true_eq_false, not_false_eq_true, true_and, and_true, false_and, and_false, or_true, true_or, false_or, or_false, and_self, if_true, if_false, Classical.not_not, Nat.add_assoc, Nat.zero_add, Nat.add_zero, bI_or, bI_True, bI_False, Bool.false_eq_true, reduceCtorEq, eq_self, gi_si, gl_si, gr_si, hn_si, hL_si, hX_si, gi_sl, gl_sl, gr_sl, hn_sl, ob_si, ar_si, ob_sl, ar_sl, ks_163_0, oF, g0, g1, g2, g4, g5, g6, g7, g8, g9, g10, g11, g12, g13, o21, o22, o23, o28, o29, o32, o34, o36, oM, Cal_eq r1])
      exact hQ
    · have oO := (O_facts hB).1; obtain ⟨hA, hIr, f0⟩ := IO_0 hI; replace hB := Bs.si hB 87 7 (iN 0); have hW := hs.1; obtain ⟨oO2, rO1, rO2, rO3, rO4, rO5, rO8, aO1, aO2, aO3, aO4, aO5, aO8, sO1, sO2, sO3, sO4, sO5, sO8⟩ := O_facts hB; obtain ⟨fN, fD, fK, fF, fH, fM, fQ⟩ := id hA; obtain ⟨wN, wK, wF, wH, wM, wQ, wS, wZ, wT⟩ := id hW
      generalize gX s = x at *
      have key : ∀ Q : Option Value → Hp → Prop, (∀ h', Ao h' x → Pl h' (xN x) → Fo Syp Fyp h h' → Q (some (.int (iN (steN x)))) h') → wp 5 263 0 [some (.ref 87), some (.int (zI (-1))), none, none, none, none] [] h Q := by
        intro Q hQ
        have hcw := wyL_le (xN x) (by omega)
        obtain ⟨h0, r0, P0, g0⟩ := wo_lay hB hA hW hIr.2.2.2.2.2
        have B0 := g0.bs hB
        have A0 := hA.fr g0 (by intro o _ _; unfold Sl2; omega) (by unfold Fl2; omega) (by unfold Fl2; omega)
        have oO_0 := (O_facts B0).1
        obtain ⟨h1, r1, A1, K1, f1⟩ := wo_think B0 A0
        have P1 := Pl_98 P0 f1
        have F1 : Fo Syp Fyp h h1 := ((Fo_py f0).tr (Fo_pl g0)).tr (Fo_p98 f1)
        have B1 := f1.bs B0
        have oO_1 := (O_facts B1).1
        have c1 : gi h1 87 27 = iN (cw (xN x)) := P1.2.1
        (refine wp_go 600 ks_263_0.1 ?_; simp (disch := first | with_reducible assumption | omega | (simp only [ob_si, ar_si, ob_sl, ar_sl]; with_reducible assumption)) only [ci_0, ci_1, ci_6, cm_1, cm_9, iN_l, iN_m1, inc_i, jN_add, jN_div, jN_eq, jN_le, jN_lt, jN_mod, jN_mul, jN_sub, l0, lc_eq, lc_ge, lc_gt, lc_le, lc_lt, ldA_a, ldI_i, oc_201, oc_236, oc_237, oc_257, oc_258, oc_261, oc_262, r_0, r_10, r_11, r_12, r_2, r_27, r_3, r_30, r_31, r_32, r_33, r_34, r_6, r_60, r_62, r_63, r_7, r_70, r_80_1, r_80_2, r_81_3, r_9, r_90, wpn_S, wpn_zero, stp_h, lk_0, lk_s, st1_0, st1_1, st1_2, st2_0, st2_1, st2_2, kj_i, kj_a, kj_l, kj_n, cat_n, cat_i, cat_a, cat_u, cat_l, vc_i, vc_a, rv_s, tl_n, tl_s, Cal'_s, List.length_cons, List.length_nil, i0, i1, iNd, iN_lt, iN_le, iN_eq, iN_add, iN_mul, iN_mod, iN_div, iN_clamp, iN_inb, zle_N, zlt_N, zN_le, zN_lt, zN_eq, Nz_eq, mI_t, mI_f, bI_0, bI_1, bI_t, bI_f, dltT, dltF, dleT, dleF, deqT, deqF, Nat.not_lt_zero, not_true_eq_false, not_false_eq_true, true_and, and_true, false_and, and_false, or_true, true_or, false_or, or_false, and_self, if_true, if_false, Classical.not_not, Nat.add_assoc, Nat.zero_add, Nat.add_zero, bI_or, bI_True, bI_False, Bool.false_eq_true, reduceCtorEq, eq_self, gi_si, gl_si, gr_si, hn_si, hL_si, hX_si, gi_sl, gl_sl, gr_sl, hn_sl, ob_si, ar_si, ob_sl, ar_sl, ks_263_0, ks_263_1, ks_263_2, ks_263_3, oO, oO2, rO1, rO2, rO3, rO4, rO5, rO8, aO1, aO2, aO3, aO4, aO5, aO8, fN, fD, fK, fF, fH, fM, fQ, o_in_q trivial, in_m1, in_z, in_zn, in_q, in_qn, isP_N, Cal_eq r0, oO_0, Cal_eq r1, oO_1, c1, dI_0 (cw (xN x))])
        refine wp_foldH (fun i (a : Nat × Option Nat) (w : Option Value) => [some (.ref 87), some (.int (zI (-1))), some (.int (iN a.1)), some (.int (oI a.2)), some (.int (dI (cw (xN x)) i)), w]) (pgS x) (fun i a h' => a.1 ≤ i ∧ (∃ y, Ao h' y ∧ Ag x y ∧ Wf y) ∧ Kx h' 98 x ∧ Pl h' (xN x) ∧ Fo Syp Fyp h h') (cw (xN x)) ?_ (cw (xN x)) 0 (0, none) none h1 (by omega) ⟨Nat.le_refl _, ⟨x, A1, Ag.rf x, hW⟩, K1, P1, F1⟩ ?_
        · rintro i a w h1 hi ⟨ha, ⟨y, A1, gy, Wy⟩, K1, P1, F1⟩ hn
          have B1 := F1.bs hB
          have oO_1 := (O_facts B1).1
          obtain ⟨k, hk⟩ : ∃ k, k = cw (xN x) - 1 - i := ⟨_, rfl⟩
          have hkc : k < cw (xN x) := by omega
          have yN : xN y = xN x := gy.1
          obtain ⟨h2, r2, A2, f2⟩ := wo_pair (x := y) (k := k) B1 A1 Wy (by rw [yN]; exact P1) (by rw [yN]; exact hkc)
          have eps : psM y k = psM x k := by
            obtain ⟨g1, g2, g3, g4, g5, g6, g7⟩ := gy
            refine Mt_ext g1 g2 g3 g4 g5 ?_ g6
            funext p
            show (if p < xN y then wy (xN y) k p else xM y p) = (if p < xN x then wy (xN x) k p else xM x p)
            rw [g1]
            by_cases hp : p < xN x
            · rw [if_pos hp, if_pos hp]
            · rw [if_neg hp, if_neg hp]; exact g7 p (by omega)
          rw [eps] at A2
          have B2 := f2.bs B1
          have oO_2 := (O_facts B2).1
          have W2 := wf_ps hW hkc
          have r3 := o_lvT B2 A2 W2
          have r4 := o_rid B2 A2 W2
          have b3 := lvT_b W2
          have b4 := ridF_lt W2
          have hst := ste_iff (psM x k)
          change (_ ↔ steP x k) at hst
          have d1 : dI (cw (xN x)) i = iN k := by rw [dI_t hi, ← hk]
          have d2 : iN k + zI (-1) = dI (cw (xN x)) (i + 1) := by rw [hk]; exact dI_s hi
          have hn2 := fun w' hle => hn w' h2 ⟨hle, ⟨psM x k, A2, Ag_ps x k, W2⟩, K1.fr f2 (by unfold Sq; omega) (by omega), Pl_q P1 f2, F1.tr (Fo_pq f2)⟩
          rw [pgS, show cw (xN x) + 0 - 1 - i = k by omega] at hn2
          unfold dnF at hn2
          rw [show cw (xN x) + 0 - 1 - i = k by omega] at hn2
          by_cases hs : steP x k
          · obtain ⟨l0, q0⟩ := hst.mpr hs
            rw [steS_t hs, stxF_t hs] at hn2
            have hn2 := hn2 (some (.int (iN 1))) (show a.1 + 1 ≤ i + 1 by omega)
            (refine wp_go 600 ks_263_1.2.2.2.2.2.2.1 ?_; simp (disch := first | with_reducible assumption | omega | (simp only [ob_si, ar_si, ob_sl, ar_sl]; with_reducible assumption)) only [ci_0, ci_1, ci_6, cm_1, cm_9, iN_l, inc_i, jN_add, jN_div, jN_eq, jN_le, jN_lt, jN_mod, jN_mul, jN_sub, l0, lc_eq, lc_ge, lc_gt, lc_le, lc_lt, ldA_a, ldI_i, oc_201, oc_236, oc_237, oc_257, oc_258, oc_261, oc_262, r_0, r_10, r_11, r_12, r_2, r_27, r_3, r_30, r_31, r_32, r_33, r_34, r_6, r_60, r_62, r_63, r_7, r_70, r_80_1, r_80_2, r_81_3, r_9, r_90, wpn_S, wpn_zero, stp_h, lk_0, lk_s, st1_0, st1_1, st1_2, st2_0, st2_1, st2_2, kj_i, kj_a, kj_l, kj_n, cat_n, cat_i, cat_a, cat_u, cat_l, vc_i, vc_a, rv_s, tl_n, tl_s, Cal'_s, List.length_cons, List.length_nil, i0, i1, iNd, iN_lt, iN_le, iN_eq, iN_add, iN_mul, iN_mod, iN_sub, iN_div, iN_clamp, iN_inb, zle_N, zlt_N, zN_le, zN_lt, zN_eq, Nz_eq, mI_t, mI_f, bI_0, bI_1, bI_t, bI_f, dltT, dltF, dleT, dleF, deqT, deqF, Nat.not_lt_zero, not_true_eq_false, not_false_eq_true, true_and, and_true, false_and, and_false, or_true, true_or, false_or, or_false, and_self, if_true, if_false, Classical.not_not, Nat.add_assoc, Nat.zero_add, Nat.add_zero, bI_or, bI_True, bI_False, Bool.false_eq_true, reduceCtorEq, eq_self, gi_si, gl_si, gr_si, hn_si, hL_si, hX_si, gi_sl, gl_sl, gr_sl, hn_sl, ob_si, ar_si, ob_sl, ar_sl, ks_263_0, ks_263_1, ks_263_2, ks_263_3, d1, d2, oO_1, Cal_eq r2, oO_2, Cal_eq r3, Cal_eq r4, l0, q0])
            exact hn2
          · rw [steS_f hs, stxF_f hs] at hn2
            have hn2 := hn2 (some (.int (iN 0))) (show a.1 ≤ i + 1 by omega)
            by_cases l0 : lvT (psM x k) = 0
            · have q0 : ¬ ridF (psM x k) = 0 := fun e => hs (hst.mp ⟨l0, e⟩)
              (refine wp_go 600 ks_263_1.2.2.2.2.2.2.1 ?_; simp (disch := first | with_reducible assumption | omega | (simp only [ob_si, ar_si, ob_sl, ar_sl]; with_reducible assumption)) only [ci_0, ci_1, ci_6, cm_1, cm_9, iN_l, inc_i, jN_add, jN_div, jN_eq, jN_le, jN_lt, jN_mod, jN_mul, jN_sub, l0, lc_eq, lc_ge, lc_gt, lc_le, lc_lt, ldA_a, ldI_i, oc_201, oc_236, oc_237, oc_257, oc_258, oc_261, oc_262, r_0, r_10, r_11, r_12, r_2, r_27, r_3, r_30, r_31, r_32, r_33, r_34, r_6, r_60, r_62, r_63, r_7, r_70, r_80_1, r_80_2, r_81_3, r_9, r_90, wpn_S, wpn_zero, stp_h, lk_0, lk_s, st1_0, st1_1, st1_2, st2_0, st2_1, st2_2, kj_i, kj_a, kj_l, kj_n, cat_n, cat_i, cat_a, cat_u, cat_l, vc_i, vc_a, rv_s, tl_n, tl_s, Cal'_s, List.length_cons, List.length_nil, i0, i1, iNd, iN_lt, iN_le, iN_eq, iN_add, iN_mul, iN_mod, iN_sub, iN_div, iN_clamp, iN_inb, zle_N, zlt_N, zN_le, zN_lt, zN_eq, Nz_eq, mI_t, mI_f, bI_0, bI_1, bI_t, bI_f, dltT, dltF, dleT, dleF, deqT, deqF, Nat.not_lt_zero, not_true_eq_false, not_false_eq_true, true_and, and_true, false_and, and_false, or_true, true_or, false_or, or_false, and_self, if_true, if_false, Classical.not_not, Nat.add_assoc, Nat.zero_add, Nat.add_zero, bI_or, bI_True, bI_False, Bool.false_eq_true, reduceCtorEq, eq_self, gi_si, gl_si, gr_si, hn_si, hL_si, hX_si, gi_sl, gl_sl, gr_sl, hn_sl, ob_si, ar_si, ob_sl, ar_sl, ks_263_0, ks_263_1, ks_263_2, ks_263_3, d1, d2, oO_1, Cal_eq r2, oO_2, Cal_eq r3, Cal_eq r4, l0, q0])
              exact hn2
            · (refine wp_go 600 ks_263_1.2.2.2.2.2.2.1 ?_; simp (disch := first | with_reducible assumption | omega | (simp only [ob_si, ar_si, ob_sl, ar_sl]; with_reducible assumption)) only [ci_0, ci_1, ci_6, cm_1, cm_9, iN_l, inc_i, jN_add, jN_div, jN_eq, jN_le, jN_lt, jN_mod, jN_mul, jN_sub, l0, lc_eq, lc_ge, lc_gt, lc_le, lc_lt, ldA_a, ldI_i, oc_201, oc_236, oc_237, oc_257, oc_258, oc_261, oc_262, r_0, r_10, r_11, r_12, r_2, r_27, r_3, r_30, r_31, r_32, r_33, r_34, r_6, r_60, r_62, r_63, r_7, r_70, r_80_1, r_80_2, r_81_3, r_9, r_90, wpn_S, wpn_zero, stp_h, lk_0, lk_s, st1_0, st1_1, st1_2, st2_0, st2_1, st2_2, kj_i, kj_a, kj_l, kj_n, cat_n, cat_i, cat_a, cat_u, cat_l, vc_i, vc_a, rv_s, tl_n, tl_s, Cal'_s, List.length_cons, List.length_nil, i0, i1, iNd, iN_lt, iN_le, iN_eq, iN_add, iN_mul, iN_mod, iN_sub, iN_div, iN_clamp, iN_inb, zle_N, zlt_N, zN_le, zN_lt, zN_eq, Nz_eq, mI_t, mI_f, bI_0, bI_1, bI_t, bI_f, dltT, dltF, dleT, dleF, deqT, deqF, Nat.not_lt_zero, not_true_eq_false, not_false_eq_true, true_and, and_true, false_and, and_false, or_true, true_or, false_or, or_false, and_self, if_true, if_false, Classical.not_not, Nat.add_assoc, Nat.zero_add, Nat.add_zero, bI_or, bI_True, bI_False, Bool.false_eq_true, reduceCtorEq, eq_self, gi_si, gl_si, gr_si, hn_si, hL_si, hX_si, gi_sl, gl_sl, gr_sl, hn_sl, ob_si, ar_si, ob_sl, ar_sl, ks_263_0, ks_263_1, ks_263_2, ks_263_3, d1, d2, oO_1, Cal_eq r2, oO_2, Cal_eq r3, Cal_eq r4, l0])
              exact hn2
        · rintro w h1 ⟨ha, _, K1, P1, F1⟩
          have B1 := F1.bs hB
          have oO_1 := (O_facts B1).1
          obtain ⟨h2, r2, A2, K2, f2⟩ := wo_again B1 K1
          have B2 := f2.bs B1
          have P2 := Pl_98 P1 f2
          have hQ := hQ h2 A2 P2 (F1.tr (Fo_p98 f2))
          rw [pg_eq]
          (refine wp_go 600 ks_263_1.2.2.2.2.2.2.1 ?_; simp (disch := first | with_reducible assumption | omega | (simp only [ob_si, ar_si, ob_sl, ar_sl]; with_reducible assumption)) only [ci_0, ci_1, ci_6, cm_1, cm_9, iN_l, iN_m1, inc_i, jN_add, jN_div, jN_eq, jN_le, jN_lt, jN_mod, jN_mul, jN_sub, l0, lc_eq, lc_ge, lc_gt, lc_le, lc_lt, ldA_a, ldI_i, oc_201, oc_236, oc_237, oc_257, oc_258, oc_261, oc_262, r_0, r_10, r_11, r_12, r_2, r_27, r_3, r_30, r_31, r_32, r_33, r_34, r_6, r_60, r_62, r_63, r_7, r_70, r_80_1, r_80_2, r_81_3, r_9, r_90, wpn_S, wpn_zero, stp_h, lk_0, lk_s, st1_0, st1_1, st1_2, st2_0, st2_1, st2_2, kj_i, kj_a, kj_l, kj_n, cat_n, cat_i, cat_a, cat_u, cat_l, vc_i, vc_a, rv_s, tl_n, tl_s, Cal'_s, List.length_cons, List.length_nil, i0, i1, iNd, iN_lt, iN_le, iN_eq, iN_add, iN_mul, iN_mod, iN_sub, iN_div, iN_clamp, iN_inb, zle_N, zlt_N, zN_le, zN_lt, zN_eq, Nz_eq, mI_t, mI_f, bI_0, bI_1, bI_t, bI_f, dltT, dltF, dleT, dleF, deqT, deqF, Nat.not_lt_zero, not_true_eq_false, not_false_eq_true, true_and, and_true, false_and, and_false, or_true, true_or, false_or, or_false, and_self, if_true, if_false, Classical.not_not, Nat.add_assoc, Nat.zero_add, Nat.add_zero, bI_or, bI_True, bI_False, Bool.false_eq_true, reduceCtorEq, eq_self, gi_si, gl_si, gr_si, hn_si, hL_si, hX_si, gi_sl, gl_sl, gr_sl, hn_sl, ob_si, ar_si, ob_sl, ar_sl, ks_263_0, ks_263_1, ks_263_2, ks_263_3, dI_e, oO_1, Cal_eq r2])
          exact hQ
      obtain ⟨v, h', r, rfl, A, P, f⟩ := Ret_ex (d := 5) (y := 263) (as := [.ref 87, .int (zI (-1))]) [some (.ref 87), some (.int (zI (-1))), none, none, none, none] rfl rfl (key (fun v h' => v = some (.int (iN (steN x))) ∧ Ao h' x ∧ Pl h' (xN x) ∧ Fo Syp Fyp h h') fun h' a b c => ⟨rfl, a, b, c⟩)
      exact ⟨h', Ret.up (d := 5) r (by decide), A, P.pd hW.1, f⟩
  · by_cases hP : isP (xN (gX s)) a
    · obtain ⟨q, hi, rfl⟩ := hP
      refine op_queryP hs (v := .int (stxV (gX s) q)) (fun h hB hI => ?_) (fun h hB hI => ?_)
      · obtain ⟨oF, g0, g1, g2, g4, g5, g6, g7, g8, g9, g10, g11, g12, g13, o21, o22, o23, o28, o29, o32, o34, o36, oM⟩ := F_facts hB; obtain ⟨hA, iI, ⟨nx, hP⟩, hR, hL, hF, hT⟩ := id hI; have hW := hs.1; have hm : isM 1 := Or.inl rfl; have wN := hW.1
        obtain ⟨h1, r1, f1⟩ := p_mate hB hA hW hi
        refine ⟨h1, Ret.up (d := 13) ?_ (by decide), Fr_zp f1⟩
        refine Ret_L [some (.ref 0), some (.int (iN q))] rfl rfl fun Q hQ => ?_
        (refine wp_go 600 ks_163_0.1 ?_; simp (disch := first | with_reducible assumption | omega | (simp only [ob_si, ar_si, ob_sl, ar_sl]; with_reducible assumption)) only [cm_1, ldA_a, ldI_i, oc_191, oc_25, oc_78, oc_79, r_0, r_2, r_30, r_32, r_41, r_42, r_6, r_62, r_80_1, r_80_2, r_90, wpn_S, wpn_zero, stp_h, lk_0, lk_s, st1_0, st1_1, st1_2, st2_0, st2_1, st2_2, kj_i, kj_a, kj_l, kj_n, cat_n, cat_i, cat_a, cat_u, cat_l, vc_i, vc_a, rv_s, tl_n, tl_s, Cal'_s, List.length_cons, List.length_nil, i0, i1, iNd, iN_lt, iN_le, iN_eq, iN_add, iN_mul, iN_mod, iN_sub, iN_div, iN_clamp, iN_inb, zle_N, zlt_N, zN_le, zN_lt, zN_eq, Nz_eq, mI_t, mI_f, bI_0, bI_1, bI_t, bI_f, dltT, dltF, dleT, dleF, deqT, deqF, Nat.not_lt_zero, not_true_eq_false, not_false_eq_true, true_and, and_true, false_and, and_false, or_true, true_or, false_or, or_false, and_self, if_true, if_false, Classical.not_not, Nat.add_assoc, Nat.zero_add, Nat.add_zero, bI_or, bI_True, bI_False, Bool.false_eq_true, reduceCtorEq, eq_self, gi_si, gl_si, gr_si, hn_si, hL_si, hX_si, gi_sl, gl_sl, gr_sl, hn_sl, ob_si, ar_si, ob_sl, ar_sl, ks_163_0, oF, g0, g1, g2, g4, g5, g6, g7, g8, g9, g10, g11, g12, g13, o21, o22, o23, o28, o29, o32, o34, o36, oM, oM, c_hasT_q hm hB hA hW, Cal_eq r1])
        exact hQ
      · have oO := (O_facts hB).1; obtain ⟨hA, hIr, f0⟩ := IO_0 hI; replace hB := Bs.si hB 87 7 (iN 0); have hW := hs.1; obtain ⟨oO2, rO1, rO2, rO3, rO4, rO5, rO8, aO1, aO2, aO3, aO4, aO5, aO8, sO1, sO2, sO3, sO4, sO5, sO8⟩ := O_facts hB; obtain ⟨fN, fD, fK, fF, fH, fM, fQ⟩ := id hA; obtain ⟨wN, wK, wF, wH, wM, wQ, wS, wZ, wT⟩ := id hW
        generalize gX s = x at *
        have key : ∀ Q : Option Value → Hp → Prop, (∀ h', Ao h' x → Pl h' (xN x) → Fo Syp Fyp h h' → Q (some (.int (stxV x q))) h') → wp 5 263 0 [some (.ref 87), some (.int (iN q)), none, none, none, none] [] h Q := by
          intro Q hQ
          have hcw := wyL_le (xN x) (by omega)
          obtain ⟨h0, r0, P0, g0⟩ := wo_lay hB hA hW hIr.2.2.2.2.2
          have B0 := g0.bs hB
          have A0 := hA.fr g0 (by intro o _ _; unfold Sl2; omega) (by unfold Fl2; omega) (by unfold Fl2; omega)
          have oO_0 := (O_facts B0).1
          obtain ⟨h1, r1, A1, K1, f1⟩ := wo_think B0 A0
          have P1 := Pl_98 P0 f1
          have F1 : Fo Syp Fyp h h1 := ((Fo_py f0).tr (Fo_pl g0)).tr (Fo_p98 f1)
          have B1 := f1.bs B0
          have oO_1 := (O_facts B1).1
          have c1 : gi h1 87 27 = iN (cw (xN x)) := P1.2.1
          (refine wp_go 600 ks_263_0.1 ?_; simp (disch := first | with_reducible assumption | omega | (simp only [ob_si, ar_si, ob_sl, ar_sl]; with_reducible assumption)) only [ci_0, ci_1, ci_6, cm_1, cm_9, iN_l, iN_m1, inc_i, jN_add, jN_div, jN_eq, jN_le, jN_lt, jN_mod, jN_mul, jN_sub, l0, lc_eq, lc_ge, lc_gt, lc_le, lc_lt, ldA_a, ldI_i, oc_201, oc_236, oc_237, oc_257, oc_258, oc_261, oc_262, r_0, r_10, r_11, r_12, r_2, r_27, r_3, r_30, r_31, r_32, r_33, r_34, r_6, r_60, r_62, r_63, r_7, r_70, r_80_1, r_80_2, r_81_3, r_9, r_90, wpn_S, wpn_zero, stp_h, lk_0, lk_s, st1_0, st1_1, st1_2, st2_0, st2_1, st2_2, kj_i, kj_a, kj_l, kj_n, cat_n, cat_i, cat_a, cat_u, cat_l, vc_i, vc_a, rv_s, tl_n, tl_s, Cal'_s, List.length_cons, List.length_nil, i0, i1, iNd, iN_lt, iN_le, iN_eq, iN_add, iN_mul, iN_mod, iN_div, iN_clamp, iN_inb, zle_N, zlt_N, zN_le, zN_lt, zN_eq, Nz_eq, mI_t, mI_f, bI_0, bI_1, bI_t, bI_f, dltT, dltF, dleT, dleF, deqT, deqF, Nat.not_lt_zero, not_true_eq_false, not_false_eq_true, true_and, and_true, false_and, and_false, or_true, true_or, false_or, or_false, and_self, if_true, if_false, Classical.not_not, Nat.add_assoc, Nat.zero_add, Nat.add_zero, bI_or, bI_True, bI_False, Bool.false_eq_true, reduceCtorEq, eq_self, gi_si, gl_si, gr_si, hn_si, hL_si, hX_si, gi_sl, gl_sl, gr_sl, hn_sl, ob_si, ar_si, ob_sl, ar_sl, ks_263_0, ks_263_1, ks_263_2, ks_263_3, oO, oO2, rO1, rO2, rO3, rO4, rO5, rO8, aO1, aO2, aO3, aO4, aO5, aO8, fN, fD, fK, fF, fH, fM, fQ, o_in_q trivial, in_m1, in_z, in_zn, in_q, in_qn, isP_N, Cal_eq r0, oO_0, Cal_eq r1, oO_1, c1, dI_0 (cw (xN x))])
          refine wp_foldH (fun i (a : Nat × Option Nat) (w : Option Value) => [some (.ref 87), some (.int (iN q)), some (.int (iN a.1)), some (.int (oI a.2)), some (.int (dI (cw (xN x)) i)), w]) (pgS x) (fun i a h' => a.1 ≤ i ∧ (∃ y, Ao h' y ∧ Ag x y ∧ Wf y) ∧ Kx h' 98 x ∧ Pl h' (xN x) ∧ Fo Syp Fyp h h') (cw (xN x)) ?_ (cw (xN x)) 0 (0, none) none h1 (by omega) ⟨Nat.le_refl _, ⟨x, A1, Ag.rf x, hW⟩, K1, P1, F1⟩ ?_
          · rintro i a w h1 hi ⟨ha, ⟨y, A1, gy, Wy⟩, K1, P1, F1⟩ hn
            have B1 := F1.bs hB
            have oO_1 := (O_facts B1).1
            obtain ⟨k, hk⟩ : ∃ k, k = cw (xN x) - 1 - i := ⟨_, rfl⟩
            have hkc : k < cw (xN x) := by omega
            have yN : xN y = xN x := gy.1
            obtain ⟨h2, r2, A2, f2⟩ := wo_pair (x := y) (k := k) B1 A1 Wy (by rw [yN]; exact P1) (by rw [yN]; exact hkc)
            have eps : psM y k = psM x k := by
              obtain ⟨g1, g2, g3, g4, g5, g6, g7⟩ := gy
              refine Mt_ext g1 g2 g3 g4 g5 ?_ g6
              funext p
              show (if p < xN y then wy (xN y) k p else xM y p) = (if p < xN x then wy (xN x) k p else xM x p)
              rw [g1]
              by_cases hp : p < xN x
              · rw [if_pos hp, if_pos hp]
              · rw [if_neg hp, if_neg hp]; exact g7 p (by omega)
            rw [eps] at A2
            have B2 := f2.bs B1
            have oO_2 := (O_facts B2).1
            have W2 := wf_ps hW hkc
            have r3 := o_lvT B2 A2 W2
            have r4 := o_rid B2 A2 W2
            have b3 := lvT_b W2
            have b4 := ridF_lt W2
            have hst := ste_iff (psM x k)
            change (_ ↔ steP x k) at hst
            have d1 : dI (cw (xN x)) i = iN k := by rw [dI_t hi, ← hk]
            have d2 : iN k + zI (-1) = dI (cw (xN x)) (i + 1) := by rw [hk]; exact dI_s hi
            have hn2 := fun w' hle => hn w' h2 ⟨hle, ⟨psM x k, A2, Ag_ps x k, W2⟩, K1.fr f2 (by unfold Sq; omega) (by omega), Pl_q P1 f2, F1.tr (Fo_pq f2)⟩
            rw [pgS, show cw (xN x) + 0 - 1 - i = k by omega] at hn2
            unfold dnF at hn2
            rw [show cw (xN x) + 0 - 1 - i = k by omega] at hn2
            by_cases hs : steP x k
            · obtain ⟨l0, q0⟩ := hst.mpr hs
              rw [steS_t hs, stxF_t hs] at hn2
              have hn2 := hn2 (some (.int (iN 1))) (show a.1 + 1 ≤ i + 1 by omega)
              (refine wp_go 600 ks_263_1.2.2.2.2.2.2.1 ?_; simp (disch := first | with_reducible assumption | omega | (simp only [ob_si, ar_si, ob_sl, ar_sl]; with_reducible assumption)) only [ci_0, ci_1, ci_6, cm_1, cm_9, iN_l, inc_i, jN_add, jN_div, jN_eq, jN_le, jN_lt, jN_mod, jN_mul, jN_sub, l0, lc_eq, lc_ge, lc_gt, lc_le, lc_lt, ldA_a, ldI_i, oc_201, oc_236, oc_237, oc_257, oc_258, oc_261, oc_262, r_0, r_10, r_11, r_12, r_2, r_27, r_3, r_30, r_31, r_32, r_33, r_34, r_6, r_60, r_62, r_63, r_7, r_70, r_80_1, r_80_2, r_81_3, r_9, r_90, wpn_S, wpn_zero, stp_h, lk_0, lk_s, st1_0, st1_1, st1_2, st2_0, st2_1, st2_2, kj_i, kj_a, kj_l, kj_n, cat_n, cat_i, cat_a, cat_u, cat_l, vc_i, vc_a, rv_s, tl_n, tl_s, Cal'_s, List.length_cons, List.length_nil, i0, i1, iNd, iN_lt, iN_le, iN_eq, iN_add, iN_mul, iN_mod, iN_sub, iN_div, iN_clamp, iN_inb, zle_N, zlt_N, zN_le, zN_lt, zN_eq, Nz_eq, mI_t, mI_f, bI_0, bI_1, bI_t, bI_f, dltT, dltF, dleT, dleF, deqT, deqF, Nat.not_lt_zero, not_true_eq_false, not_false_eq_true, true_and, and_true, false_and, and_false, or_true, true_or, false_or, or_false, and_self, if_true, if_false, Classical.not_not, Nat.add_assoc, Nat.zero_add, Nat.add_zero, bI_or, bI_True, bI_False, Bool.false_eq_true, reduceCtorEq, eq_self, gi_si, gl_si, gr_si, hn_si, hL_si, hX_si, gi_sl, gl_sl, gr_sl, hn_sl, ob_si, ar_si, ob_sl, ar_sl, ks_263_0, ks_263_1, ks_263_2, ks_263_3, d1, d2, oO_1, Cal_eq r2, oO_2, Cal_eq r3, Cal_eq r4, l0, q0])
              exact hn2
            · rw [steS_f hs, stxF_f hs] at hn2
              have hn2 := hn2 (some (.int (iN 0))) (show a.1 ≤ i + 1 by omega)
              by_cases l0 : lvT (psM x k) = 0
              · have q0 : ¬ ridF (psM x k) = 0 := fun e => hs (hst.mp ⟨l0, e⟩)
                (refine wp_go 600 ks_263_1.2.2.2.2.2.2.1 ?_; simp (disch := first | with_reducible assumption | omega | (simp only [ob_si, ar_si, ob_sl, ar_sl]; with_reducible assumption)) only [ci_0, ci_1, ci_6, cm_1, cm_9, iN_l, inc_i, jN_add, jN_div, jN_eq, jN_le, jN_lt, jN_mod, jN_mul, jN_sub, l0, lc_eq, lc_ge, lc_gt, lc_le, lc_lt, ldA_a, ldI_i, oc_201, oc_236, oc_237, oc_257, oc_258, oc_261, oc_262, r_0, r_10, r_11, r_12, r_2, r_27, r_3, r_30, r_31, r_32, r_33, r_34, r_6, r_60, r_62, r_63, r_7, r_70, r_80_1, r_80_2, r_81_3, r_9, r_90, wpn_S, wpn_zero, stp_h, lk_0, lk_s, st1_0, st1_1, st1_2, st2_0, st2_1, st2_2, kj_i, kj_a, kj_l, kj_n, cat_n, cat_i, cat_a, cat_u, cat_l, vc_i, vc_a, rv_s, tl_n, tl_s, Cal'_s, List.length_cons, List.length_nil, i0, i1, iNd, iN_lt, iN_le, iN_eq, iN_add, iN_mul, iN_mod, iN_sub, iN_div, iN_clamp, iN_inb, zle_N, zlt_N, zN_le, zN_lt, zN_eq, Nz_eq, mI_t, mI_f, bI_0, bI_1, bI_t, bI_f, dltT, dltF, dleT, dleF, deqT, deqF, Nat.not_lt_zero, not_true_eq_false, not_false_eq_true, true_and, and_true, false_and, and_false, or_true, true_or, false_or, or_false, and_self, if_true, if_false, Classical.not_not, Nat.add_assoc, Nat.zero_add, Nat.add_zero, bI_or, bI_True, bI_False, Bool.false_eq_true, reduceCtorEq, eq_self, gi_si, gl_si, gr_si, hn_si, hL_si, hX_si, gi_sl, gl_sl, gr_sl, hn_sl, ob_si, ar_si, ob_sl, ar_sl, ks_263_0, ks_263_1, ks_263_2, ks_263_3, d1, d2, oO_1, Cal_eq r2, oO_2, Cal_eq r3, Cal_eq r4, l0, q0])
                exact hn2
              · (refine wp_go 600 ks_263_1.2.2.2.2.2.2.1 ?_; simp (disch := first | with_reducible assumption | omega | (simp only [ob_si, ar_si, ob_sl, ar_sl]; with_reducible assumption)) only [ci_0, ci_1, ci_6, cm_1, cm_9, iN_l, inc_i, jN_add, jN_div, jN_eq, jN_le, jN_lt, jN_mod, jN_mul, jN_sub, l0, lc_eq, lc_ge, lc_gt, lc_le, lc_lt, ldA_a, ldI_i, oc_201, oc_236, oc_237, oc_257, oc_258, oc_261, oc_262, r_0, r_10, r_11, r_12, r_2, r_27, r_3, r_30, r_31, r_32, r_33, r_34, r_6, r_60, r_62, r_63, r_7, r_70, r_80_1, r_80_2, r_81_3, r_9, r_90, wpn_S, wpn_zero, stp_h, lk_0, lk_s, st1_0, st1_1, st1_2, st2_0, st2_1, st2_2, kj_i, kj_a, kj_l, kj_n, cat_n, cat_i, cat_a, cat_u, cat_l, vc_i, vc_a, rv_s, tl_n, tl_s, Cal'_s, List.length_cons, List.length_nil, i0, i1, iNd, iN_lt, iN_le, iN_eq, iN_add, iN_mul, iN_mod, iN_sub, iN_div, iN_clamp, iN_inb, zle_N, zlt_N, zN_le, zN_lt, zN_eq, Nz_eq, mI_t, mI_f, bI_0, bI_1, bI_t, bI_f, dltT, dltF, dleT, dleF, deqT, deqF, Nat.not_lt_zero, not_true_eq_false, not_false_eq_true, true_and, and_true, false_and, and_false, or_true, true_or, false_or, or_false, and_self, if_true, if_false, Classical.not_not, Nat.add_assoc, Nat.zero_add, Nat.add_zero, bI_or, bI_True, bI_False, Bool.false_eq_true, reduceCtorEq, eq_self, gi_si, gl_si, gr_si, hn_si, hL_si, hX_si, gi_sl, gl_sl, gr_sl, hn_sl, ob_si, ar_si, ob_sl, ar_sl, ks_263_0, ks_263_1, ks_263_2, ks_263_3, d1, d2, oO_1, Cal_eq r2, oO_2, Cal_eq r3, Cal_eq r4, l0])
                exact hn2
          · rintro w h1 ⟨ha, _, K1, P1, F1⟩
            have B1 := F1.bs hB
            have oO_1 := (O_facts B1).1
            obtain ⟨h2, r2, A2, K2, f2⟩ := wo_again B1 K1
            have B2 := f2.bs B1
            have P2 := Pl_98 P1 f2
            have hQ := hQ h2 A2 P2 (F1.tr (Fo_p98 f2))
            rw [pg_eq]
            unfold stxV at hQ
            cases ho : stxO x with
            | none =>
              rw [ho] at hQ
              simp only [oI]
              (refine wp_go 600 ks_263_1.2.2.2.2.2.2.1 ?_; simp (disch := first | with_reducible assumption | omega | (simp only [ob_si, ar_si, ob_sl, ar_sl]; with_reducible assumption)) only [ci_0, ci_1, ci_6, cm_1, cm_9, iN_l, iN_m1, inc_i, jN_add, jN_div, jN_eq, jN_le, jN_lt, jN_mod, jN_mul, jN_sub, l0, lc_eq, lc_ge, lc_gt, lc_le, lc_lt, ldA_a, ldI_i, oc_201, oc_236, oc_237, oc_257, oc_258, oc_261, oc_262, r_0, r_10, r_11, r_12, r_2, r_27, r_3, r_30, r_31, r_32, r_33, r_34, r_6, r_60, r_62, r_63, r_7, r_70, r_80_1, r_80_2, r_81_3, r_9, r_90, wpn_S, wpn_zero, stp_h, lk_0, lk_s, st1_0, st1_1, st1_2, st2_0, st2_1, st2_2, kj_i, kj_a, kj_l, kj_n, cat_n, cat_i, cat_a, cat_u, cat_l, vc_i, vc_a, rv_s, tl_n, tl_s, Cal'_s, List.length_cons, List.length_nil, i0, i1, iNd, iN_lt, iN_le, iN_eq, iN_add, iN_mul, iN_mod, iN_sub, iN_div, iN_clamp, iN_inb, zle_N, zlt_N, zN_le, zN_lt, zN_eq, Nz_eq, mI_t, mI_f, bI_0, bI_1, bI_t, bI_f, dltT, dltF, dleT, dleF, deqT, deqF, Nat.not_lt_zero, not_true_eq_false, not_false_eq_true, true_and, and_true, false_and, and_false, or_true, true_or, false_or, or_false, and_self, if_true, if_false, Classical.not_not, Nat.add_assoc, Nat.zero_add, Nat.add_zero, bI_or, bI_True, bI_False, Bool.false_eq_true, reduceCtorEq, eq_self, gi_si, gl_si, gr_si, hn_si, hL_si, hX_si, gi_sl, gl_sl, gr_sl, hn_sl, ob_si, ar_si, ob_sl, ar_sl, ks_263_0, ks_263_1, ks_263_2, ks_263_3, dI_e, oO_1, Cal_eq r2])
              exact hQ
            | some k =>
              rw [ho] at hQ
              have hk := stxO_lt ho
              have oO_2 := (O_facts B2).1
              have e26 : gr h2 87 26 = some 102 := B2.r (by decide)
              have g102 : ar h2 1 102 := B2.ar (by decide) (by decide)
              have s102 : (SH 102).2 = 456 := by decide
              have w1 := P2.2.2 k hk q hi
              simp only [oI]
              (refine wp_go 600 ks_263_1.2.2.2.2.2.2.1 ?_; simp (disch := first | with_reducible assumption | omega | (simp only [ob_si, ar_si, ob_sl, ar_sl]; with_reducible assumption)) only [ci_0, ci_1, ci_6, cm_1, cm_9, iN_l, iN_m1, inc_i, jN_add, jN_div, jN_eq, jN_le, jN_lt, jN_mod, jN_mul, jN_sub, l0, lc_eq, lc_ge, lc_gt, lc_le, lc_lt, ldA_a, ldI_i, oc_201, oc_236, oc_237, oc_257, oc_258, oc_261, oc_262, r_0, r_10, r_11, r_12, r_2, r_27, r_3, r_30, r_31, r_32, r_33, r_34, r_6, r_60, r_62, r_63, r_7, r_70, r_80_1, r_80_2, r_81_3, r_9, r_90, wpn_S, wpn_zero, stp_h, lk_0, lk_s, st1_0, st1_1, st1_2, st2_0, st2_1, st2_2, kj_i, kj_a, kj_l, kj_n, cat_n, cat_i, cat_a, cat_u, cat_l, vc_i, vc_a, rv_s, tl_n, tl_s, Cal'_s, List.length_cons, List.length_nil, i0, i1, iNd, iN_lt, iN_le, iN_eq, iN_add, iN_mul, iN_mod, iN_sub, iN_div, iN_clamp, iN_inb, zle_N, zlt_N, zN_le, zN_lt, zN_eq, Nz_eq, bI_0, bI_1, bI_t, bI_f, dltT, dltF, dleT, dleF, deqT, deqF, Nat.not_lt_zero, not_true_eq_false, not_false_eq_true, true_and, and_true, false_and, and_false, or_true, true_or, false_or, or_false, and_self, if_true, if_false, Classical.not_not, Nat.add_assoc, Nat.zero_add, Nat.add_zero, bI_or, bI_True, bI_False, Bool.false_eq_true, reduceCtorEq, eq_self, gi_si, gl_si, gr_si, hn_si, hL_si, hX_si, gi_sl, gl_sl, gr_sl, hn_sl, ob_si, ar_si, ob_sl, ar_sl, ks_263_0, ks_263_1, ks_263_2, ks_263_3, dI_e, oO_1, Cal_eq r2, oO_2, e26, g102, s102, w1])
              exact hQ
        obtain ⟨v, h', r, rfl, A, P, f⟩ := Ret_ex (d := 5) (y := 263) (as := [.ref 87, .int (iN q)]) [some (.ref 87), some (.int (iN q)), none, none, none, none] rfl rfl (key (fun v h' => v = some (.int (stxV x q)) ∧ Ao h' x ∧ Pl h' (xN x) ∧ Fo Syp Fyp h h') fun h' a b c => ⟨rfl, a, b, c⟩)
        exact ⟨h', Ret.up (d := 5) r (by decide), A, P.pd hW.1, f⟩
    · have hPm : ¬ (a = zI (-1) ∨ isP (xN (gX s)) a) := fun e => e.elim hm1 hP
      refine op_refuse hs (k := 1) (by decide) (v := .int (zI (-1))) (fun h hB hI => Ret.up (d := 13) ?_ (by decide)) (fun h hB hI => Ret.up (d := 5) ?_ (by decide))
      · obtain ⟨oF, g0, g1, g2, g4, g5, g6, g7, g8, g9, g10, g11, g12, g13, o21, o22, o23, o28, o29, o32, o34, o36, oM⟩ := F_facts hB; obtain ⟨hA, iI, ⟨nx, hP⟩, hR, hL, hF, hT⟩ := id hI; have hW := hs.1; have hm : isM 1 := Or.inl rfl; have wN := hW.1
        refine Ret_L [some (.ref 0), some (.int a)] rfl rfl fun Q hQ => ?_
        (refine wp_go 600 ks_163_0.1 ?_; simp (disch := first | with_reducible assumption | omega | (simp only [ob_si, ar_si, ob_sl, ar_sl]; with_reducible assumption)) only [cm_1, ldA_a, ldI_i, oc_191, oc_25, oc_78, oc_79, r_0, r_2, r_30, r_32, r_41, r_42, r_6, r_62, r_80_1, r_80_2, r_90, wpn_S, wpn_zero, stp_h, lk_0, lk_s, st1_0, st1_1, st1_2, st2_0, st2_1, st2_2, kj_i, kj_a, kj_l, kj_n, cat_n, cat_i, cat_a, cat_u, cat_l, vc_i, vc_a, rv_s, tl_n, tl_s, Cal'_s, List.length_cons, List.length_nil, i0, i1, iNd, iN_lt, iN_le, iN_eq, iN_add, iN_mul, iN_mod, iN_sub, iN_div, iN_clamp, iN_inb, zle_N, zlt_N, zN_le, zN_lt, zN_eq, Nz_eq, mI_t, mI_f, bI_0, bI_1, bI_t, bI_f, dltT, dltF, dleT, dleF, deqT, deqF, Nat.not_lt_zero, not_true_eq_false, not_false_eq_true, true_and, and_true, false_and, and_false, or_true, true_or, false_or, or_false, and_self, if_true, if_false, Classical.not_not, Nat.add_assoc, Nat.zero_add, Nat.add_zero, bI_or, bI_True, bI_False, Bool.false_eq_true, reduceCtorEq, eq_self, gi_si, gl_si, gr_si, hn_si, hL_si, hX_si, gi_sl, gl_sl, gr_sl, hn_sl, ob_si, ar_si, ob_sl, ar_sl, ks_163_0, oF, g0, g1, g2, g4, g5, g6, g7, g8, g9, g10, g11, g12, g13, o21, o22, o23, o28, o29, o32, o34, o36, oM, oM, c_hasF_q hm hB hA hW, hP, hm1, c_ref1_q hB])
        exact hQ
      · have oO := (O_facts hB).1; obtain ⟨hA, hIr, f0⟩ := IO_0 hI; replace hB := Bs.si hB 87 7 (iN 0); have hW := hs.1; obtain ⟨oO2, rO1, rO2, rO3, rO4, rO5, rO8, aO1, aO2, aO3, aO4, aO5, aO8, sO1, sO2, sO3, sO4, sO5, sO8⟩ := O_facts hB; obtain ⟨fN, fD, fK, fF, fH, fM, fQ⟩ := id hA; obtain ⟨wN, wK, wF, wH, wM, wQ, wS, wZ, wT⟩ := id hW
        refine Ret_L [some (.ref 87), some (.int a), none, none, none, none] rfl rfl fun Q hQ => ?_
        (refine wp_go 600 ks_263_0.1 ?_; simp (disch := first | with_reducible assumption | omega | (simp only [ob_si, ar_si, ob_sl, ar_sl]; with_reducible assumption)) only [ci_0, ci_1, ci_6, cm_1, cm_9, iN_l, iN_m1, inc_i, jN_add, jN_div, jN_eq, jN_le, jN_lt, jN_mod, jN_mul, jN_sub, l0, lc_eq, lc_ge, lc_gt, lc_le, lc_lt, ldA_a, ldI_i, oc_201, oc_236, oc_237, oc_257, oc_258, oc_261, oc_262, r_0, r_10, r_11, r_12, r_2, r_27, r_3, r_30, r_31, r_32, r_33, r_34, r_6, r_60, r_62, r_63, r_7, r_70, r_80_1, r_80_2, r_81_3, r_9, r_90, wpn_S, wpn_zero, stp_h, lk_0, lk_s, st1_0, st1_1, st1_2, st2_0, st2_1, st2_2, kj_i, kj_a, kj_l, kj_n, cat_n, cat_i, cat_a, cat_u, cat_l, vc_i, vc_a, rv_s, tl_n, tl_s, Cal'_s, List.length_cons, List.length_nil, i0, i1, iNd, iN_lt, iN_le, iN_eq, iN_add, iN_mul, iN_mod, iN_div, iN_clamp, iN_inb, zle_N, zlt_N, zN_le, zN_lt, zN_eq, Nz_eq, mI_t, mI_f, bI_0, bI_1, bI_t, bI_f, dltT, dltF, dleT, dleF, deqT, deqF, Nat.not_lt_zero, not_true_eq_false, not_false_eq_true, true_and, and_true, false_and, and_false, or_true, true_or, false_or, or_false, and_self, if_true, if_false, Classical.not_not, Nat.add_assoc, Nat.zero_add, Nat.add_zero, bI_or, bI_True, bI_False, Bool.false_eq_true, reduceCtorEq, eq_self, gi_si, gl_si, gr_si, hn_si, hL_si, hX_si, gi_sl, gl_sl, gr_sl, hn_sl, ob_si, ar_si, ob_sl, ar_sl, ks_263_0, ks_263_1, ks_263_2, ks_263_3, oO, oO, oO2, rO1, rO2, rO3, rO4, rO5, rO8, aO1, aO2, aO3, aO4, aO5, aO8, fN, fD, fK, fF, fH, fM, fQ, o_in_q trivial, in_m1, hm1, hP, o_ref1_q hB])
        exact hQ
set_option maxHeartbeats 8000000 in
theorem op_bestPairing {s : Gs} (hs : GW s) (a b : Int32) : OpOk 164 264 [.int a, .int b] s := by
  by_cases hm1 : b = zI (-1)
  · subst hm1
    by_cases b0 : a < iN 0
    · obtain ⟨b1, b2⟩ := raw_lt b0
      refine op_refuse hs (k := 4) (by decide) (v := .int (zI (-4))) (fun h hB hI => Ret.up (d := 13) ?_ (by decide)) (fun h hB hI => Ret.up (d := 4) ?_ (by decide))
      · obtain ⟨oF, g0, g1, g2, g4, g5, g6, g7, g8, g9, g10, g11, g12, g13, o21, o22, o23, o28, o29, o32, o34, o36, oM⟩ := F_facts hB; obtain ⟨hA, iI, ⟨nx, hP⟩, hR, hL, hF, hT⟩ := id hI; have hW := hs.1; have hm : isM 1 := Or.inl rfl; have wN := hW.1
        refine Ret_L [some (.ref 0), some (.int a), some (.int (zI (-1)))] rfl rfl fun Q hQ => ?_
        (refine wp_go 600 ks_164_0.1 ?_; simp (disch := first | with_reducible assumption | omega | (simp only [ob_si, ar_si, ob_sl, ar_sl]; with_reducible assumption)) only [ci_99, cm_1, cm_4, cm_6, ldA_a, ldI_i, oc_191, oc_25, oc_82, oc_83, r_0, r_2, r_30, r_32, r_34, r_41, r_42, r_46, r_6, r_62, r_80_2, r_80_3, r_90, wpn_S, wpn_zero, stp_h, lk_0, lk_s, st1_0, st1_1, st1_2, st2_0, st2_1, st2_2, kj_i, kj_a, kj_l, kj_n, cat_n, cat_i, cat_a, cat_u, cat_l, vc_i, vc_a, rv_s, tl_n, tl_s, Cal'_s, List.length_cons, List.length_nil, i0, i1, iNd, iN_lt, iN_le, iN_eq, iN_add, iN_mul, iN_mod, iN_sub, iN_div, iN_clamp, iN_inb, zle_N, zlt_N, zN_le, zN_lt, zN_eq, Nz_eq, mI_t, mI_f, bI_0, bI_1, bI_t, bI_f, dltT, dltF, dleT, dleF, deqT, deqF, Nat.not_lt_zero, not_true_eq_false, not_false_eq_true, true_and, and_true, false_and, and_false, or_true, true_or, false_or, or_false, and_self, if_true, if_false, Classical.not_not, Nat.add_assoc, Nat.zero_add, Nat.add_zero, bI_or, bI_True, bI_False, Bool.false_eq_true, reduceCtorEq, eq_self, gi_si, gl_si, gr_si, hn_si, hL_si, hX_si, gi_sl, gl_sl, gr_sl, hn_sl, ob_si, ar_si, ob_sl, ar_sl, ks_164_0, ks_164_1, oF, g0, g1, g2, g4, g5, g6, g7, g8, g9, g10, g11, g12, g13, o21, o22, o23, o28, o29, o32, o34, o36, oM, b1, b2, c_ref4_q hB])
        exact hQ
      · have oO := (O_facts hB).1; obtain ⟨hA, hIr, f0⟩ := IO_0 hI; replace hB := Bs.si hB 87 7 (iN 0); have hW := hs.1; obtain ⟨oO2, rO1, rO2, rO3, rO4, rO5, rO8, aO1, aO2, aO3, aO4, aO5, aO8, sO1, sO2, sO3, sO4, sO5, sO8⟩ := O_facts hB; obtain ⟨fN, fD, fK, fF, fH, fM, fQ⟩ := id hA; obtain ⟨wN, wK, wF, wH, wM, wQ, wS, wZ, wT⟩ := id hW
        refine Ret_L [some (.ref 87), some (.int a), some (.int (zI (-1))), none, none, none, none, none] rfl rfl fun Q hQ => ?_
        (refine wp_go 600 ks_264_0.1 ?_; simp (disch := first | with_reducible assumption | omega | (simp only [ob_si, ar_si, ob_sl, ar_sl]; with_reducible assumption)) only [ci_0, ci_1, ci_6, ci_99, cm_1, iN_l, inc_i, jN_add, jN_div, jN_eq, jN_le, jN_lt, jN_mod, jN_mul, jN_sub, l0, lc_eq, lc_ge, lc_gt, lc_le, lc_lt, ldA_a, ldI_i, oc_201, oc_218, oc_219, oc_236, oc_237, oc_261, oc_262, r_0, r_10, r_11, r_12, r_2, r_27, r_3, r_30, r_31, r_33, r_34, r_44, r_6, r_60, r_62, r_63, r_7, r_70, r_80_1, r_80_2, r_81_3, r_9, r_90, wpn_S, wpn_zero, stp_h, lk_0, lk_s, st1_0, st1_1, st1_2, st2_0, st2_1, st2_2, kj_i, kj_a, kj_l, kj_n, cat_n, cat_i, cat_a, cat_u, cat_l, vc_i, vc_a, rv_s, tl_n, tl_s, Cal'_s, List.length_cons, List.length_nil, i0, i1, iNd, iN_lt, iN_le, iN_eq, iN_add, iN_mul, iN_mod, iN_div, iN_clamp, iN_inb, zle_N, zlt_N, zN_le, zN_lt, zN_eq, Nz_eq, mI_t, mI_f, bI_0, bI_1, bI_t, bI_f, dltT, dltF, dleT, dleF, deqT, deqF, Nat.not_lt_zero, not_true_eq_false, not_false_eq_true, true_and, and_true, false_and, and_false, or_true, true_or, false_or, or_false, and_self, if_true, if_false, Classical.not_not, Nat.add_assoc, Nat.zero_add, Nat.add_zero, bI_or, bI_True, bI_False, Bool.false_eq_true, reduceCtorEq, eq_self, gi_si, gl_si, gr_si, hn_si, hL_si, hX_si, gi_sl, gl_sl, gr_sl, hn_sl, ob_si, ar_si, ob_sl, ar_sl, ks_264_0, ks_264_1, ks_264_2, ks_264_3, oO, oO, oO2, rO1, rO2, rO3, rO4, rO5, rO8, aO1, aO2, aO3, aO4, aO5, aO8, fN, fD, fK, fF, fH, fM, fQ, o_in_q trivial, in_m1, in_z, in_zn, in_q, in_qn, isP_N, o_wn_q trivial, b1, b2, o_ref4_q hB])
        exact hQ
    · obtain ⟨b1, b2⟩ := raw_ge b0
      by_cases hn : isP 100 a
      · obtain ⟨n, hn, rfl⟩ := hn
        clear b0 b1 b2
        refine op_queryP hs (v := .int (zI ((allQ (gX s) : Int) + cbZ (gX s) n (bwN (gX s) n)))) (fun h hB hI => ?_) (fun h hB hI => ?_)
        · obtain ⟨oF, g0, g1, g2, g4, g5, g6, g7, g8, g9, g10, g11, g12, g13, o21, o22, o23, o28, o29, o32, o34, o36, oM⟩ := F_facts hB; obtain ⟨hA, iI, ⟨nx, hP⟩, hR, hL, hF, hT⟩ := id hI; have hW := hs.1; have hm : isM 1 := Or.inl rfl; have wN := hW.1
          obtain ⟨h1, r1, f1⟩ := p_least (d := n) hB hA hW (by omega)
          refine ⟨h1, Ret.up (d := 13) ?_ (by decide), Fr_zp f1⟩
          refine Ret_L [some (.ref 0), some (.int (iN n)), some (.int (zI (-1)))] rfl rfl fun Q hQ => ?_
          (refine wp_go 600 ks_164_0.1 ?_; simp (disch := first | with_reducible assumption | omega | (simp only [ob_si, ar_si, ob_sl, ar_sl]; with_reducible assumption)) only [ci_99, cm_1, cm_4, cm_6, ldA_a, ldI_i, oc_191, oc_25, oc_82, oc_83, r_0, r_2, r_30, r_32, r_34, r_41, r_42, r_46, r_6, r_62, r_80_2, r_80_3, r_90, wpn_S, wpn_zero, stp_h, lk_0, lk_s, st1_0, st1_1, st1_2, st2_0, st2_1, st2_2, kj_i, kj_a, kj_l, kj_n, cat_n, cat_i, cat_a, cat_u, cat_l, vc_i, vc_a, rv_s, tl_n, tl_s, Cal'_s, List.length_cons, List.length_nil, i0, i1, iNd, iN_lt, iN_le, iN_eq, iN_add, iN_mul, iN_mod, iN_sub, iN_div, iN_clamp, iN_inb, zle_N, zlt_N, zN_le, zN_lt, zN_eq, Nz_eq, mI_t, mI_f, bI_0, bI_1, bI_t, bI_f, dltT, dltF, dleT, dleF, deqT, deqF, Nat.not_lt_zero, not_true_eq_false, not_false_eq_true, true_and, and_true, false_and, and_false, or_true, true_or, false_or, or_false, and_self, if_true, if_false, Classical.not_not, Nat.add_assoc, Nat.zero_add, Nat.add_zero, bI_or, bI_True, bI_False, Bool.false_eq_true, reduceCtorEq, eq_self, gi_si, gl_si, gr_si, hn_si, hL_si, hX_si, gi_sl, gl_sl, gr_sl, hn_sl, ob_si, ar_si, ob_sl, ar_sl, ks_164_0, ks_164_1, oF, g0, g1, g2, g4, g5, g6, g7, g8, g9, g10, g11, g12, g13, o21, o22, o23, o28, o29, o32, o34, o36, oM, Cal_eq r1])
          exact hQ
        · have oO := (O_facts hB).1; obtain ⟨hA, hIr, f0⟩ := IO_0 hI; replace hB := Bs.si hB 87 7 (iN 0); have hW := hs.1; obtain ⟨oO2, rO1, rO2, rO3, rO4, rO5, rO8, aO1, aO2, aO3, aO4, aO5, aO8, sO1, sO2, sO3, sO4, sO5, sO8⟩ := O_facts hB; obtain ⟨fN, fD, fK, fF, fH, fM, fQ⟩ := id hA; obtain ⟨wN, wK, wF, wH, wM, wQ, wS, wZ, wT⟩ := id hW
          generalize gX s = x at *
          have key : ∀ Q : Option Value → Hp → Prop, (∀ h', Ao h' x → Pl h' (xN x) → Fo Syp Fyp h h' → Q (some (.int (zI ((allQ x : Int) + cbZ x n (bwN x n))))) h') → wp 4 264 0 [some (.ref 87), some (.int (iN n)), some (.int (zI (-1))), none, none, none, none, none] [] h Q := by
            intro Q hQ
            have hcw := wyL_le (xN x) (by omega)
            obtain ⟨h0, r0, P0, g0⟩ := wo_lay hB hA hW hIr.2.2.2.2.2
            have B0 := g0.bs hB
            have A0 := hA.fr g0 (by intro o _ _; unfold Sl2; omega) (by unfold Fl2; omega) (by unfold Fl2; omega)
            have oO_0 := (O_facts B0).1
            obtain ⟨h1, r1, A1, K1, f1⟩ := wo_think B0 A0
            have P1 := Pl_98 P0 f1
            have F1 : Fo Syp Fyp h h1 := ((Fo_py f0).tr (Fo_pl g0)).tr (Fo_p98 f1)
            have B1 := f1.bs B0
            have oO_1 := (O_facts B1).1
            have c1 : gi h1 87 27 = iN (cw (xN x)) := P1.2.1
            (refine wp_go 600 ks_264_0.1 ?_; simp (disch := first | with_reducible assumption | omega | (simp only [ob_si, ar_si, ob_sl, ar_sl]; with_reducible assumption)) only [ci_0, ci_1, ci_6, ci_99, cm_1, iN_l, inc_i, jN_add, jN_div, jN_eq, jN_le, jN_lt, jN_mod, jN_mul, jN_sub, l0, lc_eq, lc_ge, lc_gt, lc_le, lc_lt, ldA_a, ldI_i, oc_201, oc_218, oc_219, oc_236, oc_237, oc_261, oc_262, r_0, r_10, r_11, r_12, r_2, r_27, r_3, r_30, r_31, r_33, r_34, r_44, r_6, r_60, r_62, r_63, r_7, r_70, r_80_1, r_80_2, r_81_3, r_9, r_90, wpn_S, wpn_zero, stp_h, lk_0, lk_s, st1_0, st1_1, st1_2, st2_0, st2_1, st2_2, kj_i, kj_a, kj_l, kj_n, cat_n, cat_i, cat_a, cat_u, cat_l, vc_i, vc_a, rv_s, tl_n, tl_s, Cal'_s, List.length_cons, List.length_nil, i0, i1, iNd, iN_lt, iN_le, iN_eq, iN_add, iN_mul, iN_mod, iN_div, iN_clamp, iN_inb, zle_N, zlt_N, zN_le, zN_lt, zN_eq, Nz_eq, mI_t, mI_f, bI_0, bI_1, bI_t, bI_f, dltT, dltF, dleT, dleF, deqT, deqF, Nat.not_lt_zero, not_true_eq_false, not_false_eq_true, true_and, and_true, false_and, and_false, or_true, true_or, false_or, or_false, and_self, if_true, if_false, Classical.not_not, Nat.add_assoc, Nat.zero_add, Nat.add_zero, bI_or, bI_True, bI_False, Bool.false_eq_true, reduceCtorEq, eq_self, gi_si, gl_si, gr_si, hn_si, hL_si, hX_si, gi_sl, gl_sl, gr_sl, hn_sl, ob_si, ar_si, ob_sl, ar_sl, ks_264_0, ks_264_1, ks_264_2, ks_264_3, oO, oO2, rO1, rO2, rO3, rO4, rO5, rO8, aO1, aO2, aO3, aO4, aO5, aO8, fN, fD, fK, fF, fH, fM, fQ, o_in_q trivial, in_m1, in_z, in_zn, in_q, in_qn, isP_N, o_wn_q trivial, Cal_eq r0, oO_0, Cal_eq r1])
            refine wp_foldH (fun k a (w : Option Value) => [some (.ref 87), some (.int (iN n)), some (.int (zI (-1))), some (.int (iN 0)), some (.int (amA a)), some (.int (amL a)), some (.int (iN k)), w]) (amS (bpA x n)) (fun k a h' => amP a ∧ Ao h' x ∧ Kx h' 98 x ∧ Pl h' (xN x) ∧ Fo Syp Fyp h h') (cw (xN x)) ?_ (cw (xN x)) 0 none none h1 (by omega) ⟨(fun b l e => by cases e), A1, K1, P1, F1⟩ ?_
            · rintro k a w h1 hk ⟨ha, A1, K1, P1, F1⟩ hn
              have B1 := F1.bs hB
              have oO_1 := (O_facts B1).1
              have c1 : gi h1 87 27 = iN (cw (xN x)) := P1.2.1
              obtain ⟨h2, r2, A2, f2⟩ := wo_pair (k := k) B1 A1 hW P1 hk
              have B2 := f2.bs B1
              have W2 := wf_ps hW hk
              have oO_2 := (O_facts B2).1
              obtain ⟨h3, r3, A3, f3⟩ := wo_go (n := n) B2 A2 W2 (by omega)
              have B3 := f3.bs B2
              have W3 := wf_day W2 n
              have oO_3 := (O_facts B3).1
              have r4 := o_allQ B3 A3 W3
              have hb := allQ_b W3
              change Ret _ _ _ _ (some (.int (iN (bpA x n k)))) _ at r4
              change bpA x n k ≤ 3564 at hb
              obtain ⟨h5, r5, A5, K5, f5⟩ := wo_again B3 ((K1.fr f2 (by unfold Sq; omega) (by omega)).fr f3 (by unfold Sq; omega) (by omega))
              have hP : amP (amS (bpA x n) k a) := by
                have := amP_it (B := bpA x n) (N := cw (xN x)) (fun k hk => allQ_b (wf_day (wf_ps hW hk) n)) (by omega) 1 k a (by omega) ha
                exact this
              have hn := hn (some (.int (iN (bpA x n k)))) h5 ⟨hP, A5, K5, Pl_98 (Pl_q (Pl_q P1 f2) f3) f5, ((F1.tr (Fo_pq f2)).tr (Fo_pq f3)).tr (Fo_p98 f5)⟩
              cases a with
              | none =>
                simp only [amA, amL, amS] at hn ⊢
                (refine wp_go 600 ks_264_1.2.2.2.2.2.2.2.2.2.2.2.2.1 ?_; simp (disch := first | with_reducible assumption | omega | (simp only [ob_si, ar_si, ob_sl, ar_sl]; with_reducible assumption)) only [ci_0, ci_1, ci_6, ci_99, cm_1, iN_l, inc_i, jN_add, jN_div, jN_eq, jN_le, jN_lt, jN_mod, jN_mul, jN_sub, l0, lc_eq, lc_ge, lc_gt, lc_le, lc_lt, ldA_a, ldI_i, oc_201, oc_218, oc_219, oc_236, oc_237, oc_261, oc_262, r_0, r_10, r_11, r_12, r_2, r_27, r_3, r_30, r_31, r_33, r_34, r_44, r_6, r_60, r_62, r_63, r_7, r_70, r_80_1, r_80_2, r_81_3, r_9, r_90, wpn_S, wpn_zero, stp_h, lk_0, lk_s, st1_0, st1_1, st1_2, st2_0, st2_1, st2_2, kj_i, kj_a, kj_l, kj_n, cat_n, cat_i, cat_a, cat_u, cat_l, vc_i, vc_a, rv_s, tl_n, tl_s, Cal'_s, List.length_cons, List.length_nil, i0, i1, iNd, iN_lt, iN_le, iN_eq, iN_add, iN_mul, iN_mod, iN_sub, iN_div, iN_clamp, iN_inb, zle_N, zlt_N, zN_le, zN_lt, zN_eq, Nz_eq, mI_t, mI_f, bI_0, bI_1, bI_t, bI_f, dltT, dltF, dleT, dleF, deqT, deqF, Nat.not_lt_zero, not_true_eq_false, not_false_eq_true, true_and, and_true, false_and, and_false, or_true, true_or, false_or, or_false, and_self, if_true, if_false, Classical.not_not, Nat.add_assoc, Nat.zero_add, Nat.add_zero, bI_or, bI_True, bI_False, Bool.false_eq_true, reduceCtorEq, eq_self, gi_si, gl_si, gr_si, hn_si, hL_si, hX_si, gi_sl, gl_sl, gr_sl, hn_sl, ob_si, ar_si, ob_sl, ar_sl, ks_264_0, ks_264_1, ks_264_2, ks_264_3, oO_1, c1, Cal_eq r2, oO_2, Cal_eq r3, oO_3, Cal_eq r4, Cal_eq r5])
                exact hn
              | some z =>
                obtain ⟨b, l⟩ := z
                have hb2 := ha b l rfl
                by_cases hc : bpA x n k < l
                · simp only [amA, amL, amS, if_pos hc] at hn ⊢
                  (refine wp_go 600 ks_264_1.2.2.2.2.2.2.2.2.2.2.2.2.1 ?_; simp (disch := first | with_reducible assumption | omega | (simp only [ob_si, ar_si, ob_sl, ar_sl]; with_reducible assumption)) only [ci_0, ci_1, ci_6, ci_99, cm_1, iN_l, inc_i, jN_add, jN_div, jN_eq, jN_le, jN_lt, jN_mod, jN_mul, jN_sub, l0, lc_eq, lc_ge, lc_gt, lc_le, lc_lt, ldA_a, ldI_i, oc_201, oc_218, oc_219, oc_236, oc_237, oc_261, oc_262, r_0, r_10, r_11, r_12, r_2, r_27, r_3, r_30, r_31, r_33, r_34, r_44, r_6, r_60, r_62, r_63, r_7, r_70, r_80_1, r_80_2, r_81_3, r_9, r_90, wpn_S, wpn_zero, stp_h, lk_0, lk_s, st1_0, st1_1, st1_2, st2_0, st2_1, st2_2, kj_i, kj_a, kj_l, kj_n, cat_n, cat_i, cat_a, cat_u, cat_l, vc_i, vc_a, rv_s, tl_n, tl_s, Cal'_s, List.length_cons, List.length_nil, i0, i1, iNd, iN_lt, iN_le, iN_eq, iN_add, iN_mul, iN_mod, iN_sub, iN_div, iN_clamp, iN_inb, zle_N, zlt_N, zN_le, zN_lt, zN_eq, Nz_eq, mI_t, mI_f, bI_0, bI_1, bI_t, bI_f, dltT, dltF, dleT, dleF, deqT, deqF, Nat.not_lt_zero, not_true_eq_false, not_false_eq_true, true_and, and_true, false_and, and_false, or_true, true_or, false_or, or_false, and_self, if_true, if_false, Classical.not_not, Nat.add_assoc, Nat.zero_add, Nat.add_zero, bI_or, bI_True, bI_False, Bool.false_eq_true, reduceCtorEq, eq_self, gi_si, gl_si, gr_si, hn_si, hL_si, hX_si, gi_sl, gl_sl, gr_sl, hn_sl, ob_si, ar_si, ob_sl, ar_sl, ks_264_0, ks_264_1, ks_264_2, ks_264_3, oO_1, c1, Cal_eq r2, oO_2, Cal_eq r3, oO_3, Cal_eq r4, Cal_eq r5])
                  exact hn
                · simp only [amA, amL, amS, if_neg hc] at hn ⊢
                  (refine wp_go 600 ks_264_1.2.2.2.2.2.2.2.2.2.2.2.2.1 ?_; simp (disch := first | with_reducible assumption | omega | (simp only [ob_si, ar_si, ob_sl, ar_sl]; with_reducible assumption)) only [ci_0, ci_1, ci_6, ci_99, cm_1, iN_l, inc_i, jN_add, jN_div, jN_eq, jN_le, jN_lt, jN_mod, jN_mul, jN_sub, l0, lc_eq, lc_ge, lc_gt, lc_le, lc_lt, ldA_a, ldI_i, oc_201, oc_218, oc_219, oc_236, oc_237, oc_261, oc_262, r_0, r_10, r_11, r_12, r_2, r_27, r_3, r_30, r_31, r_33, r_34, r_44, r_6, r_60, r_62, r_63, r_7, r_70, r_80_1, r_80_2, r_81_3, r_9, r_90, wpn_S, wpn_zero, stp_h, lk_0, lk_s, st1_0, st1_1, st1_2, st2_0, st2_1, st2_2, kj_i, kj_a, kj_l, kj_n, cat_n, cat_i, cat_a, cat_u, cat_l, vc_i, vc_a, rv_s, tl_n, tl_s, Cal'_s, List.length_cons, List.length_nil, i0, i1, iNd, iN_lt, iN_le, iN_eq, iN_add, iN_mul, iN_mod, iN_sub, iN_div, iN_clamp, iN_inb, zle_N, zlt_N, zN_le, zN_lt, zN_eq, Nz_eq, mI_t, mI_f, bI_0, bI_1, bI_t, bI_f, dltT, dltF, dleT, dleF, deqT, deqF, Nat.not_lt_zero, not_true_eq_false, not_false_eq_true, true_and, and_true, false_and, and_false, or_true, true_or, false_or, or_false, and_self, if_true, if_false, Classical.not_not, Nat.add_assoc, Nat.zero_add, Nat.add_zero, bI_or, bI_True, bI_False, Bool.false_eq_true, reduceCtorEq, eq_self, gi_si, gl_si, gr_si, hn_si, hL_si, hX_si, gi_sl, gl_sl, gr_sl, hn_sl, ob_si, ar_si, ob_sl, ar_sl, ks_264_0, ks_264_1, ks_264_2, ks_264_3, oO_1, c1, Cal_eq r2, oO_2, Cal_eq r3, oO_3, Cal_eq r4, Cal_eq r5])
                  exact hn
            · rintro w h1 ⟨ha, A1, K1, P1, F1⟩
              have B1 := F1.bs hB
              have oO_1 := (O_facts B1).1
              have c1 : gi h1 87 27 = iN (cw (xN x)) := P1.2.1
              have hQ := hQ h1 A1 P1 F1
              have hbw := bw_lt hW n
              rw [bp_am hW n] at ha ⊢
              have hb := ha _ _ rfl
              simp only [amA, amL]
              have e : iN (bpA x n (bwN x n)) = zI ((allQ x : Int) + cbZ x n (bwN x n)) := by rw [iN_Z]; exact congrArg zI (ps_all hW hbw n)
              rw [← e] at hQ
              (refine wp_go 600 ks_264_1.2.2.2.2.2.2.2.2.2.2.2.2.1 ?_; simp (disch := first | with_reducible assumption | omega | (simp only [ob_si, ar_si, ob_sl, ar_sl]; with_reducible assumption)) only [ci_0, ci_1, ci_6, ci_99, cm_1, iN_l, inc_i, jN_add, jN_div, jN_eq, jN_le, jN_lt, jN_mod, jN_mul, jN_sub, l0, lc_eq, lc_ge, lc_gt, lc_le, lc_lt, ldA_a, ldI_i, oc_201, oc_218, oc_219, oc_236, oc_237, oc_261, oc_262, r_0, r_10, r_11, r_12, r_2, r_27, r_3, r_30, r_31, r_33, r_34, r_44, r_6, r_60, r_62, r_63, r_7, r_70, r_80_1, r_80_2, r_81_3, r_9, r_90, wpn_S, wpn_zero, stp_h, lk_0, lk_s, st1_0, st1_1, st1_2, st2_0, st2_1, st2_2, kj_i, kj_a, kj_l, kj_n, cat_n, cat_i, cat_a, cat_u, cat_l, vc_i, vc_a, rv_s, tl_n, tl_s, Cal'_s, List.length_cons, List.length_nil, i0, i1, iNd, iN_lt, iN_le, iN_eq, iN_add, iN_mul, iN_mod, iN_sub, iN_div, iN_clamp, iN_inb, zle_N, zlt_N, zN_le, zN_lt, zN_eq, Nz_eq, mI_t, mI_f, bI_0, bI_1, bI_t, bI_f, dltT, dltF, dleT, dleF, deqT, deqF, Nat.not_lt_zero, not_true_eq_false, not_false_eq_true, true_and, and_true, false_and, and_false, or_true, true_or, false_or, or_false, and_self, if_true, if_false, Classical.not_not, Nat.add_assoc, Nat.zero_add, Nat.add_zero, bI_or, bI_True, bI_False, Bool.false_eq_true, reduceCtorEq, eq_self, gi_si, gl_si, gr_si, hn_si, hL_si, hX_si, gi_sl, gl_sl, gr_sl, hn_sl, ob_si, ar_si, ob_sl, ar_sl, ks_264_0, ks_264_1, ks_264_2, ks_264_3, oO_1, c1])
              exact hQ
          obtain ⟨v, h', r, rfl, A, P, f⟩ := Ret_ex (d := 4) (y := 264) (as := [.ref 87, .int (iN n), .int (zI (-1))]) [some (.ref 87), some (.int (iN n)), some (.int (zI (-1))), none, none, none, none, none] rfl rfl (key (fun v h' => v = some (.int (zI ((allQ x : Int) + cbZ x n (bwN x n)))) ∧ Ao h' x ∧ Pl h' (xN x) ∧ Fo Syp Fyp h h') fun h' a b c => ⟨rfl, a, b, c⟩)
          exact ⟨h', Ret.up (d := 4) r (by decide), A, P.pd hW.1, f⟩
      · obtain ⟨b3, b4, b5, b6⟩ := notP_f b0 hn (by omega)
        refine op_refuse hs (k := 6) (by decide) (v := .int (zI (-6))) (fun h hB hI => Ret.up (d := 13) ?_ (by decide)) (fun h hB hI => Ret.up (d := 4) ?_ (by decide))
        · obtain ⟨oF, g0, g1, g2, g4, g5, g6, g7, g8, g9, g10, g11, g12, g13, o21, o22, o23, o28, o29, o32, o34, o36, oM⟩ := F_facts hB; obtain ⟨hA, iI, ⟨nx, hP⟩, hR, hL, hF, hT⟩ := id hI; have hW := hs.1; have hm : isM 1 := Or.inl rfl; have wN := hW.1
          refine Ret_L [some (.ref 0), some (.int a), some (.int (zI (-1)))] rfl rfl fun Q hQ => ?_
          (refine wp_go 600 ks_164_0.1 ?_; simp (disch := first | with_reducible assumption | omega | (simp only [ob_si, ar_si, ob_sl, ar_sl]; with_reducible assumption)) only [ci_99, cm_1, cm_4, cm_6, ldA_a, ldI_i, oc_191, oc_25, oc_82, oc_83, r_0, r_2, r_30, r_32, r_34, r_41, r_42, r_46, r_6, r_62, r_80_2, r_80_3, r_90, wpn_S, wpn_zero, stp_h, lk_0, lk_s, st1_0, st1_1, st1_2, st2_0, st2_1, st2_2, kj_i, kj_a, kj_l, kj_n, cat_n, cat_i, cat_a, cat_u, cat_l, vc_i, vc_a, rv_s, tl_n, tl_s, Cal'_s, List.length_cons, List.length_nil, i0, i1, iNd, iN_lt, iN_le, iN_eq, iN_add, iN_mul, iN_mod, iN_sub, iN_div, iN_clamp, iN_inb, zle_N, zlt_N, zN_le, zN_lt, zN_eq, Nz_eq, mI_t, mI_f, bI_0, bI_1, bI_t, bI_f, dltT, dltF, dleT, dleF, deqT, deqF, Nat.not_lt_zero, not_true_eq_false, not_false_eq_true, true_and, and_true, false_and, and_false, or_true, true_or, false_or, or_false, and_self, if_true, if_false, Classical.not_not, Nat.add_assoc, Nat.zero_add, Nat.add_zero, bI_or, bI_True, bI_False, Bool.false_eq_true, reduceCtorEq, eq_self, gi_si, gl_si, gr_si, hn_si, hL_si, hX_si, gi_sl, gl_sl, gr_sl, hn_sl, ob_si, ar_si, ob_sl, ar_sl, ks_164_0, ks_164_1, oF, g0, g1, g2, g4, g5, g6, g7, g8, g9, g10, g11, g12, g13, o21, o22, o23, o28, o29, o32, o34, o36, oM, b1, b2, b3, b4, b5, b6, c_ref6_q hB])
          exact hQ
        · have oO := (O_facts hB).1; obtain ⟨hA, hIr, f0⟩ := IO_0 hI; replace hB := Bs.si hB 87 7 (iN 0); have hW := hs.1; obtain ⟨oO2, rO1, rO2, rO3, rO4, rO5, rO8, aO1, aO2, aO3, aO4, aO5, aO8, sO1, sO2, sO3, sO4, sO5, sO8⟩ := O_facts hB; obtain ⟨fN, fD, fK, fF, fH, fM, fQ⟩ := id hA; obtain ⟨wN, wK, wF, wH, wM, wQ, wS, wZ, wT⟩ := id hW
          refine Ret_L [some (.ref 87), some (.int a), some (.int (zI (-1))), none, none, none, none, none] rfl rfl fun Q hQ => ?_
          (refine wp_go 600 ks_264_0.1 ?_; simp (disch := first | with_reducible assumption | omega | (simp only [ob_si, ar_si, ob_sl, ar_sl]; with_reducible assumption)) only [ci_0, ci_1, ci_6, ci_99, cm_1, iN_l, inc_i, jN_add, jN_div, jN_eq, jN_le, jN_lt, jN_mod, jN_mul, jN_sub, l0, lc_eq, lc_ge, lc_gt, lc_le, lc_lt, ldA_a, ldI_i, oc_201, oc_218, oc_219, oc_236, oc_237, oc_261, oc_262, r_0, r_10, r_11, r_12, r_2, r_27, r_3, r_30, r_31, r_33, r_34, r_44, r_6, r_60, r_62, r_63, r_7, r_70, r_80_1, r_80_2, r_81_3, r_9, r_90, wpn_S, wpn_zero, stp_h, lk_0, lk_s, st1_0, st1_1, st1_2, st2_0, st2_1, st2_2, kj_i, kj_a, kj_l, kj_n, cat_n, cat_i, cat_a, cat_u, cat_l, vc_i, vc_a, rv_s, tl_n, tl_s, Cal'_s, List.length_cons, List.length_nil, i0, i1, iNd, iN_lt, iN_le, iN_eq, iN_add, iN_mul, iN_mod, iN_div, iN_clamp, iN_inb, zle_N, zlt_N, zN_le, zN_lt, zN_eq, Nz_eq, mI_t, mI_f, bI_0, bI_1, bI_t, bI_f, dltT, dltF, dleT, dleF, deqT, deqF, Nat.not_lt_zero, not_true_eq_false, not_false_eq_true, true_and, and_true, false_and, and_false, or_true, true_or, false_or, or_false, and_self, if_true, if_false, Classical.not_not, Nat.add_assoc, Nat.zero_add, Nat.add_zero, bI_or, bI_True, bI_False, Bool.false_eq_true, reduceCtorEq, eq_self, gi_si, gl_si, gr_si, hn_si, hL_si, hX_si, gi_sl, gl_sl, gr_sl, hn_sl, ob_si, ar_si, ob_sl, ar_sl, ks_264_0, ks_264_1, ks_264_2, ks_264_3, oO, oO, oO2, rO1, rO2, rO3, rO4, rO5, rO8, aO1, aO2, aO3, aO4, aO5, aO8, fN, fD, fK, fF, fH, fM, fQ, o_in_q trivial, in_m1, in_z, in_zn, in_q, in_qn, isP_N, o_wn_q trivial, b1, b2, b3, b4, b5, b6, o_ref6_q hB])
          exact hQ
  · by_cases hP : isP (xN (gX s)) b
    · obtain ⟨q, hi, rfl⟩ := hP
      by_cases b0 : a < iN 0
      · obtain ⟨b1, b2⟩ := raw_lt b0
        refine op_refuse hs (k := 4) (by decide) (v := .int (zI (-4))) (fun h hB hI => Ret.up (d := 13) ?_ (by decide)) (fun h hB hI => Ret.up (d := 4) ?_ (by decide))
        · obtain ⟨oF, g0, g1, g2, g4, g5, g6, g7, g8, g9, g10, g11, g12, g13, o21, o22, o23, o28, o29, o32, o34, o36, oM⟩ := F_facts hB; obtain ⟨hA, iI, ⟨nx, hP⟩, hR, hL, hF, hT⟩ := id hI; have hW := hs.1; have hm : isM 1 := Or.inl rfl; have wN := hW.1
          refine Ret_L [some (.ref 0), some (.int a), some (.int (iN q))] rfl rfl fun Q hQ => ?_
          (refine wp_go 600 ks_164_0.1 ?_; simp (disch := first | with_reducible assumption | omega | (simp only [ob_si, ar_si, ob_sl, ar_sl]; with_reducible assumption)) only [ci_99, cm_1, cm_4, cm_6, ldA_a, ldI_i, oc_191, oc_25, oc_82, oc_83, r_0, r_2, r_30, r_32, r_34, r_41, r_42, r_46, r_6, r_62, r_80_2, r_80_3, r_90, wpn_S, wpn_zero, stp_h, lk_0, lk_s, st1_0, st1_1, st1_2, st2_0, st2_1, st2_2, kj_i, kj_a, kj_l, kj_n, cat_n, cat_i, cat_a, cat_u, cat_l, vc_i, vc_a, rv_s, tl_n, tl_s, Cal'_s, List.length_cons, List.length_nil, i0, i1, iNd, iN_lt, iN_le, iN_eq, iN_add, iN_mul, iN_mod, iN_sub, iN_div, iN_clamp, iN_inb, zle_N, zlt_N, zN_le, zN_lt, zN_eq, Nz_eq, mI_t, mI_f, bI_0, bI_1, bI_t, bI_f, dltT, dltF, dleT, dleF, deqT, deqF, Nat.not_lt_zero, not_true_eq_false, not_false_eq_true, true_and, and_true, false_and, and_false, or_true, true_or, false_or, or_false, and_self, if_true, if_false, Classical.not_not, Nat.add_assoc, Nat.zero_add, Nat.add_zero, bI_or, bI_True, bI_False, Bool.false_eq_true, reduceCtorEq, eq_self, gi_si, gl_si, gr_si, hn_si, hL_si, hX_si, gi_sl, gl_sl, gr_sl, hn_sl, ob_si, ar_si, ob_sl, ar_sl, ks_164_0, ks_164_1, oF, g0, g1, g2, g4, g5, g6, g7, g8, g9, g10, g11, g12, g13, o21, o22, o23, o28, o29, o32, o34, o36, oM, oM, c_hasT_q hm hB hA hW, b1, b2, c_ref4_q hB])
          exact hQ
        · have oO := (O_facts hB).1; obtain ⟨hA, hIr, f0⟩ := IO_0 hI; replace hB := Bs.si hB 87 7 (iN 0); have hW := hs.1; obtain ⟨oO2, rO1, rO2, rO3, rO4, rO5, rO8, aO1, aO2, aO3, aO4, aO5, aO8, sO1, sO2, sO3, sO4, sO5, sO8⟩ := O_facts hB; obtain ⟨fN, fD, fK, fF, fH, fM, fQ⟩ := id hA; obtain ⟨wN, wK, wF, wH, wM, wQ, wS, wZ, wT⟩ := id hW
          refine Ret_L [some (.ref 87), some (.int a), some (.int (iN q)), none, none, none, none, none] rfl rfl fun Q hQ => ?_
          (refine wp_go 600 ks_264_0.1 ?_; simp (disch := first | with_reducible assumption | omega | (simp only [ob_si, ar_si, ob_sl, ar_sl]; with_reducible assumption)) only [ci_0, ci_1, ci_6, ci_99, cm_1, iN_l, inc_i, jN_add, jN_div, jN_eq, jN_le, jN_lt, jN_mod, jN_mul, jN_sub, l0, lc_eq, lc_ge, lc_gt, lc_le, lc_lt, ldA_a, ldI_i, oc_201, oc_218, oc_219, oc_236, oc_237, oc_261, oc_262, r_0, r_10, r_11, r_12, r_2, r_27, r_3, r_30, r_31, r_33, r_34, r_44, r_6, r_60, r_62, r_63, r_7, r_70, r_80_1, r_80_2, r_81_3, r_9, r_90, wpn_S, wpn_zero, stp_h, lk_0, lk_s, st1_0, st1_1, st1_2, st2_0, st2_1, st2_2, kj_i, kj_a, kj_l, kj_n, cat_n, cat_i, cat_a, cat_u, cat_l, vc_i, vc_a, rv_s, tl_n, tl_s, Cal'_s, List.length_cons, List.length_nil, i0, i1, iNd, iN_lt, iN_le, iN_eq, iN_add, iN_mul, iN_mod, iN_div, iN_clamp, iN_inb, zle_N, zlt_N, zN_le, zN_lt, zN_eq, Nz_eq, mI_t, mI_f, bI_0, bI_1, bI_t, bI_f, dltT, dltF, dleT, dleF, deqT, deqF, Nat.not_lt_zero, not_true_eq_false, not_false_eq_true, true_and, and_true, false_and, and_false, or_true, true_or, false_or, or_false, and_self, if_true, if_false, Classical.not_not, Nat.add_assoc, Nat.zero_add, Nat.add_zero, bI_or, bI_True, bI_False, Bool.false_eq_true, reduceCtorEq, eq_self, gi_si, gl_si, gr_si, hn_si, hL_si, hX_si, gi_sl, gl_sl, gr_sl, hn_sl, ob_si, ar_si, ob_sl, ar_sl, ks_264_0, ks_264_1, ks_264_2, ks_264_3, oO, oO, oO2, rO1, rO2, rO3, rO4, rO5, rO8, aO1, aO2, aO3, aO4, aO5, aO8, fN, fD, fK, fF, fH, fM, fQ, o_in_q trivial, in_m1, in_z, in_zn, in_q, in_qn, isP_N, o_wn_q trivial, b1, b2, o_ref4_q hB])
          exact hQ
      · obtain ⟨b1, b2⟩ := raw_ge b0
        by_cases hn : isP 100 a
        · obtain ⟨n, hn, rfl⟩ := hn
          clear b0 b1 b2
          refine op_queryP hs (v := .int (mI (wy (xN (gX s)) (bwN (gX s) n) q))) (fun h hB hI => ?_) (fun h hB hI => ?_)
          · obtain ⟨oF, g0, g1, g2, g4, g5, g6, g7, g8, g9, g10, g11, g12, g13, o21, o22, o23, o28, o29, o32, o34, o36, oM⟩ := F_facts hB; obtain ⟨hA, iI, ⟨nx, hP⟩, hR, hL, hF, hT⟩ := id hI; have hW := hs.1; have hm : isM 1 := Or.inl rfl; have wN := hW.1
            obtain ⟨h1, r1, f1⟩ := p_mateB (d := n) hB hA hW (by omega) hi
            refine ⟨h1, Ret.up (d := 13) ?_ (by decide), Fr_zp f1⟩
            refine Ret_L [some (.ref 0), some (.int (iN n)), some (.int (iN q))] rfl rfl fun Q hQ => ?_
            (refine wp_go 600 ks_164_0.1 ?_; simp (disch := first | with_reducible assumption | omega | (simp only [ob_si, ar_si, ob_sl, ar_sl]; with_reducible assumption)) only [ci_99, cm_1, cm_4, cm_6, ldA_a, ldI_i, oc_191, oc_25, oc_82, oc_83, r_0, r_2, r_30, r_32, r_34, r_41, r_42, r_46, r_6, r_62, r_80_2, r_80_3, r_90, wpn_S, wpn_zero, stp_h, lk_0, lk_s, st1_0, st1_1, st1_2, st2_0, st2_1, st2_2, kj_i, kj_a, kj_l, kj_n, cat_n, cat_i, cat_a, cat_u, cat_l, vc_i, vc_a, rv_s, tl_n, tl_s, Cal'_s, List.length_cons, List.length_nil, i0, i1, iNd, iN_lt, iN_le, iN_eq, iN_add, iN_mul, iN_mod, iN_sub, iN_div, iN_clamp, iN_inb, zle_N, zlt_N, zN_le, zN_lt, zN_eq, Nz_eq, bI_0, bI_1, bI_t, bI_f, dltT, dltF, dleT, dleF, deqT, deqF, Nat.not_lt_zero, not_true_eq_false, not_false_eq_true, true_and, and_true, false_and, and_false, or_true, true_or, false_or, or_false, and_self, if_true, if_false, Classical.not_not, Nat.add_assoc, Nat.zero_add, Nat.add_zero, bI_or, bI_True, bI_False, Bool.false_eq_true, reduceCtorEq, eq_self, gi_si, gl_si, gr_si, hn_si, hL_si, hX_si, gi_sl, gl_sl, gr_sl, hn_sl, ob_si, ar_si, ob_sl, ar_sl, ks_164_0, ks_164_1, oF, g0, g1, g2, g4, g5, g6, g7, g8, g9, g10, g11, g12, g13, o21, o22, o23, o28, o29, o32, o34, o36, oM, oM, c_hasT_q hm hB hA hW, Cal_eq r1])
            exact hQ
          · have oO := (O_facts hB).1; obtain ⟨hA, hIr, f0⟩ := IO_0 hI; replace hB := Bs.si hB 87 7 (iN 0); have hW := hs.1; obtain ⟨oO2, rO1, rO2, rO3, rO4, rO5, rO8, aO1, aO2, aO3, aO4, aO5, aO8, sO1, sO2, sO3, sO4, sO5, sO8⟩ := O_facts hB; obtain ⟨fN, fD, fK, fF, fH, fM, fQ⟩ := id hA; obtain ⟨wN, wK, wF, wH, wM, wQ, wS, wZ, wT⟩ := id hW
            generalize gX s = x at *
            have key : ∀ Q : Option Value → Hp → Prop, (∀ h', Ao h' x → Pl h' (xN x) → Fo Syp Fyp h h' → Q (some (.int (mI (wy (xN x) (bwN x n) q)))) h') → wp 4 264 0 [some (.ref 87), some (.int (iN n)), some (.int (iN q)), none, none, none, none, none] [] h Q := by
              intro Q hQ
              have hcw := wyL_le (xN x) (by omega)
              obtain ⟨h0, r0, P0, g0⟩ := wo_lay hB hA hW hIr.2.2.2.2.2
              have B0 := g0.bs hB
              have A0 := hA.fr g0 (by intro o _ _; unfold Sl2; omega) (by unfold Fl2; omega) (by unfold Fl2; omega)
              have oO_0 := (O_facts B0).1
              obtain ⟨h1, r1, A1, K1, f1⟩ := wo_think B0 A0
              have P1 := Pl_98 P0 f1
              have F1 : Fo Syp Fyp h h1 := ((Fo_py f0).tr (Fo_pl g0)).tr (Fo_p98 f1)
              have B1 := f1.bs B0
              have oO_1 := (O_facts B1).1
              have c1 : gi h1 87 27 = iN (cw (xN x)) := P1.2.1
              (refine wp_go 600 ks_264_0.1 ?_; simp (disch := first | with_reducible assumption | omega | (simp only [ob_si, ar_si, ob_sl, ar_sl]; with_reducible assumption)) only [ci_0, ci_1, ci_6, ci_99, cm_1, iN_l, inc_i, jN_add, jN_div, jN_eq, jN_le, jN_lt, jN_mod, jN_mul, jN_sub, l0, lc_eq, lc_ge, lc_gt, lc_le, lc_lt, ldA_a, ldI_i, oc_201, oc_218, oc_219, oc_236, oc_237, oc_261, oc_262, r_0, r_10, r_11, r_12, r_2, r_27, r_3, r_30, r_31, r_33, r_34, r_44, r_6, r_60, r_62, r_63, r_7, r_70, r_80_1, r_80_2, r_81_3, r_9, r_90, wpn_S, wpn_zero, stp_h, lk_0, lk_s, st1_0, st1_1, st1_2, st2_0, st2_1, st2_2, kj_i, kj_a, kj_l, kj_n, cat_n, cat_i, cat_a, cat_u, cat_l, vc_i, vc_a, rv_s, tl_n, tl_s, Cal'_s, List.length_cons, List.length_nil, i0, i1, iNd, iN_lt, iN_le, iN_eq, iN_add, iN_mul, iN_mod, iN_div, iN_clamp, iN_inb, zle_N, zlt_N, zN_le, zN_lt, zN_eq, Nz_eq, mI_t, mI_f, bI_0, bI_1, bI_t, bI_f, dltT, dltF, dleT, dleF, deqT, deqF, Nat.not_lt_zero, not_true_eq_false, not_false_eq_true, true_and, and_true, false_and, and_false, or_true, true_or, false_or, or_false, and_self, if_true, if_false, Classical.not_not, Nat.add_assoc, Nat.zero_add, Nat.add_zero, bI_or, bI_True, bI_False, Bool.false_eq_true, reduceCtorEq, eq_self, gi_si, gl_si, gr_si, hn_si, hL_si, hX_si, gi_sl, gl_sl, gr_sl, hn_sl, ob_si, ar_si, ob_sl, ar_sl, ks_264_0, ks_264_1, ks_264_2, ks_264_3, oO, oO2, rO1, rO2, rO3, rO4, rO5, rO8, aO1, aO2, aO3, aO4, aO5, aO8, fN, fD, fK, fF, fH, fM, fQ, o_in_q trivial, in_m1, in_z, in_zn, in_q, in_qn, isP_N, o_wn_q trivial, Cal_eq r0, oO_0, Cal_eq r1])
              refine wp_foldH (fun k a (w : Option Value) => [some (.ref 87), some (.int (iN n)), some (.int (iN q)), some (.int (iN 0)), some (.int (amA a)), some (.int (amL a)), some (.int (iN k)), w]) (amS (bpA x n)) (fun k a h' => amP a ∧ Ao h' x ∧ Kx h' 98 x ∧ Pl h' (xN x) ∧ Fo Syp Fyp h h') (cw (xN x)) ?_ (cw (xN x)) 0 none none h1 (by omega) ⟨(fun b l e => by cases e), A1, K1, P1, F1⟩ ?_
              · rintro k a w h1 hk ⟨ha, A1, K1, P1, F1⟩ hn
                have B1 := F1.bs hB
                have oO_1 := (O_facts B1).1
                have c1 : gi h1 87 27 = iN (cw (xN x)) := P1.2.1
                obtain ⟨h2, r2, A2, f2⟩ := wo_pair (k := k) B1 A1 hW P1 hk
                have B2 := f2.bs B1
                have W2 := wf_ps hW hk
                have oO_2 := (O_facts B2).1
                obtain ⟨h3, r3, A3, f3⟩ := wo_go (n := n) B2 A2 W2 (by omega)
                have B3 := f3.bs B2
                have W3 := wf_day W2 n
                have oO_3 := (O_facts B3).1
                have r4 := o_allQ B3 A3 W3
                have hb := allQ_b W3
                change Ret _ _ _ _ (some (.int (iN (bpA x n k)))) _ at r4
                change bpA x n k ≤ 3564 at hb
                obtain ⟨h5, r5, A5, K5, f5⟩ := wo_again B3 ((K1.fr f2 (by unfold Sq; omega) (by omega)).fr f3 (by unfold Sq; omega) (by omega))
                have hP : amP (amS (bpA x n) k a) := by
                  have := amP_it (B := bpA x n) (N := cw (xN x)) (fun k hk => allQ_b (wf_day (wf_ps hW hk) n)) (by omega) 1 k a (by omega) ha
                  exact this
                have hn := hn (some (.int (iN (bpA x n k)))) h5 ⟨hP, A5, K5, Pl_98 (Pl_q (Pl_q P1 f2) f3) f5, ((F1.tr (Fo_pq f2)).tr (Fo_pq f3)).tr (Fo_p98 f5)⟩
                cases a with
                | none =>
                  simp only [amA, amL, amS] at hn ⊢
                  (refine wp_go 600 ks_264_1.2.2.2.2.2.2.2.2.2.2.2.2.1 ?_; simp (disch := first | with_reducible assumption | omega | (simp only [ob_si, ar_si, ob_sl, ar_sl]; with_reducible assumption)) only [ci_0, ci_1, ci_6, ci_99, cm_1, iN_l, inc_i, jN_add, jN_div, jN_eq, jN_le, jN_lt, jN_mod, jN_mul, jN_sub, l0, lc_eq, lc_ge, lc_gt, lc_le, lc_lt, ldA_a, ldI_i, oc_201, oc_218, oc_219, oc_236, oc_237, oc_261, oc_262, r_0, r_10, r_11, r_12, r_2, r_27, r_3, r_30, r_31, r_33, r_34, r_44, r_6, r_60, r_62, r_63, r_7, r_70, r_80_1, r_80_2, r_81_3, r_9, r_90, wpn_S, wpn_zero, stp_h, lk_0, lk_s, st1_0, st1_1, st1_2, st2_0, st2_1, st2_2, kj_i, kj_a, kj_l, kj_n, cat_n, cat_i, cat_a, cat_u, cat_l, vc_i, vc_a, rv_s, tl_n, tl_s, Cal'_s, List.length_cons, List.length_nil, i0, i1, iNd, iN_lt, iN_le, iN_eq, iN_add, iN_mul, iN_mod, iN_sub, iN_div, iN_clamp, iN_inb, zle_N, zlt_N, zN_le, zN_lt, zN_eq, Nz_eq, mI_t, mI_f, bI_0, bI_1, bI_t, bI_f, dltT, dltF, dleT, dleF, deqT, deqF, Nat.not_lt_zero, not_true_eq_false, not_false_eq_true, true_and, and_true, false_and, and_false, or_true, true_or, false_or, or_false, and_self, if_true, if_false, Classical.not_not, Nat.add_assoc, Nat.zero_add, Nat.add_zero, bI_or, bI_True, bI_False, Bool.false_eq_true, reduceCtorEq, eq_self, gi_si, gl_si, gr_si, hn_si, hL_si, hX_si, gi_sl, gl_sl, gr_sl, hn_sl, ob_si, ar_si, ob_sl, ar_sl, ks_264_0, ks_264_1, ks_264_2, ks_264_3, oO_1, c1, Cal_eq r2, oO_2, Cal_eq r3, oO_3, Cal_eq r4, Cal_eq r5])
                  exact hn
                | some z =>
                  obtain ⟨b, l⟩ := z
                  have hb2 := ha b l rfl
                  by_cases hc : bpA x n k < l
                  · simp only [amA, amL, amS, if_pos hc] at hn ⊢
                    (refine wp_go 600 ks_264_1.2.2.2.2.2.2.2.2.2.2.2.2.1 ?_; simp (disch := first | with_reducible assumption | omega | (simp only [ob_si, ar_si, ob_sl, ar_sl]; with_reducible assumption)) only [ci_0, ci_1, ci_6, ci_99, cm_1, iN_l, inc_i, jN_add, jN_div, jN_eq, jN_le, jN_lt, jN_mod, jN_mul, jN_sub, l0, lc_eq, lc_ge, lc_gt, lc_le, lc_lt, ldA_a, ldI_i, oc_201, oc_218, oc_219, oc_236, oc_237, oc_261, oc_262, r_0, r_10, r_11, r_12, r_2, r_27, r_3, r_30, r_31, r_33, r_34, r_44, r_6, r_60, r_62, r_63, r_7, r_70, r_80_1, r_80_2, r_81_3, r_9, r_90, wpn_S, wpn_zero, stp_h, lk_0, lk_s, st1_0, st1_1, st1_2, st2_0, st2_1, st2_2, kj_i, kj_a, kj_l, kj_n, cat_n, cat_i, cat_a, cat_u, cat_l, vc_i, vc_a, rv_s, tl_n, tl_s, Cal'_s, List.length_cons, List.length_nil, i0, i1, iNd, iN_lt, iN_le, iN_eq, iN_add, iN_mul, iN_mod, iN_sub, iN_div, iN_clamp, iN_inb, zle_N, zlt_N, zN_le, zN_lt, zN_eq, Nz_eq, mI_t, mI_f, bI_0, bI_1, bI_t, bI_f, dltT, dltF, dleT, dleF, deqT, deqF, Nat.not_lt_zero, not_true_eq_false, not_false_eq_true, true_and, and_true, false_and, and_false, or_true, true_or, false_or, or_false, and_self, if_true, if_false, Classical.not_not, Nat.add_assoc, Nat.zero_add, Nat.add_zero, bI_or, bI_True, bI_False, Bool.false_eq_true, reduceCtorEq, eq_self, gi_si, gl_si, gr_si, hn_si, hL_si, hX_si, gi_sl, gl_sl, gr_sl, hn_sl, ob_si, ar_si, ob_sl, ar_sl, ks_264_0, ks_264_1, ks_264_2, ks_264_3, oO_1, c1, Cal_eq r2, oO_2, Cal_eq r3, oO_3, Cal_eq r4, Cal_eq r5])
                    exact hn
                  · simp only [amA, amL, amS, if_neg hc] at hn ⊢
                    (refine wp_go 600 ks_264_1.2.2.2.2.2.2.2.2.2.2.2.2.1 ?_; simp (disch := first | with_reducible assumption | omega | (simp only [ob_si, ar_si, ob_sl, ar_sl]; with_reducible assumption)) only [ci_0, ci_1, ci_6, ci_99, cm_1, iN_l, inc_i, jN_add, jN_div, jN_eq, jN_le, jN_lt, jN_mod, jN_mul, jN_sub, l0, lc_eq, lc_ge, lc_gt, lc_le, lc_lt, ldA_a, ldI_i, oc_201, oc_218, oc_219, oc_236, oc_237, oc_261, oc_262, r_0, r_10, r_11, r_12, r_2, r_27, r_3, r_30, r_31, r_33, r_34, r_44, r_6, r_60, r_62, r_63, r_7, r_70, r_80_1, r_80_2, r_81_3, r_9, r_90, wpn_S, wpn_zero, stp_h, lk_0, lk_s, st1_0, st1_1, st1_2, st2_0, st2_1, st2_2, kj_i, kj_a, kj_l, kj_n, cat_n, cat_i, cat_a, cat_u, cat_l, vc_i, vc_a, rv_s, tl_n, tl_s, Cal'_s, List.length_cons, List.length_nil, i0, i1, iNd, iN_lt, iN_le, iN_eq, iN_add, iN_mul, iN_mod, iN_sub, iN_div, iN_clamp, iN_inb, zle_N, zlt_N, zN_le, zN_lt, zN_eq, Nz_eq, mI_t, mI_f, bI_0, bI_1, bI_t, bI_f, dltT, dltF, dleT, dleF, deqT, deqF, Nat.not_lt_zero, not_true_eq_false, not_false_eq_true, true_and, and_true, false_and, and_false, or_true, true_or, false_or, or_false, and_self, if_true, if_false, Classical.not_not, Nat.add_assoc, Nat.zero_add, Nat.add_zero, bI_or, bI_True, bI_False, Bool.false_eq_true, reduceCtorEq, eq_self, gi_si, gl_si, gr_si, hn_si, hL_si, hX_si, gi_sl, gl_sl, gr_sl, hn_sl, ob_si, ar_si, ob_sl, ar_sl, ks_264_0, ks_264_1, ks_264_2, ks_264_3, oO_1, c1, Cal_eq r2, oO_2, Cal_eq r3, oO_3, Cal_eq r4, Cal_eq r5])
                    exact hn
              · rintro w h1 ⟨ha, A1, K1, P1, F1⟩
                have B1 := F1.bs hB
                have oO_1 := (O_facts B1).1
                have c1 : gi h1 87 27 = iN (cw (xN x)) := P1.2.1
                have hQ := hQ h1 A1 P1 F1
                have hbw := bw_lt hW n
                rw [bp_am hW n] at ha ⊢
                have hb := ha _ _ rfl
                simp only [amA, amL]
                have e26 : gr h1 87 26 = some 102 := B1.r (by decide)
                have g102 : ar h1 1 102 := B1.ar (by decide) (by decide)
                have s102 : (SH 102).2 = 456 := by decide
                have w1 := P1.2.2 (bwN x n) hbw q hi
                (refine wp_go 600 ks_264_1.2.2.2.2.2.2.2.2.2.2.2.2.1 ?_; simp (disch := first | with_reducible assumption | omega | (simp only [ob_si, ar_si, ob_sl, ar_sl]; with_reducible assumption)) only [ci_0, ci_1, ci_6, ci_99, cm_1, iN_l, inc_i, jN_add, jN_div, jN_eq, jN_le, jN_lt, jN_mod, jN_mul, jN_sub, l0, lc_eq, lc_ge, lc_gt, lc_le, lc_lt, ldA_a, ldI_i, oc_201, oc_218, oc_219, oc_236, oc_237, oc_261, oc_262, r_0, r_10, r_11, r_12, r_2, r_27, r_3, r_30, r_31, r_33, r_34, r_44, r_6, r_60, r_62, r_63, r_7, r_70, r_80_1, r_80_2, r_81_3, r_9, r_90, wpn_S, wpn_zero, stp_h, lk_0, lk_s, st1_0, st1_1, st1_2, st2_0, st2_1, st2_2, kj_i, kj_a, kj_l, kj_n, cat_n, cat_i, cat_a, cat_u, cat_l, vc_i, vc_a, rv_s, tl_n, tl_s, Cal'_s, List.length_cons, List.length_nil, i0, i1, iNd, iN_lt, iN_le, iN_eq, iN_add, iN_mul, iN_mod, iN_sub, iN_div, iN_clamp, iN_inb, zle_N, zlt_N, zN_le, zN_lt, zN_eq, Nz_eq, bI_0, bI_1, bI_t, bI_f, dltT, dltF, dleT, dleF, deqT, deqF, Nat.not_lt_zero, not_true_eq_false, not_false_eq_true, true_and, and_true, false_and, and_false, or_true, true_or, false_or, or_false, and_self, if_true, if_false, Classical.not_not, Nat.add_assoc, Nat.zero_add, Nat.add_zero, bI_or, bI_True, bI_False, Bool.false_eq_true, reduceCtorEq, eq_self, gi_si, gl_si, gr_si, hn_si, hL_si, hX_si, gi_sl, gl_sl, gr_sl, hn_sl, ob_si, ar_si, ob_sl, ar_sl, ks_264_0, ks_264_1, ks_264_2, ks_264_3, oO_1, c1, e26, g102, s102, w1])
                exact hQ
            obtain ⟨v, h', r, rfl, A, P, f⟩ := Ret_ex (d := 4) (y := 264) (as := [.ref 87, .int (iN n), .int (iN q)]) [some (.ref 87), some (.int (iN n)), some (.int (iN q)), none, none, none, none, none] rfl rfl (key (fun v h' => v = some (.int (mI (wy (xN x) (bwN x n) q))) ∧ Ao h' x ∧ Pl h' (xN x) ∧ Fo Syp Fyp h h') fun h' a b c => ⟨rfl, a, b, c⟩)
            exact ⟨h', Ret.up (d := 4) r (by decide), A, P.pd hW.1, f⟩
        · obtain ⟨b3, b4, b5, b6⟩ := notP_f b0 hn (by omega)
          refine op_refuse hs (k := 6) (by decide) (v := .int (zI (-6))) (fun h hB hI => Ret.up (d := 13) ?_ (by decide)) (fun h hB hI => Ret.up (d := 4) ?_ (by decide))
          · obtain ⟨oF, g0, g1, g2, g4, g5, g6, g7, g8, g9, g10, g11, g12, g13, o21, o22, o23, o28, o29, o32, o34, o36, oM⟩ := F_facts hB; obtain ⟨hA, iI, ⟨nx, hP⟩, hR, hL, hF, hT⟩ := id hI; have hW := hs.1; have hm : isM 1 := Or.inl rfl; have wN := hW.1
            refine Ret_L [some (.ref 0), some (.int a), some (.int (iN q))] rfl rfl fun Q hQ => ?_
            (refine wp_go 600 ks_164_0.1 ?_; simp (disch := first | with_reducible assumption | omega | (simp only [ob_si, ar_si, ob_sl, ar_sl]; with_reducible assumption)) only [ci_99, cm_1, cm_4, cm_6, ldA_a, ldI_i, oc_191, oc_25, oc_82, oc_83, r_0, r_2, r_30, r_32, r_34, r_41, r_42, r_46, r_6, r_62, r_80_2, r_80_3, r_90, wpn_S, wpn_zero, stp_h, lk_0, lk_s, st1_0, st1_1, st1_2, st2_0, st2_1, st2_2, kj_i, kj_a, kj_l, kj_n, cat_n, cat_i, cat_a, cat_u, cat_l, vc_i, vc_a, rv_s, tl_n, tl_s, Cal'_s, List.length_cons, List.length_nil, i0, i1, iNd, iN_lt, iN_le, iN_eq, iN_add, iN_mul, iN_mod, iN_sub, iN_div, iN_clamp, iN_inb, zle_N, zlt_N, zN_le, zN_lt, zN_eq, Nz_eq, mI_t, mI_f, bI_0, bI_1, bI_t, bI_f, dltT, dltF, dleT, dleF, deqT, deqF, Nat.not_lt_zero, not_true_eq_false, not_false_eq_true, true_and, and_true, false_and, and_false, or_true, true_or, false_or, or_false, and_self, if_true, if_false, Classical.not_not, Nat.add_assoc, Nat.zero_add, Nat.add_zero, bI_or, bI_True, bI_False, Bool.false_eq_true, reduceCtorEq, eq_self, gi_si, gl_si, gr_si, hn_si, hL_si, hX_si, gi_sl, gl_sl, gr_sl, hn_sl, ob_si, ar_si, ob_sl, ar_sl, ks_164_0, ks_164_1, oF, g0, g1, g2, g4, g5, g6, g7, g8, g9, g10, g11, g12, g13, o21, o22, o23, o28, o29, o32, o34, o36, oM, oM, c_hasT_q hm hB hA hW, b1, b2, b3, b4, b5, b6, c_ref6_q hB])
            exact hQ
          · have oO := (O_facts hB).1; obtain ⟨hA, hIr, f0⟩ := IO_0 hI; replace hB := Bs.si hB 87 7 (iN 0); have hW := hs.1; obtain ⟨oO2, rO1, rO2, rO3, rO4, rO5, rO8, aO1, aO2, aO3, aO4, aO5, aO8, sO1, sO2, sO3, sO4, sO5, sO8⟩ := O_facts hB; obtain ⟨fN, fD, fK, fF, fH, fM, fQ⟩ := id hA; obtain ⟨wN, wK, wF, wH, wM, wQ, wS, wZ, wT⟩ := id hW
            refine Ret_L [some (.ref 87), some (.int a), some (.int (iN q)), none, none, none, none, none] rfl rfl fun Q hQ => ?_
            (refine wp_go 600 ks_264_0.1 ?_; simp (disch := first | with_reducible assumption | omega | (simp only [ob_si, ar_si, ob_sl, ar_sl]; with_reducible assumption)) only [ci_0, ci_1, ci_6, ci_99, cm_1, iN_l, inc_i, jN_add, jN_div, jN_eq, jN_le, jN_lt, jN_mod, jN_mul, jN_sub, l0, lc_eq, lc_ge, lc_gt, lc_le, lc_lt, ldA_a, ldI_i, oc_201, oc_218, oc_219, oc_236, oc_237, oc_261, oc_262, r_0, r_10, r_11, r_12, r_2, r_27, r_3, r_30, r_31, r_33, r_34, r_44, r_6, r_60, r_62, r_63, r_7, r_70, r_80_1, r_80_2, r_81_3, r_9, r_90, wpn_S, wpn_zero, stp_h, lk_0, lk_s, st1_0, st1_1, st1_2, st2_0, st2_1, st2_2, kj_i, kj_a, kj_l, kj_n, cat_n, cat_i, cat_a, cat_u, cat_l, vc_i, vc_a, rv_s, tl_n, tl_s, Cal'_s, List.length_cons, List.length_nil, i0, i1, iNd, iN_lt, iN_le, iN_eq, iN_add, iN_mul, iN_mod, iN_div, iN_clamp, iN_inb, zle_N, zlt_N, zN_le, zN_lt, zN_eq, Nz_eq, mI_t, mI_f, bI_0, bI_1, bI_t, bI_f, dltT, dltF, dleT, dleF, deqT, deqF, Nat.not_lt_zero, not_true_eq_false, not_false_eq_true, true_and, and_true, false_and, and_false, or_true, true_or, false_or, or_false, and_self, if_true, if_false, Classical.not_not, Nat.add_assoc, Nat.zero_add, Nat.add_zero, bI_or, bI_True, bI_False, Bool.false_eq_true, reduceCtorEq, eq_self, gi_si, gl_si, gr_si, hn_si, hL_si, hX_si, gi_sl, gl_sl, gr_sl, hn_sl, ob_si, ar_si, ob_sl, ar_sl, ks_264_0, ks_264_1, ks_264_2, ks_264_3, oO, oO, oO2, rO1, rO2, rO3, rO4, rO5, rO8, aO1, aO2, aO3, aO4, aO5, aO8, fN, fD, fK, fF, fH, fM, fQ, o_in_q trivial, in_m1, in_z, in_zn, in_q, in_qn, isP_N, o_wn_q trivial, b1, b2, b3, b4, b5, b6, o_ref6_q hB])
            exact hQ
    · refine op_refuse hs (k := 1) (by decide) (v := .int (zI (-1))) (fun h hB hI => Ret.up (d := 13) ?_ (by decide)) (fun h hB hI => Ret.up (d := 4) ?_ (by decide))
      · obtain ⟨oF, g0, g1, g2, g4, g5, g6, g7, g8, g9, g10, g11, g12, g13, o21, o22, o23, o28, o29, o32, o34, o36, oM⟩ := F_facts hB; obtain ⟨hA, iI, ⟨nx, hP⟩, hR, hL, hF, hT⟩ := id hI; have hW := hs.1; have hm : isM 1 := Or.inl rfl; have wN := hW.1
        refine Ret_L [some (.ref 0), some (.int a), some (.int b)] rfl rfl fun Q hQ => ?_
        (refine wp_go 600 ks_164_0.1 ?_; simp (disch := first | with_reducible assumption | omega | (simp only [ob_si, ar_si, ob_sl, ar_sl]; with_reducible assumption)) only [ci_99, cm_1, cm_4, cm_6, ldA_a, ldI_i, oc_191, oc_25, oc_82, oc_83, r_0, r_2, r_30, r_32, r_34, r_41, r_42, r_46, r_6, r_62, r_80_2, r_80_3, r_90, wpn_S, wpn_zero, stp_h, lk_0, lk_s, st1_0, st1_1, st1_2, st2_0, st2_1, st2_2, kj_i, kj_a, kj_l, kj_n, cat_n, cat_i, cat_a, cat_u, cat_l, vc_i, vc_a, rv_s, tl_n, tl_s, Cal'_s, List.length_cons, List.length_nil, i0, i1, iNd, iN_lt, iN_le, iN_eq, iN_add, iN_mul, iN_mod, iN_sub, iN_div, iN_clamp, iN_inb, zle_N, zlt_N, zN_le, zN_lt, zN_eq, Nz_eq, mI_t, mI_f, bI_0, bI_1, bI_t, bI_f, dltT, dltF, dleT, dleF, deqT, deqF, Nat.not_lt_zero, not_true_eq_false, not_false_eq_true, true_and, and_true, false_and, and_false, or_true, true_or, false_or, or_false, and_self, if_true, if_false, Classical.not_not, Nat.add_assoc, Nat.zero_add, Nat.add_zero, bI_or, bI_True, bI_False, Bool.false_eq_true, reduceCtorEq, eq_self, gi_si, gl_si, gr_si, hn_si, hL_si, hX_si, gi_sl, gl_sl, gr_sl, hn_sl, ob_si, ar_si, ob_sl, ar_sl, ks_164_0, ks_164_1, oF, g0, g1, g2, g4, g5, g6, g7, g8, g9, g10, g11, g12, g13, o21, o22, o23, o28, o29, o32, o34, o36, oM, oM, c_hasF_q hm hB hA hW, hP, hm1, c_ref1_q hB])
        exact hQ
      · have oO := (O_facts hB).1; obtain ⟨hA, hIr, f0⟩ := IO_0 hI; replace hB := Bs.si hB 87 7 (iN 0); have hW := hs.1; obtain ⟨oO2, rO1, rO2, rO3, rO4, rO5, rO8, aO1, aO2, aO3, aO4, aO5, aO8, sO1, sO2, sO3, sO4, sO5, sO8⟩ := O_facts hB; obtain ⟨fN, fD, fK, fF, fH, fM, fQ⟩ := id hA; obtain ⟨wN, wK, wF, wH, wM, wQ, wS, wZ, wT⟩ := id hW
        refine Ret_L [some (.ref 87), some (.int a), some (.int b), none, none, none, none, none] rfl rfl fun Q hQ => ?_
        (refine wp_go 600 ks_264_0.1 ?_; simp (disch := first | with_reducible assumption | omega | (simp only [ob_si, ar_si, ob_sl, ar_sl]; with_reducible assumption)) only [ci_0, ci_1, ci_6, ci_99, cm_1, iN_l, inc_i, jN_add, jN_div, jN_eq, jN_le, jN_lt, jN_mod, jN_mul, jN_sub, l0, lc_eq, lc_ge, lc_gt, lc_le, lc_lt, ldA_a, ldI_i, oc_201, oc_218, oc_219, oc_236, oc_237, oc_261, oc_262, r_0, r_10, r_11, r_12, r_2, r_27, r_3, r_30, r_31, r_33, r_34, r_44, r_6, r_60, r_62, r_63, r_7, r_70, r_80_1, r_80_2, r_81_3, r_9, r_90, wpn_S, wpn_zero, stp_h, lk_0, lk_s, st1_0, st1_1, st1_2, st2_0, st2_1, st2_2, kj_i, kj_a, kj_l, kj_n, cat_n, cat_i, cat_a, cat_u, cat_l, vc_i, vc_a, rv_s, tl_n, tl_s, Cal'_s, List.length_cons, List.length_nil, i0, i1, iNd, iN_lt, iN_le, iN_eq, iN_add, iN_mul, iN_mod, iN_div, iN_clamp, iN_inb, zle_N, zlt_N, zN_le, zN_lt, zN_eq, Nz_eq, mI_t, mI_f, bI_0, bI_1, bI_t, bI_f, dltT, dltF, dleT, dleF, deqT, deqF, Nat.not_lt_zero, not_true_eq_false, not_false_eq_true, true_and, and_true, false_and, and_false, or_true, true_or, false_or, or_false, and_self, if_true, if_false, Classical.not_not, Nat.add_assoc, Nat.zero_add, Nat.add_zero, bI_or, bI_True, bI_False, Bool.false_eq_true, reduceCtorEq, eq_self, gi_si, gl_si, gr_si, hn_si, hL_si, hX_si, gi_sl, gl_sl, gr_sl, hn_sl, ob_si, ar_si, ob_sl, ar_sl, ks_264_0, ks_264_1, ks_264_2, ks_264_3, oO, oO, oO2, rO1, rO2, rO3, rO4, rO5, rO8, aO1, aO2, aO3, aO4, aO5, aO8, fN, fD, fK, fF, fH, fM, fQ, o_in_q trivial, in_m1, hm1, hP, o_ref1_q hB])
        exact hQ
