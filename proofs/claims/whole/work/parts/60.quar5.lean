/-! a quarter: the call -/
theorem yk_ok {v : Nat → Nat} {y : Mt} {K : Nat} (h : fxO v y K = none) : ∃ z, ykN v y K = some z := by
  cases K with
  | zero => exact ⟨y, rfl⟩
  | succ K =>
    have := (itx_ni _ _ _).mp h K (Nat.zero_le _) (by omega)
    cases e : ykN v y (K + 1) with
    | some z => exact ⟨z, rfl⟩
    | none => rw [fx_s e] at this; cases this
theorem fx_lt {v : Nat → Nat} {y : Mt} {k K : Nat} (h : fxO v y K = some k) : k < K := by
  obtain ⟨j, h1, h2, h3⟩ := itx_si _ _ _ h
  unfold fxF at h3
  split at h3
  · cases h3
  · cases h3; omega
theorem op_quF {yc ym : Nat} {as : List Value} {s : Gs} (hs : GW s) {r : Value} (hc : ∀ h, Bs h → IC h s → ∃ h', Ret 14 yc (.ref 0 :: as) h (some r) h' ∧ Lo h' 0 (gLv s) ∧ Fr (fun o => Sz o ∨ o = 32) h h') (hm : ∀ h, Bs h → IO h s → ∃ h', Ret 14 ym (.ref 87 :: as) h (some r) h' ∧ LoO h' 0 (gLv s) ∧ Ao h' (gX s) ∧ Fo Sy (fun k => Fy k ∨ k = 10) h h') (hv : kdV yc r := by first | (show ∃ x, _ = Value.int x; exact ⟨_, rfl⟩) | (show ∃ x, _ = Value.long x; exact ⟨_, rfl⟩)) : OpOk yc ym as s := by
  refine ⟨r, gL2 s 0 (gLv s), hv, ⟨hs.1, hs.2.1, hs.2.2.1, hs.2.2.2.1, Nat.zero_le _, hs.2.2.2.2.2⟩, fun h hB hI => ?_, fun h hB hI => ?_⟩
  · obtain ⟨h', r, R, f⟩ := hc h hB hI
    obtain ⟨a, b, ⟨nx, c⟩, d, e, g, w⟩ := hI
    refine ⟨h', r, ⟨a.fr f ?_, b.fr f ?_ ?_, ⟨nx, c.fr f ?_⟩, d.fr f ?_ ?_, R, ?_, w.fr f ?_⟩, f.mono fun o ho => by unfold Sz at ho; unfold Lc87; omega⟩
    · intro o h1 h2; unfold Sz; omega
    · unfold Sz; omega
    · intro o h1 h2; unfold Sz; omega
    · intro o h1 h2; unfold Sz; omega
    · unfold Sz; omega
    · unfold Sz; omega
    · rw [f.i (by unfold Sz; omega)]; exact g
    · unfold Sz; omega
  · obtain ⟨h', r, R, A1, f⟩ := hm h hB hI
    obtain ⟨A, a, b, c, d, e, g⟩ := hI
    refine ⟨h', r, ⟨A1, ?_, b.fr f (by unfold Sy; omega) (by unfold Fy; omega), ⟨?_, ?_⟩, R, ?_, ?_⟩, f.gc fun o ho => by unfold Sy at ho; omega⟩
    · show IoI h' (gI s)
      cases hi : gI s with
      | none => rw [hi] at a; show gi h' 87 19 = _; rw [f.2 19 (by unfold Fy; omega)]; exact a
      | some y => rw [hi] at a; exact ⟨by rw [f.2 19 (by unfold Fy; omega)]; exact a.1, a.2.fr f (by unfold Sy; omega) (by omega)⟩
    · rw [f.2 31 (by unfold Fy; omega)]; exact c.1
    · rw [f.i (o := 104) (by unfold Sy; omega) (by omega)]; exact c.2
    · rw [f.i (o := 93) (by unfold Sy; omega) (by omega)]; exact e
    · unfold Pd
      rw [f.2 28 (by unfold Fy; omega), f.2 27 (by unfold Fy; omega), f.i (o := 102) (by unfold Sy; omega) (by omega)]; exact g
theorem op_quT {yc ym : Nat} {as : List Value} {s : Gs} (hs : GW s) (z : Mt) (hz : Wf z) {r : Value} (hc : ∀ h, Bs h → IC h s → ∃ h' nx, Ret 14 yc (.ref 0 :: as) h (some r) h' ∧ Lo h' 0 (gLv s) ∧ At h' 1 z ∧ Pc h' nx [] ∧ Fr (fun o => Sw2 o ∨ o = 32) h h') (hm : ∀ h, Bs h → IO h s → ∃ h', Ret 14 ym (.ref 87 :: as) h (some r) h' ∧ LoO h' 0 (gLv s) ∧ Ao h' z ∧ Po h' [] ∧ Fo Sy2 (fun k => Fy2 k ∨ k = 10) h h') (hv : kdV yc r := by first | (show ∃ x, _ = Value.int x; exact ⟨_, rfl⟩) | (show ∃ x, _ = Value.long x; exact ⟨_, rfl⟩)) : OpOk yc ym as s := by
  refine ⟨r, gL2 (gN s z []) 0 (gLv s), hv, ⟨hz, hs.2.1, (fun y hy => by have hy : y ∈ ([] : List Mt) := hy; cases hy), hs.2.2.2.1, Nat.zero_le _, hs.2.2.2.2.2⟩, fun h hB hI => ?_, fun h hB hI => ?_⟩
  · obtain ⟨h', nx, r, R, A, P, f⟩ := hc h hB hI
    obtain ⟨a, b, _, d, e, g, w⟩ := hI
    refine ⟨h', r, ⟨A, b.fr f ?_ ?_, ⟨nx, P⟩, d.fr f ?_ ?_, R, ?_, w.fr f ?_⟩, f.mono fun o ho => by unfold Sw2 at ho; unfold Lc87; omega⟩
    · unfold Sw2; omega
    · intro o h1 h2; unfold Sw2; omega
    · unfold Sw2; omega
    · unfold Sw2; omega
    · rw [f.i (by unfold Sw2; omega)]; exact g
    · unfold Sw2; omega
  · obtain ⟨h', r, R, A1, P, f⟩ := hm h hB hI
    obtain ⟨A, a, b, c, d, e, g⟩ := hI
    refine ⟨h', r, ⟨A1, ?_, P, ⟨?_, ?_⟩, R, ?_, ?_⟩, f.gc fun o ho => by unfold Sy2 at ho; omega⟩
    · show IoI h' (gI s)
      cases hi : gI s with
      | none => rw [hi] at a; show gi h' 87 19 = _; rw [f.2 19 (by unfold Fy2; omega)]; exact a
      | some y => rw [hi] at a; exact ⟨by rw [f.2 19 (by unfold Fy2; omega)]; exact a.1, a.2.fr f (by unfold Sy2; omega) (by omega)⟩
    · rw [f.2 31 (by unfold Fy2; omega)]; exact c.1
    · rw [f.i (o := 104) (by unfold Sy2; omega) (by omega)]; exact c.2
    · rw [f.i (o := 93) (by unfold Sy2; omega) (by omega)]; exact e
    · unfold Pd
      rw [f.2 28 (by unfold Fy2; omega), f.2 27 (by unfold Fy2; omega), f.i (o := 102) (by unfold Sy2; omega) (by omega)]; exact g
theorem Td.fr {h h' : Hp} {v : Nat → Nat} {k a : Nat} {S F : Nat → Prop} (hD : Td h v k a) (f : Fo S F h h') (h1 : ¬ S 95) (h2 : ¬ S 96) (h3 : ¬ S 97) : Td h' v k a := by
  unfold Td Nm
  rw [f.i h1 (by omega), f.i h2 (by omega), f.i h3 (by omega)]; exact hD
/-- the model reads: all in form, or amiss -/
theorem mo_read {h : Hp} {n K t0 : Nat} {v : Nat → Nat} {Q : Option Value → Hp → Prop} (hB : Bs h) (hL : LoO h n v) (hn : n ≤ 96) (hv : ∀ k, v k ≤ 255) (hT : Tx v n K t0) (hP : Ps h (0, false)) (h13 : gi h 87 13 = iN 0) (hQ : ∀ h', (okP v n K t0 → Ps h' (n, false) ∧ gi h' 87 13 = iN K ∧ ∀ j, j < K → Td h' v j (qsN v j)) → (¬ okP v n K t0 → Ps h' (qsN v K + t0, true)) → Fo S957 F113 h h' → wp 5 233 20 [some (.ref 87), none] [] h' Q) : wp 5 233 20 [some (.ref 87), none] [] h Q := by
  have hTP := hT.1
  have h2K := sp_le (v := v) (Nat.zero_le K)
  have h4 := hTP.2.2.2
  have s0 : qsN v 0 = 0 := rfl
  refine wp_loop (fun k L h' => Ps h' (qsN v k, false) ∧ gi h' 87 13 = iN k ∧ (∀ j, j < k → Td h' v j (qsN v j)) ∧ Fo S957 F113 h h' ∧ L = [some (.ref 87), none]) K ?_ ?_ K 0 _ h (by omega) ⟨hP, h13, fun j hj => absurd hj (Nat.not_lt_zero j), Fo.rf _ _ h, rfl⟩
  · rintro k L h1 hk ⟨P1, n1, D1, f1, rfl⟩ hnx
    have B1 := f1.bs hB
    have L1 := hL.fr2 f1 (by unfold S957; omega) (by unfold F113; omega)
    have oO := (L_facts B1).1
    have hS := St_k hTP hk
    have hS2 := hS.2
    obtain ⟨p1, p2⟩ := id P1
    simp only at p1 p2
    rw [nB_f] at p2
    have l1 := L1.1
    obtain ⟨h2, r2, P2, n2, D2, k2, k3, f2⟩ := o_state (k := k) B1 L1 hn hv P1 (by omega) (by omega) n1
    rw [st_good hS] at P2 D2
    have hny := hnx _ h2 ⟨by rw [sp_s]; exact P2, n2, fun j hj => by
      by_cases e : j = k
      · rw [e]; exact D2 rfl
      · obtain ⟨d1, d2, d3, d4, d5⟩ := D1 j (by omega)
        refine ⟨by rw [(k2 j (by omega)).1]; exact d1, by rw [(k2 j (by omega)).2]; exact d2, by rw [k3 _ (by omega)]; exact d3, fun c => by rw [k3 _ (by omega)]; exact d4 c, fun c => by rw [k3 _ (by omega)]; exact d5 c⟩, f1.tr f2, rfl⟩
    clear hnx
    by_cases h0 : k = 0
    · subst h0
      (refine wp_go 600 ks_233_0.2.2.2.2.2.2.2.2.2.2.2.2.1 ?_; simp (disch := first | with_reducible assumption | omega | (simp only [ob_si, ar_si, ob_sl, ar_sl]; with_reducible assumption)) only [ci_0, ci_1, cm_1000, cm_2000, inc_i, ldA_a, ldI_i, oc_230, oc_232, oc_236, oc_237, r_0, r_11, r_2, r_3, r_30, r_31, r_32, r_44, r_6, r_60, r_62, r_63, r_64, r_70, r_80_1, r_80_2, r_9, r_90, wpn_S, wpn_zero, stp_h, lk_0, lk_s, st1_0, st1_1, st1_2, st2_0, st2_1, st2_2, kj_i, kj_a, kj_l, kj_n, cat_n, cat_i, cat_a, cat_u, cat_l, vc_i, vc_a, rv_s, tl_n, tl_s, Cal'_s, List.length_cons, List.length_nil, i0, i1, iNd, iN_lt, iN_le, iN_eq, iN_add, iN_mul, iN_mod, iN_sub, iN_div, iN_clamp, iN_inb, zle_N, zlt_N, zN_le, zN_lt, zN_eq, Nz_eq, mI_t, mI_f, bI_0, bI_1, bI_t, bI_f, dltT, dltF, dleT, dleF, deqT, deqF, Nat.not_lt_zero, not_true_eq_false, not_false_eq_true, true_and, and_true, false_and, and_false, or_true, true_or, false_or, or_false, and_self, if_true, if_false, Classical.not_not, Nat.add_assoc, Nat.zero_add, Nat.add_zero, bI_or, bI_True, bI_False, Bool.false_eq_true, reduceCtorEq, eq_self, gi_si, gl_si, gr_si, hn_si, hL_si, hX_si, gi_sl, gl_sl, gr_sl, hn_sl, ob_si, ar_si, ob_sl, ar_sl, ks_233_0, ks_233_1, ks_233_2, oO, p2, n1, Cal_eq r2])
      exact hny
    · (refine wp_go 600 ks_233_0.2.2.2.2.2.2.2.2.2.2.2.2.1 ?_; simp (disch := first | with_reducible assumption | omega | (simp only [ob_si, ar_si, ob_sl, ar_sl]; with_reducible assumption)) only [ci_0, ci_1, cm_1000, cm_2000, inc_i, ldA_a, ldI_i, oc_230, oc_232, oc_236, oc_237, r_0, r_11, r_2, r_3, r_30, r_31, r_32, r_44, r_6, r_60, r_62, r_63, r_64, r_70, r_80_1, r_80_2, r_9, r_90, wpn_S, wpn_zero, stp_h, lk_0, lk_s, st1_0, st1_1, st1_2, st2_0, st2_1, st2_2, kj_i, kj_a, kj_l, kj_n, cat_n, cat_i, cat_a, cat_u, cat_l, vc_i, vc_a, rv_s, tl_n, tl_s, Cal'_s, List.length_cons, List.length_nil, i0, i1, iNd, iN_lt, iN_le, iN_eq, iN_add, iN_mul, iN_mod, iN_sub, iN_div, iN_clamp, iN_inb, zle_N, zlt_N, zN_le, zN_lt, zN_eq, Nz_eq, mI_t, mI_f, bI_0, bI_1, bI_t, bI_f, dltT, dltF, dleT, dleF, deqT, deqF, Nat.not_lt_zero, not_true_eq_false, not_false_eq_true, true_and, and_true, false_and, and_false, or_true, true_or, false_or, or_false, and_self, if_true, if_false, Classical.not_not, Nat.add_assoc, Nat.zero_add, Nat.add_zero, bI_or, bI_True, bI_False, Bool.false_eq_true, reduceCtorEq, eq_self, gi_si, gl_si, gr_si, hn_si, hL_si, hX_si, gi_sl, gl_sl, gr_sl, hn_sl, ob_si, ar_si, ob_sl, ar_sl, ks_233_0, ks_233_1, ks_233_2, oO, p1, p2, n1, l1, Cal_eq r2])
      exact hny
  · rintro L h1 ⟨P1, n1, D1, f1, rfl⟩
    by_cases ho : okP v n K t0
    · have ho' := ho
      obtain ⟨o1, o2, o3⟩ := ho'
      rw [o3] at P1
      exact hQ h1 (fun _ => ⟨P1, n1, D1⟩) (fun e => absurd ho e) f1
    · have B1 := f1.bs hB
      have L1 := hL.fr2 f1 (by unfold S957; omega) (by unfold F113; omega)
      have oO := (L_facts B1).1
      obtain ⟨p1, p2⟩ := id P1
      simp only at p1 p2
      rw [nB_f] at p2
      have l1 := L1.1
      obtain ⟨h2, r2, P2, n2, D2, k2, k3, f2⟩ := o_state (k := K) B1 L1 hn hv P1 (by omega) (by omega) n1
      rw [st_bad hT (fun e => ho ⟨e.2.2, e.1, e.2.1⟩)] at P2
      have hR := hQ h2 (fun e => absurd e ho) (fun _ => P2) (f1.tr f2)
      clear hQ
      by_cases h0 : K = 0
      · subst h0
        (refine wp_go 600 ks_233_0.2.2.2.2.2.2.2.2.2.2.2.2.1 ?_; simp (disch := first | with_reducible assumption | omega | (simp only [ob_si, ar_si, ob_sl, ar_sl]; with_reducible assumption)) only [ci_0, ci_1, cm_1000, cm_2000, inc_i, ldA_a, ldI_i, oc_230, oc_232, oc_236, oc_237, r_0, r_11, r_2, r_3, r_30, r_31, r_32, r_44, r_6, r_60, r_62, r_63, r_64, r_70, r_80_1, r_80_2, r_9, r_90, wpn_S, wpn_zero, stp_h, lk_0, lk_s, st1_0, st1_1, st1_2, st2_0, st2_1, st2_2, kj_i, kj_a, kj_l, kj_n, cat_n, cat_i, cat_a, cat_u, cat_l, vc_i, vc_a, rv_s, tl_n, tl_s, Cal'_s, List.length_cons, List.length_nil, i0, i1, iNd, iN_lt, iN_le, iN_eq, iN_add, iN_mul, iN_mod, iN_sub, iN_div, iN_clamp, iN_inb, zle_N, zlt_N, zN_le, zN_lt, zN_eq, Nz_eq, mI_t, mI_f, bI_0, bI_1, bI_t, bI_f, dltT, dltF, dleT, dleF, deqT, deqF, Nat.not_lt_zero, not_true_eq_false, not_false_eq_true, true_and, and_true, false_and, and_false, or_true, true_or, false_or, or_false, and_self, if_true, if_false, Classical.not_not, Nat.add_assoc, Nat.zero_add, Nat.add_zero, bI_or, bI_True, bI_False, Bool.false_eq_true, reduceCtorEq, eq_self, gi_si, gl_si, gr_si, hn_si, hL_si, hX_si, gi_sl, gl_sl, gr_sl, hn_sl, ob_si, ar_si, ob_sl, ar_sl, ks_233_0, ks_233_1, ks_233_2, oO, p2, n1, Cal_eq r2])
        exact hR
      · have hl : qsN v K < n := by
          unfold okP at ho
          omega
        (refine wp_go 600 ks_233_0.2.2.2.2.2.2.2.2.2.2.2.2.1 ?_; simp (disch := first | with_reducible assumption | omega | (simp only [ob_si, ar_si, ob_sl, ar_sl]; with_reducible assumption)) only [ci_0, ci_1, cm_1000, cm_2000, inc_i, ldA_a, ldI_i, oc_230, oc_232, oc_236, oc_237, r_0, r_11, r_2, r_3, r_30, r_31, r_32, r_44, r_6, r_60, r_62, r_63, r_64, r_70, r_80_1, r_80_2, r_9, r_90, wpn_S, wpn_zero, stp_h, lk_0, lk_s, st1_0, st1_1, st1_2, st2_0, st2_1, st2_2, kj_i, kj_a, kj_l, kj_n, cat_n, cat_i, cat_a, cat_u, cat_l, vc_i, vc_a, rv_s, tl_n, tl_s, Cal'_s, List.length_cons, List.length_nil, i0, i1, iNd, iN_lt, iN_le, iN_eq, iN_add, iN_mul, iN_mod, iN_sub, iN_div, iN_clamp, iN_inb, zle_N, zlt_N, zN_le, zN_lt, zN_eq, Nz_eq, mI_t, mI_f, bI_0, bI_1, bI_t, bI_f, dltT, dltF, dleT, dleF, deqT, deqF, Nat.not_lt_zero, not_true_eq_false, not_false_eq_true, true_and, and_true, false_and, and_false, or_true, true_or, false_or, or_false, and_self, if_true, if_false, Classical.not_not, Nat.add_assoc, Nat.zero_add, Nat.add_zero, bI_or, bI_True, bI_False, Bool.false_eq_true, reduceCtorEq, eq_self, gi_si, gl_si, gr_si, hn_si, hL_si, hX_si, gi_sl, gl_sl, gr_sl, hn_sl, ob_si, ar_si, ob_sl, ar_sl, ks_233_0, ks_233_1, ks_233_2, oO, p1, p2, n1, l1, Cal_eq r2])
        exact hR
theorem Fo_957 {h h' : Hp} (f : Fo S957 F113 h h') : Fo Sy Fy h h' := f.mono (fun o ho => by unfold S957 at ho; unfold Sy; omega) (fun k hk => by unfold F113 at hk; unfold Fy; omega)
noncomputable def F10 : Nat → Prop := fun k => Fy k ∨ k = 10
theorem Fo_10 {h h' : Hp} (f : Fo Sy Fy h h') : Fo Sy F10 h h' := f.mono (fun o ho => ho) (fun k hk => Or.inl hk)
/-- the model's call, up to what is behind the reading -/
theorem mo_start {h : Hp} {s : Gs} {K t0 : Nat} {Q : Option Value → Hp → Prop} (hs : GW s) (hB : Bs h) (hI : IO h s) (hT : Tx (gLv s) (gLn s) K t0) (hQ : ∀ h', (okP (gLv s) (gLn s) K t0 → Ps h' (gLn s, false) ∧ gi h' 87 13 = iN K ∧ ∀ j, j < K → Td h' (gLv s) j (qsN (gLv s) j)) → (¬ okP (gLv s) (gLn s) K t0 → Ps h' (qsN (gLv s) K + t0, true)) → Ao h' (gX s) → LoO h' (gLn s) (gLv s) → Fo Sy Fy h h' → wp 5 233 20 [some (.ref 87), none] [] h' Q) : wp 5 233 0 [some (.ref 87), none] [] h Q := by
  obtain ⟨hn, hv⟩ : gLn s ≤ 96 ∧ ∀ k, gLv s k ≤ 255 := hs.2.2.2.2
  have oO := (O_facts hB).1
  obtain ⟨hA, hIr, f0⟩ := IO_0 hI
  have hLO : LoO (si h 87 7 (iN 0)) (gLn s) (gLv s) := hIr.2.2.2.1
  have f1 : Fo Sy Fy h (si (si (si (si h 87 7 (iN 0)) 87 11 (iN 0)) 87 12 (iN 0)) 87 13 (iN 0)) := ((f0.sf (by unfold Fy; omega) _).sf (by unfold Fy; omega) _).sf (by unfold Fy; omega) _
  have f2 : Fo noS F113 (si h 87 7 (iN 0)) (si (si (si (si h 87 7 (iN 0)) 87 11 (iN 0)) 87 12 (iN 0)) 87 13 (iN 0)) := (((Fo.rf _ _ _).sf (by unfold F113; omega) _).sf (by unfold F113; omega) _).sf (by unfold F113; omega) _
  have B1 := f1.bs hB
  have L1 := hLO.fr2 f2 id (by unfold F113; omega)
  have A1 : Ao (si (si (si (si h 87 7 (iN 0)) 87 11 (iN 0)) 87 12 (iN 0)) 87 13 (iN 0)) (gX s) := Ao_f (Ao_f (Ao_f hA (by omega) (by omega) _) (by omega) (by omega) _) (by omega) (by omega) _
  have P1 : Ps (si (si (si (si h 87 7 (iN 0)) 87 11 (iN 0)) 87 12 (iN 0)) 87 13 (iN 0)) (0, false) := ⟨by simp (disch := omega) only [gi_si, up_f, up_s], by simp (disch := omega) only [gi_si, up_f, up_s]; rfl⟩
  have n1 : gi (si (si (si (si h 87 7 (iN 0)) 87 11 (iN 0)) 87 12 (iN 0)) 87 13 (iN 0)) 87 13 = iN 0 := by rw [gi_si, up_s, up_s]
  have main := mo_read (Q := Q) B1 L1 hn hv hT P1 n1 fun h' a b f => hQ h' a b (A1.fr f (by intro o _ _; unfold S957; omega) (by unfold F113; omega) (by unfold F113; omega)) (L1.fr2 f (by unfold S957; omega) (by unfold F113; omega)) (f1.tr (Fo_957 f))
  (refine wp_go 600 ks_233_0.1 ?_; simp (disch := first | with_reducible assumption | omega | (simp only [ob_si, ar_si, ob_sl, ar_sl]; with_reducible assumption)) only [ci_0, ci_1, cm_1000, cm_2000, inc_i, ldA_a, ldI_i, oc_230, oc_232, oc_236, oc_237, r_0, r_11, r_2, r_3, r_30, r_31, r_32, r_44, r_6, r_60, r_62, r_63, r_64, r_70, r_80_1, r_80_2, r_9, r_90, wpn_S, wpn_zero, stp_h, lk_0, lk_s, st1_0, st1_1, st1_2, st2_0, st2_1, st2_2, kj_i, kj_a, kj_l, kj_n, cat_n, cat_i, cat_a, cat_u, cat_l, vc_i, vc_a, rv_s, tl_n, tl_s, Cal'_s, List.length_cons, List.length_nil, i0, i1, iNd, iN_lt, iN_le, iN_eq, iN_add, iN_mul, iN_mod, iN_sub, iN_div, iN_clamp, iN_inb, zle_N, zlt_N, zN_le, zN_lt, zN_eq, Nz_eq, mI_t, mI_f, bI_0, bI_1, bI_t, bI_f, dltT, dltF, dleT, dleF, deqT, deqF, Nat.not_lt_zero, not_true_eq_false, not_false_eq_true, true_and, and_true, false_and, and_false, or_true, true_or, false_or, or_false, and_self, if_true, if_false, Classical.not_not, Nat.add_assoc, Nat.zero_add, Nat.add_zero, bI_or, bI_True, bI_False, Bool.false_eq_true, reduceCtorEq, eq_self, gi_si, gl_si, gr_si, hn_si, hL_si, hX_si, gi_sl, gl_sl, gr_sl, hn_sl, ob_si, ar_si, ob_sl, ar_sl, ks_233_0, ks_233_1, ks_233_2, oO])
  exact main
theorem LoO_0 {h : Hp} {n : Nat} {v : Nat → Nat} (hL : LoO h n v) : LoO (si h 87 10 (iN 0)) 0 v := ⟨by rw [gi_si, up_s, up_s], fun k hk => by rw [gi_si, up_f (by omega)]; exact hL.2 k hk⟩
theorem Lo_0 {h : Hp} {n : Nat} {v : Nat → Nat} (hL : Lo h n v) : Lo (si h 32 2 (iN 0)) 0 v := ⟨by rw [gi_si, up_s, up_s], fun k hk => by rw [gi_si, up_f (by omega)]; exact hL.2 k hk⟩
theorem op_quBad {s : Gs} (hs : GW s) {K t0 : Nat} (hTx : Tx (gLv s) (gLn s) K t0) (ho : ¬ okP (gLv s) (gLn s) K t0) : OpOk 148 233 [] s := by
  obtain ⟨hn, hv⟩ : gLn s ≤ 96 ∧ ∀ k, gLv s k ≤ 255 := hs.2.2.2.2
  have h4 := hTx.1.2.2.2
  refine op_quF hs (r := .int (zI (-1000 - ((qsN (gLv s) K + t0 : Nat) : Int)))) (fun h hB hI => ?_) (fun h hB hI => ?_)
  · obtain ⟨oF, g0, g1, g2, g4, g5, g6, g7, g8, g9, g10, g11, g12, g13, o21, o22, o23, o28, o29, o32, o34, o36, oM⟩ := F_facts hB; obtain ⟨hA, iI, ⟨nx, hP⟩, hR, hL, hF, hT⟩ := id hI; have hW := hs.1; have hm : isM 1 := Or.inl rfl; have wN := hW.1
    obtain ⟨h1, r1, A1, f1⟩ := w_copy (m := 7) (p := 1) M7 hm (by omega) hB hA
    have B1 := f1.bs hB
    obtain ⟨oF_1, k0_1, k1_1, k2_1, k4_1, k5_1, k6_1, k7_1, k8_1, k9_1, k10_1, k11_1, k12_1, k13_1, u21_1, u22_1, u23_1, u28_1, u29_1, u32_1, u34_1, u36_1, uM_1⟩ := F_facts B1
    have L1 := hL.fr f1 (by unfold Sm; omega) (by unfold Sm; omega)
    have r2 := q_bad B1 L1 hn hv hTx ho
    rw [zN_sub] at r2
    have o7 : ob h 7 3 := hB.ob (by decide) (by decide)
    refine ⟨si h1 32 2 (iN 0), Ret.up (d := 7) ?_ (by decide), Lo_0 L1, (f1.mono (fun o ho => by unfold Sm at ho; unfold Sz; omega)).si (by unfold Sz; omega) _ _⟩
    refine Ret_L [some (.ref 0), none] rfl rfl fun Q hQ => ?_
    generalize qsN (gLv s) K + t0 = b at *
    (refine wp_go 600 ks_148_0.1 ?_; simp (disch := first | with_reducible assumption | omega | (simp only [ob_si, ar_si, ob_sl, ar_sl]; with_reducible assumption)) only [ldA_a, ldI_i, oc_100, oc_21, oc_92, oc_99, r_0, r_2, r_3, r_36, r_62, r_80_1, r_80_2, r_90, wpn_S, wpn_zero, stp_h, lk_0, lk_s, st1_0, st1_1, st1_2, st2_0, st2_1, st2_2, kj_i, kj_a, kj_l, kj_n, cat_n, cat_i, cat_a, cat_u, cat_l, vc_i, vc_a, rv_s, tl_n, tl_s, Cal'_s, List.length_cons, List.length_nil, i0, i1, iNd, iN_lt, iN_le, iN_eq, iN_add, iN_mul, iN_mod, iN_sub, iN_div, iN_clamp, iN_inb, zle_N, zlt_N, zN_le, zN_lt, zN_eq, Nz_eq, mI_t, mI_f, bI_0, bI_1, bI_t, bI_f, dltT, dltF, dleT, dleF, deqT, deqF, Nat.not_lt_zero, not_true_eq_false, not_false_eq_true, true_and, and_true, false_and, and_false, or_true, true_or, false_or, or_false, and_self, if_true, if_false, Classical.not_not, Nat.add_assoc, Nat.zero_add, Nat.add_zero, bI_or, bI_True, bI_False, Bool.false_eq_true, reduceCtorEq, eq_self, gi_si, gl_si, gr_si, hn_si, hL_si, hX_si, gi_sl, gl_sl, gr_sl, hn_sl, ob_si, ar_si, ob_sl, ar_sl, ks_148_0, ks_148_1, oF, g0, g1, g2, g4, g5, g6, g7, g8, g9, g10, g11, g12, g13, o21, o22, o23, o28, o29, o32, o34, o36, oM, oF_1, k0_1, k1_1, k2_1, k4_1, k5_1, k6_1, k7_1, k8_1, k9_1, k10_1, k11_1, k12_1, k13_1, u21_1, u22_1, u23_1, u28_1, u29_1, u32_1, u34_1, u36_1, uM_1, o7, Cal_eq r1, Cal_eq r2, q_forget_q B1])
    exact hQ
  · have key : ∀ Q : Option Value → Hp → Prop, (∀ h', LoO h' 0 (gLv s) → Ao h' (gX s) → Fo Sy F10 h h' → Q (some (.int (zI (-1000 - ((qsN (gLv s) K + t0 : Nat) : Int))))) h') → wp 5 233 0 [some (.ref 87), none] [] h Q := by
      intro Q hQ
      refine mo_start hs hB hI hTx fun h1 _ hb A1 L1 f1 => ?_
      obtain ⟨p1, p2⟩ := hb ho
      simp only at p1 p2
      rw [nB_t] at p2
      have oO := (O_facts (f1.bs hB)).1
      have hQ := hQ (si h1 87 10 (iN 0)) (LoO_0 L1) (Ao_f A1 (by omega) (by omega) _) ((Fo_10 f1).sf (Or.inr rfl) _)
      generalize qsN (gLv s) K + t0 = b at *
      (refine wp_go 600 ks_233_0.2.2.2.2.2.2.2.2.2.2.2.2.1 ?_; simp (disch := first | with_reducible assumption | omega | (simp only [ob_si, ar_si, ob_sl, ar_sl]; with_reducible assumption)) only [ci_0, ci_1, cm_1000, cm_2000, inc_i, ldA_a, ldI_i, oc_230, oc_232, oc_236, oc_237, r_0, r_11, r_2, r_3, r_30, r_31, r_32, r_44, r_6, r_60, r_62, r_63, r_64, r_70, r_80_1, r_80_2, r_9, r_90, wpn_S, wpn_zero, stp_h, lk_0, lk_s, st1_0, st1_1, st1_2, st2_0, st2_1, st2_2, kj_i, kj_a, kj_l, kj_n, cat_n, cat_i, cat_a, cat_u, cat_l, vc_i, vc_a, rv_s, tl_n, tl_s, Cal'_s, List.length_cons, List.length_nil, i0, i1, iNd, iN_lt, iN_le, iN_eq, iN_add, iN_mul, iN_mod, iN_sub, iN_div, iN_clamp, iN_inb, zle_N, zlt_N, zN_le, zN_lt, zN_eq, Nz_eq, mI_t, mI_f, bI_0, bI_1, bI_t, bI_f, dltT, dltF, dleT, dleF, deqT, deqF, Nat.not_lt_zero, not_true_eq_false, not_false_eq_true, true_and, and_true, false_and, and_false, or_true, true_or, false_or, or_false, and_self, if_true, if_false, Classical.not_not, Nat.add_assoc, Nat.zero_add, Nat.add_zero, bI_or, bI_True, bI_False, Bool.false_eq_true, reduceCtorEq, eq_self, gi_si, gl_si, gr_si, hn_si, hL_si, hX_si, gi_sl, gl_sl, gr_sl, hn_sl, ob_si, ar_si, ob_sl, ar_sl, ks_233_0, ks_233_1, ks_233_2, oO, p1, p2, zN_sub, up_t, up_f])
      exact hQ
    obtain ⟨u, h', r, rfl, a, b, c⟩ := Ret_ex (d := 5) (y := 233) (as := [.ref 87]) [some (.ref 87), none] rfl rfl (key (fun u h' => u = some (.int (zI (-1000 - ((qsN (gLv s) K + t0 : Nat) : Int)))) ∧ LoO h' 0 (gLv s) ∧ Ao h' (gX s) ∧ Fo Sy F10 h h') fun h' a b c => ⟨rfl, a, b, c⟩)
    exact ⟨h', Ret.up (d := 5) r (by decide), a, b, c⟩
/-- the second loop of the model: carried out, or the first that is not as it must be -/
theorem mo_carry {h : Hp} {n K : Nat} {v : Nat → Nat} {y : Mt} {Q : Option Value → Hp → Prop} (hB : Bs h) (hn : n ≤ 96) (hv : ∀ k, v k ≤ 255) (hT : TxP v n K 0) (hA : Ao h y) (hK : Kx h 98 y) (hW : Wf y) (h13 : gi h 87 13 = iN K) (hD : ∀ j, j < K → Td h v j (qsN v j)) (hbad : ∀ k h', fxO v y K = some k → Ao h' y → Fo (Sc 98) Fc h h' → Q (some (.int (zI (-2000 - ((qsN v k : Nat) : Int))))) h') (hok : ∀ z h', fxO v y K = none → ykN v y K = some z → Ao h' z → Fo Sq Fq h h' → wp 5 233 79 [some (.ref 87), some (.int (iN K))] [] h' Q) : wp 5 233 79 [some (.ref 87), some (.int (iN 0))] [] h Q := by
  have h2K := sp_le (v := v) (Nat.zero_le K)
  have h4 := hT.2.2.2
  refine wp_loop (fun k L h' => ∃ z, ykN v y k = some z ∧ itx (fxF v y) 0 k = none ∧ Ao h' z ∧ Fo Sq Fq h h' ∧ L = [some (.ref 87), some (.int (iN k))]) K ?_ ?_ K 0 _ h (by omega) ⟨y, rfl, rfl, hA, Fo.rf _ _ h, rfl⟩
  · rintro k L h1 hk ⟨z, hz, h0, A1, f1, rfl⟩ hnx
    have B1 := f1.bs hB
    obtain ⟨oO, r9, r14, r15, r16, a94, a95, a96, a97, s94, s95, s96, s97⟩ := L_facts B1
    have n1 : gi h1 87 13 = iN K := by rw [f1.2 13 (by unfold Fq; omega)]; exact h13
    have hS := St_k hT hk
    have D1 := (hD k hk).fr f1 (by unfold Sq; omega) (by unfold Sq; omega) (by unfold Sq; omega)
    obtain ⟨h2, r2, A2, f2⟩ := o_told B1 hv hS hn (by omega) D1 A1 (yk_W hT hW k z (by omega) hz)
    have B2 := f2.bs B1
    cases he : exM v (qsN v k) z with
    | some z2 =>
      rw [he, bI_t (by intro e; cases e)] at r2
      have hnx := hnx _ h2 ⟨z2, by rw [yk_s hz]; exact he, (itx_last _ _ _).mpr ⟨h0, by rw [Nat.zero_add]; exact fx_n (by rw [yk_s hz]; exact he)⟩, A2 z2 he, f1.tr f2, rfl⟩
      (refine wp_go 600 ks_233_1.2.2.2.2.2.2.2.2.2.2.2.2.2.2.2.2.2.1 ?_; simp (disch := first | with_reducible assumption | omega | (simp only [ob_si, ar_si, ob_sl, ar_sl]; with_reducible assumption)) only [ci_0, ci_1, cm_1000, cm_2000, inc_i, ldA_a, ldI_i, oc_230, oc_232, oc_236, oc_237, r_0, r_11, r_2, r_3, r_30, r_31, r_32, r_44, r_6, r_60, r_62, r_63, r_64, r_70, r_80_1, r_80_2, r_9, r_90, wpn_S, wpn_zero, stp_h, lk_0, lk_s, st1_0, st1_1, st1_2, st2_0, st2_1, st2_2, kj_i, kj_a, kj_l, kj_n, cat_n, cat_i, cat_a, cat_u, cat_l, vc_i, vc_a, rv_s, tl_n, tl_s, Cal'_s, List.length_cons, List.length_nil, i0, i1, iNd, iN_lt, iN_le, iN_eq, iN_add, iN_mul, iN_mod, iN_sub, iN_div, iN_clamp, iN_inb, zle_N, zlt_N, zN_le, zN_lt, zN_eq, Nz_eq, mI_t, mI_f, bI_0, bI_1, bI_t, bI_f, dltT, dltF, dleT, dleF, deqT, deqF, Nat.not_lt_zero, not_true_eq_false, not_false_eq_true, true_and, and_true, false_and, and_false, or_true, true_or, false_or, or_false, and_self, if_true, if_false, Classical.not_not, Nat.add_assoc, Nat.zero_add, Nat.add_zero, bI_or, bI_True, bI_False, Bool.false_eq_true, reduceCtorEq, eq_self, gi_si, gl_si, gr_si, hn_si, hL_si, hX_si, gi_sl, gl_sl, gr_sl, hn_sl, ob_si, ar_si, ob_sl, ar_sl, ks_233_0, ks_233_1, ks_233_2, oO, n1, Cal_eq r2])
      exact hnx
    | none =>
      rw [he, bI_f (fun e => e rfl)] at r2
      have hfx := fx_at (K := K) h0 (by rw [yk_s hz]; exact he) hk
      have K2 := (hK.fr f1 (by unfold Sq; omega) (by omega)).fr f2 (by unfold Sq; omega) (by omega)
      obtain ⟨h3, r3, A3, K3, f3⟩ := wo_again B2 K2
      have B3 := f3.bs B2
      obtain ⟨oO3, x9, x14, x15, x16, y94, y95, y96, y97, _⟩ := L_facts B3
      have oO2 := (O_facts B2).1
      have e95 : gi h3 95 k = iN (qsN v k) := by rw [f3.i (o := 95) (by unfold Sc; omega) (by omega), f2.i (o := 95) (by unfold Sq; omega) (by omega)]; exact D1.1
      have F3 : Fo (Sc 98) Fc h h3 := (((f1.tr f2).mono (fun o ho => Or.inl ho) (fun k hk => by unfold Fq at hk; unfold Fc; omega))).tr f3
      have hbad := hbad k h3 hfx A3 F3
      rw [show zI (-2000 - ((qsN v k : Nat) : Int)) = zI (-2000) - iN (qsN v k) by rw [zN_sub]] at hbad
      (refine wp_go 600 ks_233_1.2.2.2.2.2.2.2.2.2.2.2.2.2.2.2.2.2.1 ?_; simp (disch := first | with_reducible assumption | omega | (simp only [ob_si, ar_si, ob_sl, ar_sl]; with_reducible assumption)) only [ci_0, ci_1, cm_1000, cm_2000, inc_i, ldA_a, ldI_i, oc_230, oc_232, oc_236, oc_237, r_0, r_11, r_2, r_3, r_30, r_31, r_32, r_44, r_6, r_60, r_62, r_63, r_64, r_70, r_80_1, r_80_2, r_9, r_90, wpn_S, wpn_zero, stp_h, lk_0, lk_s, st1_0, st1_1, st1_2, st2_0, st2_1, st2_2, kj_i, kj_a, kj_l, kj_n, cat_n, cat_i, cat_a, cat_u, cat_l, vc_i, vc_a, rv_s, tl_n, tl_s, Cal'_s, List.length_cons, List.length_nil, i0, i1, iNd, iN_lt, iN_le, iN_eq, iN_add, iN_mul, iN_mod, iN_sub, iN_div, iN_clamp, iN_inb, zle_N, zlt_N, zN_le, zN_lt, zN_eq, Nz_eq, mI_t, mI_f, bI_0, bI_1, bI_t, bI_f, dltT, dltF, dleT, dleF, deqT, deqF, Nat.not_lt_zero, not_true_eq_false, not_false_eq_true, true_and, and_true, false_and, and_false, or_true, true_or, false_or, or_false, and_self, if_true, if_false, Classical.not_not, Nat.add_assoc, Nat.zero_add, Nat.add_zero, bI_or, bI_True, bI_False, Bool.false_eq_true, reduceCtorEq, eq_self, gi_si, gl_si, gr_si, hn_si, hL_si, hX_si, gi_sl, gl_sl, gr_sl, hn_sl, ob_si, ar_si, ob_sl, ar_sl, ks_233_0, ks_233_1, ks_233_2, oO, n1, Cal_eq r2, oO2, Cal_eq r3, oO3, x14, y95, s95, e95])
      exact hbad
  · rintro L h1 ⟨z, hz, h0, A1, f1, rfl⟩
    exact hok z h1 h0 hz A1 f1
theorem op_quarter {s : Gs} (hs : GW s) : OpOk 148 233 [] s := by
  obtain ⟨hn, hv⟩ : gLn s ≤ 96 ∧ ∀ k, gLv s k ≤ 255 := hs.2.2.2.2
  obtain ⟨K, t0, hTx⟩ := Tx_0 (gLv s) (gLn s)
  by_cases ho : okP (gLv s) (gLn s) K t0
  · have ho' := ho
    obtain ⟨o1, o2, o3⟩ := ho'
    subst o2
    have hTP := hTx.1
    have h2K := sp_le (v := gLv s) (Nat.zero_le K)
    have K0 : 0 < K := by
      by_cases e : K = 0
      · subst e
        change 0 = gLn s at o3
        omega
      · omega
    cases hfx : fxO (gLv s) (gX s) K with
    | some k =>
      have hkK := fx_lt hfx
      have hsk := (St_k hTP hkK).2
      refine op_quF hs (r := .int (zI (-2000 - ((qsN (gLv s) k : Nat) : Int)))) (fun h hB hI => ?_) (fun h hB hI => ?_)
      · obtain ⟨oF, g0, g1, g2, g4, g5, g6, g7, g8, g9, g10, g11, g12, g13, o21, o22, o23, o28, o29, o32, o34, o36, oM⟩ := F_facts hB; obtain ⟨hA, iI, ⟨nx, hP⟩, hR, hL, hF, hT⟩ := id hI; have hW := hs.1; have hm : isM 1 := Or.inl rfl; have wN := hW.1
        obtain ⟨h1, r1, A1, f1⟩ := w_copy (m := 7) (p := 1) M7 hm (by omega) hB hA
        have B1 := f1.bs hB
        obtain ⟨oF_1, k0_1, k1_1, k2_1, k4_1, k5_1, k6_1, k7_1, k8_1, k9_1, k10_1, k11_1, k12_1, k13_1, u21_1, u22_1, u23_1, u28_1, u29_1, u32_1, u34_1, u36_1, uM_1⟩ := F_facts B1
        have L1 := hL.fr f1 (by unfold Sm; omega) (by unfold Sm; omega)
        obtain ⟨h2, r2, A2, f2⟩ := q_good B1 L1 hn hv hTx ho A1 hW
        have B2 := f2.bs B1
        obtain ⟨oF_2, k0_2, k1_2, k2_2, k4_2, k5_2, k6_2, k7_2, k8_2, k9_2, k10_2, k11_2, k12_2, k13_2, u21_2, u22_2, u23_2, u28_2, u29_2, u32_2, u34_2, u36_2, uM_2⟩ := F_facts B2
        unfold fxV at r2
        rw [hfx] at r2
        simp only at r2
        rw [zN_sub] at r2
        have L2 := L1.fr f2 (by unfold Sd; omega) (by unfold Sd; omega)
        have o7 : ob h 7 3 := hB.ob (by decide) (by decide)
        refine ⟨si h2 32 2 (iN 0), Ret.up (d := 7) ?_ (by decide), Lo_0 L2, ((f1.mono (fun o ho => by unfold Sm at ho; unfold Sz; omega)).tr (f2.mono fun o ho => by unfold Sd at ho; unfold Sz; omega)).si (by unfold Sz; omega) _ _⟩
        refine Ret_L [some (.ref 0), none] rfl rfl fun Q hQ => ?_
        generalize qsN (gLv s) k = b at *
        (refine wp_go 600 ks_148_0.1 ?_; simp (disch := first | with_reducible assumption | omega | (simp only [ob_si, ar_si, ob_sl, ar_sl]; with_reducible assumption)) only [ldA_a, ldI_i, oc_100, oc_21, oc_92, oc_99, r_0, r_2, r_3, r_36, r_62, r_80_1, r_80_2, r_90, wpn_S, wpn_zero, stp_h, lk_0, lk_s, st1_0, st1_1, st1_2, st2_0, st2_1, st2_2, kj_i, kj_a, kj_l, kj_n, cat_n, cat_i, cat_a, cat_u, cat_l, vc_i, vc_a, rv_s, tl_n, tl_s, Cal'_s, List.length_cons, List.length_nil, i0, i1, iNd, iN_lt, iN_le, iN_eq, iN_add, iN_mul, iN_mod, iN_sub, iN_div, iN_clamp, iN_inb, zle_N, zlt_N, zN_le, zN_lt, zN_eq, Nz_eq, mI_t, mI_f, bI_0, bI_1, bI_t, bI_f, dltT, dltF, dleT, dleF, deqT, deqF, Nat.not_lt_zero, not_true_eq_false, not_false_eq_true, true_and, and_true, false_and, and_false, or_true, true_or, false_or, or_false, and_self, if_true, if_false, Classical.not_not, Nat.add_assoc, Nat.zero_add, Nat.add_zero, bI_or, bI_True, bI_False, Bool.false_eq_true, reduceCtorEq, eq_self, gi_si, gl_si, gr_si, hn_si, hL_si, hX_si, gi_sl, gl_sl, gr_sl, hn_sl, ob_si, ar_si, ob_sl, ar_sl, ks_148_0, ks_148_1, oF, g0, g1, g2, g4, g5, g6, g7, g8, g9, g10, g11, g12, g13, o21, o22, o23, o28, o29, o32, o34, o36, oM, oF_1, k0_1, k1_1, k2_1, k4_1, k5_1, k6_1, k7_1, k8_1, k9_1, k10_1, k11_1, k12_1, k13_1, u21_1, u22_1, u23_1, u28_1, u29_1, u32_1, u34_1, u36_1, uM_1, oF_2, k0_2, k1_2, k2_2, k4_2, k5_2, k6_2, k7_2, k8_2, k9_2, k10_2, k11_2, k12_2, k13_2, u21_2, u22_2, u23_2, u28_2, u29_2, u32_2, u34_2, u36_2, uM_2, o7, Cal_eq r1, Cal_eq r2, q_forget_q B2])
        exact hQ
      · have key : ∀ Q : Option Value → Hp → Prop, (∀ h', LoO h' 0 (gLv s) → Ao h' (gX s) → Fo Sy F10 h h' → Q (some (.int (zI (-2000 - ((qsN (gLv s) k : Nat) : Int))))) h') → wp 5 233 0 [some (.ref 87), none] [] h Q := by
          intro Q hQ
          refine mo_start hs hB hI hTx fun h1 hg _ A1 L1 f1 => ?_
          obtain ⟨⟨p1, p2⟩, n1, D1⟩ := hg ho
          simp only at p1 p2
          rw [nB_f] at p2
          have oO := (O_facts (f1.bs hB)).1
          have l1 := L1.1
          have F2 : Fo Sy F10 h (si h1 87 10 (iN 0)) := (Fo_10 f1).sf (Or.inr rfl) _
          have F2' : Fo noS (fun k => k = 10) h1 (si h1 87 10 (iN 0)) := (Fo.rf noS (fun k => k = 10) h1).sf (show (fun k => k = 10) 10 from rfl) _
          have B2 := F2.bs hB
          have A2 : Ao (si h1 87 10 (iN 0)) (gX s) := Ao_f A1 (by omega) (by omega) _
          have L2 := LoO_0 L1
          have p2' : gi (si h1 87 10 (iN 0)) 87 12 = iN 0 := by rw [F2'.2 12 (by omega)]; exact p2
          obtain ⟨h3, r3, A3, K3, f3⟩ := wo_think B2 A2
          have B3 := f3.bs B2
          have n3 : gi h3 87 13 = iN K := by rw [f3.2 13 (by unfold Fc; omega), F2'.2 13 (by omega)]; exact n1
          have D3 : ∀ j, j < K → Td h3 (gLv s) j (qsN (gLv s) j) := fun j hj => ((D1 j hj).fr F2' id id id).fr f3 (by unfold Sc; omega) (by unfold Sc; omega) (by unfold Sc; omega)
          have L3 := L2.fr2 f3 (by unfold Sc; omega) (by unfold Fc; omega)
          have F3 : Fo Sy F10 h h3 := F2.tr (Fo_10 (Fo_y98 f3))
          have main := mo_carry (Q := Q) B3 hn hv hTP A3 K3 hs.1 n3 D3 (fun k2 h4 e A4 f4 => by
            rw [hfx] at e
            cases e
            exact hQ h4 (L3.fr2 f4 (by unfold Sc; omega) (by unfold Fc; omega)) A4 (F3.tr (Fo_10 (Fo_y98 f4)))) (fun z h4 e => by rw [hfx] at e; cases e)
          (refine wp_go 600 ks_233_0.2.2.2.2.2.2.2.2.2.2.2.2.1 ?_; simp (disch := first | with_reducible assumption | omega | (simp only [ob_si, ar_si, ob_sl, ar_sl]; with_reducible assumption)) only [ci_0, ci_1, cm_1000, cm_2000, inc_i, ldA_a, ldI_i, oc_230, oc_232, oc_236, oc_237, r_0, r_11, r_2, r_3, r_30, r_31, r_32, r_44, r_6, r_60, r_62, r_63, r_64, r_70, r_80_1, r_80_2, r_9, r_90, wpn_S, wpn_zero, stp_h, lk_0, lk_s, st1_0, st1_1, st1_2, st2_0, st2_1, st2_2, kj_i, kj_a, kj_l, kj_n, cat_n, cat_i, cat_a, cat_u, cat_l, vc_i, vc_a, rv_s, tl_n, tl_s, Cal'_s, List.length_cons, List.length_nil, i0, i1, iNd, iN_lt, iN_le, iN_eq, iN_add, iN_mul, iN_mod, iN_sub, iN_div, iN_clamp, iN_inb, zle_N, zlt_N, zN_le, zN_lt, zN_eq, Nz_eq, mI_t, mI_f, bI_0, bI_1, bI_t, bI_f, dltT, dltF, dleT, dleF, deqT, deqF, Nat.not_lt_zero, not_true_eq_false, not_false_eq_true, true_and, and_true, false_and, and_false, or_true, true_or, false_or, or_false, and_self, if_true, if_false, Classical.not_not, Nat.add_assoc, Nat.zero_add, Nat.add_zero, bI_or, bI_True, bI_False, Bool.false_eq_true, reduceCtorEq, eq_self, gi_si, gl_si, gr_si, hn_si, hL_si, hX_si, gi_sl, gl_sl, gr_sl, hn_sl, ob_si, ar_si, ob_sl, ar_sl, ks_233_0, ks_233_1, ks_233_2, oO, p1, p2, n1, l1, p2', Cal_eq r3])
          exact main
        obtain ⟨u, h', r, rfl, a, b, c⟩ := Ret_ex (d := 5) (y := 233) (as := [.ref 87]) [some (.ref 87), none] rfl rfl (key (fun u h' => u = some (.int (zI (-2000 - ((qsN (gLv s) k : Nat) : Int)))) ∧ LoO h' 0 (gLv s) ∧ Ao h' (gX s) ∧ Fo Sy F10 h h') fun h' a b c => ⟨rfl, a, b, c⟩)
        exact ⟨h', Ret.up (d := 5) r (by decide), a, b, c⟩
    | none =>
      obtain ⟨z, hz⟩ := yk_ok hfx
      have hWz := yk_W hTP hs.1 K z (Nat.le_refl _) hz
      refine op_quT hs z hWz (r := .int (iN K)) (fun h hB hI => ?_) (fun h hB hI => ?_)
      · obtain ⟨oF, g0, g1, g2, g4, g5, g6, g7, g8, g9, g10, g11, g12, g13, o21, o22, o23, o28, o29, o32, o34, o36, oM⟩ := F_facts hB; obtain ⟨hA, iI, ⟨nx, hP⟩, hR, hL, hF, hT⟩ := id hI; have hW := hs.1; have hm : isM 1 := Or.inl rfl; have wN := hW.1
        obtain ⟨h1, r1, A1, f1⟩ := w_copy (m := 7) (p := 1) M7 hm (by omega) hB hA
        have B1 := f1.bs hB
        obtain ⟨oF_1, k0_1, k1_1, k2_1, k4_1, k5_1, k6_1, k7_1, k8_1, k9_1, k10_1, k11_1, k12_1, k13_1, u21_1, u22_1, u23_1, u28_1, u29_1, u32_1, u34_1, u36_1, uM_1⟩ := F_facts B1
        have L1 := hL.fr f1 (by unfold Sm; omega) (by unfold Sm; omega)
        obtain ⟨h2, r2, A2, f2⟩ := q_good B1 L1 hn hv hTx ho A1 hW
        have A2 := A2 z hfx hz
        have B2 := f2.bs B1
        obtain ⟨oF_2, k0_2, k1_2, k2_2, k4_2, k5_2, k6_2, k7_2, k8_2, k9_2, k10_2, k11_2, k12_2, k13_2, u21_2, u22_2, u23_2, u28_2, u29_2, u32_2, u34_2, u36_2, uM_2⟩ := F_facts B2
        unfold fxV at r2
        rw [hfx] at r2
        simp only at r2
        have L2 := L1.fr f2 (by unfold Sd; omega) (by unfold Sd; omega)
        have f3 : Fr (fun o => o = 32) h2 (si h2 32 2 (iN 0)) := (Fr.rf (fun o => o = 32) h2).si (o := 32) rfl _ _
        have B3 := f3.bs B2
        obtain ⟨oF_3, k0_3, k1_3, k2_3, k4_3, k5_3, k6_3, k7_3, k8_3, k9_3, k10_3, k11_3, k12_3, k13_3, u21_3, u22_3, u23_3, u28_3, u29_3, u32_3, u34_3, u36_3, uM_3⟩ := F_facts B3
        have A3 : At (si h2 32 2 (iN 0)) 7 z := A2.fr f3 (by intro o _ _; omega)
        obtain ⟨h4, r4, A4, f4⟩ := w_copy (m := 1) (p := 7) hm M7 (by omega) B3 A3
        have B4 := f4.bs B3
        obtain ⟨oF_4, k0_4, k1_4, k2_4, k4_4, k5_4, k6_4, k7_4, k8_4, k9_4, k10_4, k11_4, k12_4, k13_4, u21_4, u22_4, u23_4, u28_4, u29_4, u32_4, u34_4, u36_4, uM_4⟩ := F_facts B4
        have L4 := (Lo_0 L2).fr f4 (by unfold Sm; omega) (by unfold Sm; omega)
        have P1 : Pc h1 nx (gP s) := hP.fr f1 (by intro o h1 h2; unfold Sm; omega)
        have P2 : Pc h2 nx (gP s) := P1.fr f2 (by intro o h1 h2; unfold Sd; omega)
        have P3 : Pc (si h2 32 2 (iN 0)) nx (gP s) := P2.fr f3 (by intro o h1 h2; omega)
        have P4 : Pc h4 nx (gP s) := P3.fr f4 (by intro o h1 h2; unfold Sm; omega)
        have f5 : Fr (fun o => o = 36) h4 (si h4 36 2 (iN 0)) := (Fr.rf (fun o => o = 36) h4).si (o := 36) rfl _ _
        have o7 : ob h 7 3 := hB.ob (by decide) (by decide)
        have F : Fr (fun o => Sw2 o ∨ o = 32) h (si h4 36 2 (iN 0)) := ((((f1.mono (fun o ho => by unfold Sm at ho; unfold Sw2; omega)).tr (f2.mono fun o ho => by unfold Sd at ho; unfold Sw2; omega)).tr (f3.mono fun o ho => Or.inr ho)).tr (f4.mono fun o ho => by unfold Sm at ho; unfold Sw2; omega)).tr (f5.mono fun o ho => by unfold Sw2; omega)
        refine ⟨si h4 36 2 (iN 0), nx, Ret.up (d := 7) ?_ (by decide), L4.fr f5 (by omega) (by omega), A4.fr f5 (by intro o _ _; omega), Pc_0 P4, F⟩
        refine Ret_L [some (.ref 0), none] rfl rfl fun Q hQ => ?_
        (refine wp_go 600 ks_148_0.1 ?_; simp (disch := first | with_reducible assumption | omega | (simp only [ob_si, ar_si, ob_sl, ar_sl]; with_reducible assumption)) only [ldA_a, ldI_i, oc_100, oc_21, oc_92, oc_99, r_0, r_2, r_3, r_36, r_62, r_80_1, r_80_2, r_90, wpn_S, wpn_zero, stp_h, lk_0, lk_s, st1_0, st1_1, st1_2, st2_0, st2_1, st2_2, kj_i, kj_a, kj_l, kj_n, cat_n, cat_i, cat_a, cat_u, cat_l, vc_i, vc_a, rv_s, tl_n, tl_s, Cal'_s, List.length_cons, List.length_nil, i0, i1, iNd, iN_lt, iN_le, iN_eq, iN_add, iN_mul, iN_mod, iN_sub, iN_div, iN_clamp, iN_inb, zle_N, zlt_N, zN_le, zN_lt, zN_eq, Nz_eq, mI_t, mI_f, bI_0, bI_1, bI_t, bI_f, dltT, dltF, dleT, dleF, deqT, deqF, Nat.not_lt_zero, not_true_eq_false, not_false_eq_true, true_and, and_true, false_and, and_false, or_true, true_or, false_or, or_false, and_self, if_true, if_false, Classical.not_not, Nat.add_assoc, Nat.zero_add, Nat.add_zero, bI_or, bI_True, bI_False, Bool.false_eq_true, reduceCtorEq, eq_self, gi_si, gl_si, gr_si, hn_si, hL_si, hX_si, gi_sl, gl_sl, gr_sl, hn_sl, ob_si, ar_si, ob_sl, ar_sl, ks_148_0, ks_148_1, oF, g0, g1, g2, g4, g5, g6, g7, g8, g9, g10, g11, g12, g13, o21, o22, o23, o28, o29, o32, o34, o36, oM, oF_1, k0_1, k1_1, k2_1, k4_1, k5_1, k6_1, k7_1, k8_1, k9_1, k10_1, k11_1, k12_1, k13_1, u21_1, u22_1, u23_1, u28_1, u29_1, u32_1, u34_1, u36_1, uM_1, oF_2, k0_2, k1_2, k2_2, k4_2, k5_2, k6_2, k7_2, k8_2, k9_2, k10_2, k11_2, k12_2, k13_2, u21_2, u22_2, u23_2, u28_2, u29_2, u32_2, u34_2, u36_2, uM_2, oF_3, k0_3, k1_3, k2_3, k4_3, k5_3, k6_3, k7_3, k8_3, k9_3, k10_3, k11_3, k12_3, k13_3, u21_3, u22_3, u23_3, u28_3, u29_3, u32_3, u34_3, u36_3, uM_3, oF_4, k0_4, k1_4, k2_4, k4_4, k5_4, k6_4, k7_4, k8_4, k9_4, k10_4, k11_4, k12_4, k13_4, u21_4, u22_4, u23_4, u28_4, u29_4, u32_4, u34_4, u36_4, uM_4, o7, Cal_eq r1, Cal_eq r2, q_forget_q B2, Cal_eq r4, t_forget_q B4])
        exact hQ
      · have key : ∀ Q : Option Value → Hp → Prop, (∀ h', LoO h' 0 (gLv s) → Ao h' z → Po h' [] → Fo Sy2 (fun k => Fy2 k ∨ k = 10) h h' → Q (some (.int (iN K))) h') → wp 5 233 0 [some (.ref 87), none] [] h Q := by
          intro Q hQ
          refine mo_start hs hB hI hTx fun h1 hg _ A1 L1 f1 => ?_
          obtain ⟨⟨p1, p2⟩, n1, D1⟩ := hg ho
          simp only at p1 p2
          rw [nB_f] at p2
          have oO := (O_facts (f1.bs hB)).1
          have l1 := L1.1
          have F2 : Fo Sy F10 h (si h1 87 10 (iN 0)) := (Fo_10 f1).sf (Or.inr rfl) _
          have F2' : Fo noS (fun k => k = 10) h1 (si h1 87 10 (iN 0)) := (Fo.rf noS (fun k => k = 10) h1).sf (show (fun k => k = 10) 10 from rfl) _
          have B2 := F2.bs hB
          have A2 : Ao (si h1 87 10 (iN 0)) (gX s) := Ao_f A1 (by omega) (by omega) _
          have L2 := LoO_0 L1
          have p2' : gi (si h1 87 10 (iN 0)) 87 12 = iN 0 := by rw [F2'.2 12 (by omega)]; exact p2
          obtain ⟨h3, r3, A3, K3, f3⟩ := wo_think B2 A2
          have B3 := f3.bs B2
          have n3 : gi h3 87 13 = iN K := by rw [f3.2 13 (by unfold Fc; omega), F2'.2 13 (by omega)]; exact n1
          have D3 : ∀ j, j < K → Td h3 (gLv s) j (qsN (gLv s) j) := fun j hj => ((D1 j hj).fr F2' id id id).fr f3 (by unfold Sc; omega) (by unfold Sc; omega) (by unfold Sc; omega)
          have L3 := L2.fr2 f3 (by unfold Sc; omega) (by unfold Fc; omega)
          have F3 : Fo Sy F10 h h3 := F2.tr (Fo_10 (Fo_y98 f3))
          have main := mo_carry (Q := Q) B3 hn hv hTP A3 K3 hs.1 n3 D3 (fun k2 h4 e => by rw [hfx] at e; cases e) (fun w h4 _ e A4 f4 => by
            rw [hz] at e
            cases e
            have B4 := f4.bs B3
            have oO4 := (O_facts B4).1
            have n4 : gi h4 87 13 = iN K := by rw [f4.2 13 (by unfold Fq; omega)]; exact n3
            have L4 := L3.fr2 f4 (by unfold Sq; omega) (by unfold Fq; omega)
            have F4 : Fo Sy F10 h h4 := F3.tr (Fo_10 (Fo_yq f4))
            have f5 : Fo noS (fun k => k = 25) h4 (si h4 87 25 (iN 0)) := (Fo.rf noS (fun k => k = 25) h4).sf (show (fun k => k = 25) 25 from rfl) _
            have F5 : Fo Sy2 (fun k => Fy2 k ∨ k = 10) h (si h4 87 25 (iN 0)) := (F4.mono (fun o ho => by unfold Sy at ho; unfold Sy2; omega) (fun k hk => by unfold F10 Fy at hk; unfold Fy2; omega)).sf (by unfold Fy2; omega) _
            have hQ := hQ (si h4 87 25 (iN 0)) (L4.fr2 f5 id (by omega)) (Ao_f A4 (by omega) (by omega) _) Po_0 F5
            (refine wp_go 600 ks_233_1.2.2.2.2.2.2.2.2.2.2.2.2.2.2.2.2.2.1 ?_; simp (disch := first | with_reducible assumption | omega | (simp only [ob_si, ar_si, ob_sl, ar_sl]; with_reducible assumption)) only [ci_0, ci_1, cm_1000, cm_2000, inc_i, ldA_a, ldI_i, oc_230, oc_232, oc_236, oc_237, r_0, r_11, r_2, r_3, r_30, r_31, r_32, r_44, r_6, r_60, r_62, r_63, r_64, r_70, r_80_1, r_80_2, r_9, r_90, wpn_S, wpn_zero, stp_h, lk_0, lk_s, st1_0, st1_1, st1_2, st2_0, st2_1, st2_2, kj_i, kj_a, kj_l, kj_n, cat_n, cat_i, cat_a, cat_u, cat_l, vc_i, vc_a, rv_s, tl_n, tl_s, Cal'_s, List.length_cons, List.length_nil, i0, i1, iNd, iN_lt, iN_le, iN_eq, iN_add, iN_mul, iN_mod, iN_sub, iN_div, iN_clamp, iN_inb, zle_N, zlt_N, zN_le, zN_lt, zN_eq, Nz_eq, mI_t, mI_f, bI_0, bI_1, bI_t, bI_f, dltT, dltF, dleT, dleF, deqT, deqF, Nat.not_lt_zero, not_true_eq_false, not_false_eq_true, true_and, and_true, false_and, and_false, or_true, true_or, false_or, or_false, and_self, if_true, if_false, Classical.not_not, Nat.add_assoc, Nat.zero_add, Nat.add_zero, bI_or, bI_True, bI_False, Bool.false_eq_true, reduceCtorEq, eq_self, gi_si, gl_si, gr_si, hn_si, hL_si, hX_si, gi_sl, gl_sl, gr_sl, hn_sl, ob_si, ar_si, ob_sl, ar_sl, ks_233_0, ks_233_1, ks_233_2, oO4, n4, up_t, up_f])
            exact hQ)
          (refine wp_go 600 ks_233_0.2.2.2.2.2.2.2.2.2.2.2.2.1 ?_; simp (disch := first | with_reducible assumption | omega | (simp only [ob_si, ar_si, ob_sl, ar_sl]; with_reducible assumption)) only [ci_0, ci_1, cm_1000, cm_2000, inc_i, ldA_a, ldI_i, oc_230, oc_232, oc_236, oc_237, r_0, r_11, r_2, r_3, r_30, r_31, r_32, r_44, r_6, r_60, r_62, r_63, r_64, r_70, r_80_1, r_80_2, r_9, r_90, wpn_S, wpn_zero, stp_h, lk_0, lk_s, st1_0, st1_1, st1_2, st2_0, st2_1, st2_2, kj_i, kj_a, kj_l, kj_n, cat_n, cat_i, cat_a, cat_u, cat_l, vc_i, vc_a, rv_s, tl_n, tl_s, Cal'_s, List.length_cons, List.length_nil, i0, i1, iNd, iN_lt, iN_le, iN_eq, iN_add, iN_mul, iN_mod, iN_sub, iN_div, iN_clamp, iN_inb, zle_N, zlt_N, zN_le, zN_lt, zN_eq, Nz_eq, mI_t, mI_f, bI_0, bI_1, bI_t, bI_f, dltT, dltF, dleT, dleF, deqT, deqF, Nat.not_lt_zero, not_true_eq_false, not_false_eq_true, true_and, and_true, false_and, and_false, or_true, true_or, false_or, or_false, and_self, if_true, if_false, Classical.not_not, Nat.add_assoc, Nat.zero_add, Nat.add_zero, bI_or, bI_True, bI_False, Bool.false_eq_true, reduceCtorEq, eq_self, gi_si, gl_si, gr_si, hn_si, hL_si, hX_si, gi_sl, gl_sl, gr_sl, hn_sl, ob_si, ar_si, ob_sl, ar_sl, ks_233_0, ks_233_1, ks_233_2, oO, p1, p2, n1, l1, p2', Cal_eq r3])
          exact main
        obtain ⟨u, h', r, rfl, a, b, c, d⟩ := Ret_ex (d := 5) (y := 233) (as := [.ref 87]) [some (.ref 87), none] rfl rfl (key (fun u h' => u = some (.int (iN K)) ∧ LoO h' 0 (gLv s) ∧ Ao h' z ∧ Po h' [] ∧ Fo Sy2 (fun k => Fy2 k ∨ k = 10) h h') fun h' a b c d => ⟨rfl, a, b, c, d⟩)
        exact ⟨h', Ret.up (d := 5) r (by decide), a, b, c, d⟩
  · exact op_quBad hs hTx ho
