/-! an hour held twice; hours that would help; two mats changed -/
noncomputable def twM (x : Mt) (t k : Nat) : Mt := uD (lyM x (fun i j q => rp (twN (kpx x i j) t) k q) (xN x)) (xD x + iN k)
theorem twM_0 (x : Mt) (t : Nat) : twM x t 0 = x := by
  refine Mt_ext rfl ?_ rfl rfl rfl rfl ?_
  · show xD x + iN 0 = xD x
    rw [← i0]; exact Int32.add_zero _
  · funext i j
    show lyQ x (fun i j q => rp (twN (kpx x i j) t) 0 q) (xN x) i j = xQ x i j
    unfold lyQ
    split <;> rfl
theorem twM_s {x : Mt} (hn : xN x ≤ 6) {t : Nat} (ht : t < 5) (k : Nat) : dyB (twM x t k) 6 t = twM x t (k + 1) := by
  refine Mt_ext rfl ?_ rfl rfl rfl rfl ?_
  · show (xD x + iN k) + iN 1 = xD x + iN (k + 1)
    rw [Int32.add_assoc, iN_add]
  · funext i j
    show lyQ (twM x t k) (dgB (twM x t k) 6 t) (xN x) i j = lyQ x (fun i j q => rp (twN (kpx x i j) t) (k + 1) q) (xN x) i j
    unfold lyQ
    show (if i < xN x ∧ j < xN x ∧ xM x i = j ∧ (i < xN x ∨ j < xN x) then dgB (twM x t k) 6 t (min i j) (max i j) (lyQ x (fun i j q => rp (twN (kpx x i j) t) k q) (xN x) i j) else lyQ x (fun i j q => rp (twN (kpx x i j) t) k q) (xN x) i j) = _
    by_cases e : i < xN x ∧ j < xN x ∧ xM x i = j ∧ (i < xN x ∨ j < xN x)
    · rw [if_pos e, if_pos e]
      unfold lyQ
      rw [if_pos e]
      unfold dgB
      rw [if_pos ht, kpa_6 _ (show min i j < 6 by omega) (show max i j < 6 by omega)]
      rfl
    · rw [if_neg e, if_neg e]
      unfold lyQ
      rw [if_neg e]
theorem wf_tw {x : Mt} (hW : Wf x) (t k : Nat) : Wf (twM x t k) := wf_D (wf_ly hW fun _ _ _ hq => rp_inv (P := fun q => q ≤ 99) (fun _ h => twN_b h) k _ hq) _
noncomputable def mtC (x : Mt) : Int := sm (mtS x fun i j => (xQ x i j : Int)) (xN x)
theorem mqN_sm (x : Mt) (t : Nat) : (mqN x t : Int) = sm (mtS x fun i j => ((rp (twN (kpx x i j) t) 9 (xQ x i j) : Nat) : Int)) (xN x) := by
  unfold mqN
  rw [itr_smN (g := mtS x fun i j => ((rp (twN (kpx x i j) t) 9 (xQ x i j) : Nat) : Int)) (fun i a => by
    unfold mqS mtS
    by_cases h : xM x i < 6 ∧ i < xM x i
    · rw [if_pos h, if_pos h]; exact Int.natCast_add _ _
    · rw [if_neg h, if_neg h]; omega) 0 (xN x)]
  omega
theorem mtS_sub (x : Mt) (f g : Nat → Nat → Int) (n : Nat) : sm (mtS x fun i j => f i j - g i j) n = sm (mtS x f) n - sm (mtS x g) n := by
  rw [← sm_sub]
  refine sm_cg n fun i _ => ?_
  unfold mtS
  by_cases h : xM x i < 6 ∧ i < xM x i
  · rw [if_pos h, if_pos h, if_pos h]
  · rw [if_neg h, if_neg h, if_neg h]; rfl
theorem tw_all {x : Mt} (hW : Wf x) (t : Nat) : (allQ (twM x t 9) : Int) = allQ x + mqN x t - mtC x := by
  show (allQ (lyM x (fun i j q => rp (twN (kpx x i j) t) 9 q) (xN x)) : Int) = _
  rw [ly_all hW (xN x) (Nat.le_refl _), mtS_sub x (fun i j => ((rp (twN (kpx x i j) t) 9 (xQ x i j) : Nat) : Int)) (fun i j => (xQ x i j : Int)), mqN_sm, mtC]
  omega
theorem ht_it (x : Mt) : ∀ (k i b : Nat), itr (htS x) i k (b, mqN x b) = (itr (amF (mqN x)) i k b, mqN x (itr (amF (mqN x)) i k b))
  | 0, _, _ => rfl
  | k + 1, i, b => by
    rw [itr_s, itr_s]
    by_cases h : mqN x i < mqN x b
    · rw [show htS x i (b, mqN x b) = (i, mqN x i) from if_pos h, show amF (mqN x) i b = i from if_pos h]; exact ht_it x k (i + 1) i
    · rw [show htS x i (b, mqN x b) = (b, mqN x b) from if_neg h, show amF (mqN x) i b = b from if_neg h]; exact ht_it x k (i + 1) b
noncomputable def twA (x : Mt) (t : Nat) : Nat := allQ (twM x t 9)
theorem tw_am {x : Mt} (hW : Wf x) : itr (amS (twA x)) 0 5 none = some ((htN x).1, twA x (htN x).1) := by
  have e : itr (amF (twA x)) 1 4 0 = (htN x).1 := by
    unfold htN
    rw [ht_it x 4 1 0]
    show itr (amF (twA x)) 1 4 0 = itr (amF (mqN x)) 1 4 0
    refine am_cg (N := 5) (fun k a hk ha => ⟨?_, ?_⟩) 4 1 0 (by omega) (by omega)
    · unfold amF twA
      have h1 := tw_all hW k
      have h2 := tw_all hW a
      by_cases h : mqN x k < mqN x a
      · rw [if_pos h, if_pos (by omega)]
      · rw [if_neg h, if_neg (by omega)]
    · unfold amF
      split <;> assumption
  rw [am_eq, e]
theorem twA_b {x : Mt} (hW : Wf x) (t : Nat) : twA x t ≤ 3564 := allQ_b (wf_tw hW t 9)
noncomputable def amP (a : Option (Nat × Nat)) : Prop := ∀ b l, a = some (b, l) → b ≤ 100 ∧ l ≤ 3564
theorem amS_P {B : Nat → Nat} (hB : ∀ k, B k ≤ 3564) {k : Nat} (hk : k ≤ 100) {a : Option (Nat × Nat)} (ha : amP a) : amP (amS B k a) := by
  intro b l e
  have := hB k
  cases a with
  | none => simp only [amS, Option.some.injEq, Prod.mk.injEq] at e; omega
  | some z =>
    obtain ⟨b2, l2⟩ := z
    have := ha b2 l2 rfl
    simp only [amS] at e
    split at e <;> simp only [Option.some.injEq, Prod.mk.injEq] at e <;> omega
theorem bhS_P {x : Mt} {p c : Nat} (hc : c < 32) {a : Option (Nat × Nat)} (ha : bhP a) : bhP (bhS x p c a) := by
  cases hw : mbO x p c with
  | none => rw [bhS_n hw]; exact ha
  | some w =>
    have hw2 := mbO_lt hw
    cases a with
    | none => rw [bhS_0 hw]; intro b s e; simp only [Option.some.injEq, Prod.mk.injEq] at e; omega
    | some z =>
      obtain ⟨b2, s2⟩ := z
      have := ha b2 s2 rfl
      rw [bhS_s hw]
      intro b s e
      split at e <;> simp only [Option.some.injEq, Prod.mk.injEq] at e <;> omega
theorem bh_mb (x : Mt) (p : Nat) : ∀ b s, bhN x p = some (b, s) → mbO x p b = some s := by
  have h : ∀ k i a, (∀ b s, a = some (b, s) → mbO x p b = some s) → ∀ b s, itr (bhS x p) i k a = some (b, s) → mbO x p b = some s := by
    intro k
    induction k with
    | zero => intro i a ha; exact ha
    | succ k ih =>
      intro i a ha
      rw [itr_s]
      refine ih (i + 1) _ ?_
      cases hw : mbO x p i with
      | none => rw [bhS_n hw]; exact ha
      | some w =>
        cases a with
        | none => rw [bhS_0 hw]; intro b s e; simp only [Option.some.injEq, Prod.mk.injEq] at e; rw [← e.1, ← e.2]; exact hw
        | some z =>
          obtain ⟨b2, s2⟩ := z
          rw [bhS_s hw]
          intro b s e
          split at e
          · simp only [Option.some.injEq, Prod.mk.injEq] at e; rw [← e.1, ← e.2]; exact hw
          · exact ha b s e
  exact h 32 0 none (fun b s e => by cases e)
theorem zd_uH {x : Mt} (hW : Wf x) {p c : Nat} (hp : p < xN x) (h6 : xM x p < 6) : zdO (uH x p c) p (xM x p) = mbO x p c := by
  obtain ⟨t1, t2, t3⟩ := hW.2.2.2.2.2.2.2.2 p hp h6
  rw [zd_fmd (x := uH x p c) hp t1, fmdO, if_pos (show xM (uH x p c) p = xM x p from rfl), fm1O, kpx_uH t2, mbO, if_pos h6]
  rfl
theorem bh_6 {x : Mt} {p : Nat} (h6 : ¬ xM x p < 6) : bhN x p = none := by
  have h : ∀ c, mbO x p c = none := fun c => by rw [mbO, if_neg h6]
  have h2 : ∀ k i, itr (bhS x p) i k none = none := by
    intro k
    induction k with
    | zero => intro i; rfl
    | succ k ih => intro i; rw [itr_s, bhS_n (h i)]; exact ih (i + 1)
  exact h2 32 0
theorem d_mbN {h : Hp} {p : Nat} {x : Mt} (hB : Bs h) (hA : At h 1 x) (hW : Wf x) (hp : p < xN x) : Ret 4 67 [.ref 22, .int (iN p), .int (zI (-9))] h (some (.int (zI (-9)))) h := by
  have oD : ob h 22 4 := hB.ob (by decide) (by decide); have rD0 : gr h 22 0 = some 1 := hB.r (by decide); have rD1 : gr h 22 1 = some 7 := hB.r (by decide); have rD2 : gr h 22 2 = some 19 := hB.r (by decide); have oK : ob h 19 1 := hB.ob (by decide) (by decide); have hm : isM 1 := Or.inl rfl; have h7 : isM 7 := Or.inr (Or.inl rfl); obtain ⟨oM, rM0, rM1, rM2, rM3, rM4, aM1, aM2, aM3, aM4, aM5, sM1, sM2, sM3, sM4, sM5⟩ := M_facts hm hB; obtain ⟨wN, wK, wF, wH, wM, wQ, wS, wZ, wT⟩ := id hW; have o7 : ob h 7 3 := hB.ob (by decide) (by decide)
  refine Ret_L [some (.ref 22), some (.int (iN p)), some (.int (zI (-9))), none] rfl rfl fun Q hQ => ?_
  by_cases h6 : xM x p < 6
  · (refine wp_go 600 ks_67_0.1 ?_; simp (disch := first | with_reducible assumption | omega | (simp only [ob_si, ar_si, ob_sl, ar_sl]; with_reducible assumption)) only [cm_9, ldA_a, ldI_i, oc_13, oc_34, oc_36, oc_7, oc_8, r_0, r_2, r_3, r_41, r_42, r_6, r_62, r_80_2, r_80_3, r_80_4, r_90, wpn_S, wpn_zero, stp_h, lk_0, lk_s, st1_0, st1_1, st1_2, st2_0, st2_1, st2_2, kj_i, kj_a, kj_l, kj_n, cat_n, cat_i, cat_a, cat_u, cat_l, vc_i, vc_a, rv_s, tl_n, tl_s, Cal'_s, List.length_cons, List.length_nil, i0, i1, iNd, iN_lt, iN_le, iN_eq, iN_add, iN_mul, iN_mod, iN_sub, iN_div, iN_clamp, iN_inb, zle_N, zlt_N, zN_le, zN_lt, zN_eq, Nz_eq, mI_t, mI_f, bI_0, bI_1, bI_t, bI_f, dltT, dltF, dleT, dleF, deqT, deqF, Nat.not_lt_zero, not_true_eq_false, not_false_eq_true, true_and, and_true, false_and, and_false, or_true, true_or, false_or, or_false, and_self, if_true, if_false, Classical.not_not, Nat.add_assoc, Nat.zero_add, Nat.add_zero, bI_or, bI_True, bI_False, Bool.false_eq_true, reduceCtorEq, eq_self, gi_si, gl_si, gr_si, hn_si, hL_si, hX_si, gi_sl, gl_sl, gr_sl, hn_sl, ob_si, ar_si, ob_sl, ar_sl, ks_67_0, ks_67_1, oD, rD0, rD1, rD2, oK, o7, oM, c_mate_q hm hB hA hW, h6])
    exact hQ
  · (refine wp_go 600 ks_67_0.1 ?_; simp (disch := first | with_reducible assumption | omega | (simp only [ob_si, ar_si, ob_sl, ar_sl]; with_reducible assumption)) only [cm_9, ldA_a, ldI_i, oc_13, oc_34, oc_36, oc_7, oc_8, r_0, r_2, r_3, r_41, r_42, r_6, r_62, r_80_2, r_80_3, r_80_4, r_90, wpn_S, wpn_zero, stp_h, lk_0, lk_s, st1_0, st1_1, st1_2, st2_0, st2_1, st2_2, kj_i, kj_a, kj_l, kj_n, cat_n, cat_i, cat_a, cat_u, cat_l, vc_i, vc_a, rv_s, tl_n, tl_s, Cal'_s, List.length_cons, List.length_nil, i0, i1, iNd, iN_lt, iN_le, iN_eq, iN_add, iN_mul, iN_mod, iN_sub, iN_div, iN_clamp, iN_inb, zle_N, zlt_N, zN_le, zN_lt, zN_eq, Nz_eq, mI_t, mI_f, bI_0, bI_1, bI_t, bI_f, dltT, dltF, dleT, dleF, deqT, deqF, Nat.not_lt_zero, not_true_eq_false, not_false_eq_true, true_and, and_true, false_and, and_false, or_true, true_or, false_or, or_false, and_self, if_true, if_false, Classical.not_not, Nat.add_assoc, Nat.zero_add, Nat.add_zero, bI_or, bI_True, bI_False, Bool.false_eq_true, reduceCtorEq, eq_self, gi_si, gl_si, gr_si, hn_si, hL_si, hX_si, gi_sl, gl_sl, gr_sl, hn_sl, ob_si, ar_si, ob_sl, ar_sl, ks_67_0, ks_67_1, oD, rD0, rD1, rD2, oK, o7, oM, c_mate_q hm hB hA hW, h6])
    exact hQ
set_option maxHeartbeats 8000000 in
theorem op_doubled {s : Gs} (hs : GW s) : OpOk 183 291 [] s := by
  refine op_query hs (v := .int (iN (htN (gX s)).1)) (fun h hB hI => ?_) (fun h hB hI => ?_)
  · obtain ⟨oF, g0, g1, g2, g4, g5, g6, g7, g8, g9, g10, g11, g12, g13, o21, o22, o23, o28, o29, o32, o34, o36, oM⟩ := F_facts hB; obtain ⟨hA, iI, ⟨nx, hP⟩, hR, hL, hF, hT⟩ := id hI; have hW := hs.1; have hm : isM 1 := Or.inl rfl; have wN := hW.1
    obtain ⟨h1, r1, f1⟩ := d_hour2 hB hA hW
    refine ⟨h1, Ret.up (d := 6) ?_ (by decide), Fr_zd f1⟩
    refine Ret_L [some (.ref 0)] rfl rfl fun Q hQ => ?_
    (refine wp_go 600 ks_183_0.1 ?_; simp (disch := first | with_reducible assumption | omega | (simp only [ob_si, ar_si, ob_sl, ar_sl]; with_reducible assumption)) only [ldA_a, oc_74, r_2, r_62, r_80_1, r_90, wpn_S, wpn_zero, stp_h, lk_0, lk_s, st1_0, st1_1, st1_2, st2_0, st2_1, st2_2, kj_i, kj_a, kj_l, kj_n, cat_n, cat_i, cat_a, cat_u, cat_l, vc_i, vc_a, rv_s, tl_n, tl_s, Cal'_s, List.length_cons, List.length_nil, i0, i1, iNd, iN_lt, iN_le, iN_eq, iN_add, iN_mul, iN_mod, iN_sub, iN_div, iN_clamp, iN_inb, zle_N, zlt_N, zN_le, zN_lt, zN_eq, Nz_eq, mI_t, mI_f, bI_0, bI_1, bI_t, bI_f, dltT, dltF, dleT, dleF, deqT, deqF, Nat.not_lt_zero, not_true_eq_false, not_false_eq_true, true_and, and_true, false_and, and_false, or_true, true_or, false_or, or_false, and_self, if_true, if_false, Classical.not_not, Nat.add_assoc, Nat.zero_add, Nat.add_zero, bI_or, bI_True, bI_False, Bool.false_eq_true, reduceCtorEq, eq_self, gi_si, gl_si, gr_si, hn_si, hL_si, hX_si, gi_sl, gl_sl, gr_sl, hn_sl, ob_si, ar_si, ob_sl, ar_sl, ks_183_0, oF, g0, g1, g2, g4, g5, g6, g7, g8, g9, g10, g11, g12, g13, o21, o22, o23, o28, o29, o32, o34, o36, oM, Cal_eq r1])
    exact hQ
  · have oO := (O_facts hB).1; obtain ⟨hA, hIr, f0⟩ := IO_0 hI; replace hB := Bs.si hB 87 7 (iN 0); have hW := hs.1; obtain ⟨oO2, rO1, rO2, rO3, rO4, rO5, rO8, aO1, aO2, aO3, aO4, aO5, aO8, sO1, sO2, sO3, sO4, sO5, sO8⟩ := O_facts hB; obtain ⟨fN, fD, fK, fF, fH, fM, fQ⟩ := id hA; obtain ⟨wN, wK, wF, wH, wM, wQ, wS, wZ, wT⟩ := id hW
    generalize gX s = x at *
    have key : ∀ Q : Option Value → Hp → Prop, (∀ h', Ao h' x → Fo Sy Fy h h' → Q (some (.int (iN (htN x).1))) h') → wp 3 291 0 [some (.ref 87), none, none, none, none] [] h Q := by
      intro Q hQ
      obtain ⟨h1, r1, A1, K1, f1⟩ := wo_think hB hA
      have B1 := f1.bs hB
      have q1 := (O_facts B1).1
      (refine wp_go 600 ks_291_0.1 ?_; simp (disch := first | with_reducible assumption | omega | (simp only [ob_si, ar_si, ob_sl, ar_sl]; with_reducible assumption)) only [ci_0, ci_1, ci_5, ci_9, cm_1, cm_9, inc_i, ldA_a, ldI_i, oc_217, oc_219, oc_236, oc_237, r_0, r_2, r_3, r_30, r_33, r_44, r_6, r_63, r_80_1, r_80_3, r_9, r_90, wpn_S, wpn_zero, stp_h, lk_0, lk_s, st1_0, st1_1, st1_2, st2_0, st2_1, st2_2, kj_i, kj_a, kj_l, kj_n, cat_n, cat_i, cat_a, cat_u, cat_l, vc_i, vc_a, rv_s, tl_n, tl_s, Cal'_s, List.length_cons, List.length_nil, i0, i1, iNd, iN_lt, iN_le, iN_eq, iN_add, iN_mul, iN_mod, iN_sub, iN_div, iN_clamp, iN_inb, zle_N, zlt_N, zN_le, zN_lt, zN_eq, Nz_eq, mI_t, mI_f, bI_0, bI_1, bI_t, bI_f, dltT, dltF, dleT, dleF, deqT, deqF, Nat.not_lt_zero, not_true_eq_false, not_false_eq_true, true_and, and_true, false_and, and_false, or_true, true_or, false_or, or_false, and_self, if_true, if_false, Classical.not_not, Nat.add_assoc, Nat.zero_add, Nat.add_zero, bI_or, bI_True, bI_False, Bool.false_eq_true, reduceCtorEq, eq_self, gi_si, gl_si, gr_si, hn_si, hL_si, hX_si, gi_sl, gl_sl, gr_sl, hn_sl, ob_si, ar_si, ob_sl, ar_sl, ks_291_0, ks_291_1, ks_291_2, oO, oO2, rO1, rO2, rO3, rO4, rO5, rO8, aO1, aO2, aO3, aO4, aO5, aO8, fN, fD, fK, fF, fH, fM, fQ, Cal_eq r1])
      refine wp_foldH (fun t a (w : Option Value) => [some (.ref 87), some (.int (amA a)), some (.int (amL a)), some (.int (iN t)), w]) (amS (twA x)) (fun t a h' => amP a ∧ Ao h' x ∧ Kx h' 98 x ∧ Fo Sy Fy h h') 5 ?_ 5 0 none none h1 (by omega) ⟨(fun b l e => by cases e), A1, K1, f0.tr (Fo_y98 f1)⟩ ?_
      · rintro t a w h1 ht ⟨ha, A1, K1, f1⟩ hn
        have B1 := f1.bs hB
        have oO_1 := (O_facts B1).1
        (refine wp_go 600 ks_291_0.2.2.2.2.2.2.2.2.2.2.2.1 ?_; simp (disch := first | with_reducible assumption | omega | (simp only [ob_si, ar_si, ob_sl, ar_sl]; with_reducible assumption)) only [ci_0, ci_1, ci_5, ci_9, cm_1, cm_9, inc_i, ldA_a, ldI_i, oc_217, oc_219, oc_236, oc_237, r_0, r_2, r_3, r_30, r_33, r_44, r_6, r_63, r_80_1, r_80_3, r_9, r_90, wpn_S, wpn_zero, stp_h, lk_0, lk_s, st1_0, st1_1, st1_2, st2_0, st2_1, st2_2, kj_i, kj_a, kj_l, kj_n, cat_n, cat_i, cat_a, cat_u, cat_l, vc_i, vc_a, rv_s, tl_n, tl_s, Cal'_s, List.length_cons, List.length_nil, i0, i1, iNd, iN_lt, iN_le, iN_eq, iN_add, iN_mul, iN_mod, iN_sub, iN_div, iN_clamp, iN_inb, zle_N, zlt_N, zN_le, zN_lt, zN_eq, Nz_eq, mI_t, mI_f, bI_0, bI_1, bI_t, bI_f, dltT, dltF, dleT, dleF, deqT, deqF, Nat.not_lt_zero, not_true_eq_false, not_false_eq_true, true_and, and_true, false_and, and_false, or_true, true_or, false_or, or_false, and_self, if_true, if_false, Classical.not_not, Nat.add_assoc, Nat.zero_add, Nat.add_zero, bI_or, bI_True, bI_False, Bool.false_eq_true, reduceCtorEq, eq_self, gi_si, gl_si, gr_si, hn_si, hL_si, hX_si, gi_sl, gl_sl, gr_sl, hn_sl, ob_si, ar_si, ob_sl, ar_sl, ks_291_0, ks_291_1, ks_291_2, oO_1])
        refine wp_loop (fun k L h' => Ao h' (twM x t k) ∧ Kx h' 98 x ∧ Fo Sy Fy h h' ∧ L = [some (.ref 87), some (.int (amA a)), some (.int (amL a)), some (.int (iN t)), some (.int (iN k))]) 9 ?_ ?_ 9 0 _ h1 (by omega) ⟨by rw [twM_0]; exact A1, K1, f1, rfl⟩
        · rintro k L h2 hk ⟨A2, K2, f2, rfl⟩ hnx
          have B2 := f2.bs hB
          have oO_2 := (O_facts B2).1
          obtain ⟨h3, r3, A3, f3⟩ := wo_day (a := 6) (b := t) (va := zI (-9)) (vb := iN t) B2 A2 (wf_tw hW t k) (by omega) (Or.inl ht) mI_6.symm (mI_t (by omega)).symm
          rw [twM_s hW.1 ht] at A3
          (refine wp_go 600 ks_291_0.2.2.2.2.2.2.2.2.2.2.2.2.2.2.2.2.1 ?_; simp (disch := first | with_reducible assumption | omega | (simp only [ob_si, ar_si, ob_sl, ar_sl]; with_reducible assumption)) only [ci_0, ci_1, ci_5, ci_9, cm_1, cm_9, inc_i, ldA_a, ldI_i, oc_217, oc_219, oc_236, oc_237, r_0, r_2, r_3, r_30, r_33, r_44, r_6, r_63, r_80_1, r_80_3, r_9, r_90, wpn_S, wpn_zero, stp_h, lk_0, lk_s, st1_0, st1_1, st1_2, st2_0, st2_1, st2_2, kj_i, kj_a, kj_l, kj_n, cat_n, cat_i, cat_a, cat_u, cat_l, vc_i, vc_a, rv_s, tl_n, tl_s, Cal'_s, List.length_cons, List.length_nil, i0, i1, iNd, iN_lt, iN_le, iN_eq, iN_add, iN_mul, iN_mod, iN_sub, iN_div, iN_clamp, iN_inb, zle_N, zlt_N, zN_le, zN_lt, zN_eq, Nz_eq, mI_t, mI_f, bI_0, bI_1, bI_t, bI_f, dltT, dltF, dleT, dleF, deqT, deqF, Nat.not_lt_zero, not_true_eq_false, not_false_eq_true, true_and, and_true, false_and, and_false, or_true, true_or, false_or, or_false, and_self, if_true, if_false, Classical.not_not, Nat.add_assoc, Nat.zero_add, Nat.add_zero, bI_or, bI_True, bI_False, Bool.false_eq_true, reduceCtorEq, eq_self, gi_si, gl_si, gr_si, hn_si, hL_si, hX_si, gi_sl, gl_sl, gr_sl, hn_sl, ob_si, ar_si, ob_sl, ar_sl, ks_291_0, ks_291_1, ks_291_2, oO_2, Cal_eq r3])
          exact hnx _ _ ⟨A3, K2.fr f3 (by unfold Sq; omega) (by omega), f2.tr (Fo_yq f3), rfl⟩
        · rintro L h2 ⟨A2, K2, f2, rfl⟩
          have B2 := f2.bs hB
          have oO_2 := (O_facts B2).1
          have r3 := o_allQ B2 A2 (wf_tw hW t 9)
          have hb := twA_b hW t
          change Ret _ _ _ _ (some (.int (iN (twA x t)))) _ at r3
          obtain ⟨h4, r4, A4, K4, f4⟩ := wo_again B2 K2
          have hP := amS_P (fun k => twA_b hW k) (show t ≤ 100 by omega) ha
          have hn := hn (some (.int (iN (twA x t)))) h4 ⟨hP, A4, K4, f2.tr (Fo_y98 f4)⟩
          cases a with
          | none =>
            simp only [amA, amL, amS] at hn ⊢
            (refine wp_go 600 ks_291_0.2.2.2.2.2.2.2.2.2.2.2.2.2.2.2.2.1 ?_; simp (disch := first | with_reducible assumption | omega | (simp only [ob_si, ar_si, ob_sl, ar_sl]; with_reducible assumption)) only [ci_0, ci_1, ci_5, ci_9, cm_1, cm_9, inc_i, ldA_a, ldI_i, oc_217, oc_219, oc_236, oc_237, r_0, r_2, r_3, r_30, r_33, r_44, r_6, r_63, r_80_1, r_80_3, r_9, r_90, wpn_S, wpn_zero, stp_h, lk_0, lk_s, st1_0, st1_1, st1_2, st2_0, st2_1, st2_2, kj_i, kj_a, kj_l, kj_n, cat_n, cat_i, cat_a, cat_u, cat_l, vc_i, vc_a, rv_s, tl_n, tl_s, Cal'_s, List.length_cons, List.length_nil, i0, i1, iNd, iN_lt, iN_le, iN_eq, iN_add, iN_mul, iN_mod, iN_sub, iN_div, iN_clamp, iN_inb, zle_N, zlt_N, zN_le, zN_lt, zN_eq, Nz_eq, mI_t, mI_f, bI_0, bI_1, bI_t, bI_f, dltT, dltF, dleT, dleF, deqT, deqF, Nat.not_lt_zero, not_true_eq_false, not_false_eq_true, true_and, and_true, false_and, and_false, or_true, true_or, false_or, or_false, and_self, if_true, if_false, Classical.not_not, Nat.add_assoc, Nat.zero_add, Nat.add_zero, bI_or, bI_True, bI_False, Bool.false_eq_true, reduceCtorEq, eq_self, gi_si, gl_si, gr_si, hn_si, hL_si, hX_si, gi_sl, gl_sl, gr_sl, hn_sl, ob_si, ar_si, ob_sl, ar_sl, ks_291_0, ks_291_1, ks_291_2, oO_2, Cal_eq r3, Cal_eq r4])
            exact hn
          | some z =>
            obtain ⟨b, l⟩ := z
            have hb2 := ha b l rfl
            by_cases hc : twA x t < l
            · simp only [amA, amL, amS, if_pos hc] at hn ⊢
              (refine wp_go 600 ks_291_0.2.2.2.2.2.2.2.2.2.2.2.2.2.2.2.2.1 ?_; simp (disch := first | with_reducible assumption | omega | (simp only [ob_si, ar_si, ob_sl, ar_sl]; with_reducible assumption)) only [ci_0, ci_1, ci_5, ci_9, cm_1, cm_9, inc_i, ldA_a, ldI_i, oc_217, oc_219, oc_236, oc_237, r_0, r_2, r_3, r_30, r_33, r_44, r_6, r_63, r_80_1, r_80_3, r_9, r_90, wpn_S, wpn_zero, stp_h, lk_0, lk_s, st1_0, st1_1, st1_2, st2_0, st2_1, st2_2, kj_i, kj_a, kj_l, kj_n, cat_n, cat_i, cat_a, cat_u, cat_l, vc_i, vc_a, rv_s, tl_n, tl_s, Cal'_s, List.length_cons, List.length_nil, i0, i1, iNd, iN_lt, iN_le, iN_eq, iN_add, iN_mul, iN_mod, iN_sub, iN_div, iN_clamp, iN_inb, zle_N, zlt_N, zN_le, zN_lt, zN_eq, Nz_eq, mI_t, mI_f, bI_0, bI_1, bI_t, bI_f, dltT, dltF, dleT, dleF, deqT, deqF, Nat.not_lt_zero, not_true_eq_false, not_false_eq_true, true_and, and_true, false_and, and_false, or_true, true_or, false_or, or_false, and_self, if_true, if_false, Classical.not_not, Nat.add_assoc, Nat.zero_add, Nat.add_zero, bI_or, bI_True, bI_False, Bool.false_eq_true, reduceCtorEq, eq_self, gi_si, gl_si, gr_si, hn_si, hL_si, hX_si, gi_sl, gl_sl, gr_sl, hn_sl, ob_si, ar_si, ob_sl, ar_sl, ks_291_0, ks_291_1, ks_291_2, oO_2, Cal_eq r3, Cal_eq r4])
              exact hn
            · simp only [amA, amL, amS, if_neg hc] at hn ⊢
              (refine wp_go 600 ks_291_0.2.2.2.2.2.2.2.2.2.2.2.2.2.2.2.2.1 ?_; simp (disch := first | with_reducible assumption | omega | (simp only [ob_si, ar_si, ob_sl, ar_sl]; with_reducible assumption)) only [ci_0, ci_1, ci_5, ci_9, cm_1, cm_9, inc_i, ldA_a, ldI_i, oc_217, oc_219, oc_236, oc_237, r_0, r_2, r_3, r_30, r_33, r_44, r_6, r_63, r_80_1, r_80_3, r_9, r_90, wpn_S, wpn_zero, stp_h, lk_0, lk_s, st1_0, st1_1, st1_2, st2_0, st2_1, st2_2, kj_i, kj_a, kj_l, kj_n, cat_n, cat_i, cat_a, cat_u, cat_l, vc_i, vc_a, rv_s, tl_n, tl_s, Cal'_s, List.length_cons, List.length_nil, i0, i1, iNd, iN_lt, iN_le, iN_eq, iN_add, iN_mul, iN_mod, iN_sub, iN_div, iN_clamp, iN_inb, zle_N, zlt_N, zN_le, zN_lt, zN_eq, Nz_eq, mI_t, mI_f, bI_0, bI_1, bI_t, bI_f, dltT, dltF, dleT, dleF, deqT, deqF, Nat.not_lt_zero, not_true_eq_false, not_false_eq_true, true_and, and_true, false_and, and_false, or_true, true_or, false_or, or_false, and_self, if_true, if_false, Classical.not_not, Nat.add_assoc, Nat.zero_add, Nat.add_zero, bI_or, bI_True, bI_False, Bool.false_eq_true, reduceCtorEq, eq_self, gi_si, gl_si, gr_si, hn_si, hL_si, hX_si, gi_sl, gl_sl, gr_sl, hn_sl, ob_si, ar_si, ob_sl, ar_sl, ks_291_0, ks_291_1, ks_291_2, oO_2, Cal_eq r3, Cal_eq r4])
              exact hn
      · rintro w h1 ⟨ha, A1, K1, f1⟩
        rw [tw_am hW]
        simp only [amA, amL]
        (refine wp_go 600 ks_291_0.2.2.2.2.2.2.2.2.2.2.2.1 ?_; simp (disch := first | with_reducible assumption | omega | (simp only [ob_si, ar_si, ob_sl, ar_sl]; with_reducible assumption)) only [ci_0, ci_1, ci_5, ci_9, cm_1, cm_9, inc_i, ldA_a, ldI_i, oc_217, oc_219, oc_236, oc_237, r_0, r_2, r_3, r_30, r_33, r_44, r_6, r_63, r_80_1, r_80_3, r_9, r_90, wpn_S, wpn_zero, stp_h, lk_0, lk_s, st1_0, st1_1, st1_2, st2_0, st2_1, st2_2, kj_i, kj_a, kj_l, kj_n, cat_n, cat_i, cat_a, cat_u, cat_l, vc_i, vc_a, rv_s, tl_n, tl_s, Cal'_s, List.length_cons, List.length_nil, i0, i1, iNd, iN_lt, iN_le, iN_eq, iN_add, iN_mul, iN_mod, iN_sub, iN_div, iN_clamp, iN_inb, zle_N, zlt_N, zN_le, zN_lt, zN_eq, Nz_eq, mI_t, mI_f, bI_0, bI_1, bI_t, bI_f, dltT, dltF, dleT, dleF, deqT, deqF, Nat.not_lt_zero, not_true_eq_false, not_false_eq_true, true_and, and_true, false_and, and_false, or_true, true_or, false_or, or_false, and_self, if_true, if_false, Classical.not_not, Nat.add_assoc, Nat.zero_add, Nat.add_zero, bI_or, bI_True, bI_False, Bool.false_eq_true, reduceCtorEq, eq_self, gi_si, gl_si, gr_si, hn_si, hL_si, hX_si, gi_sl, gl_sl, gr_sl, hn_sl, ob_si, ar_si, ob_sl, ar_sl, ks_291_0, ks_291_1, ks_291_2])
        exact hQ _ A1 f1
    obtain ⟨v, h', r, rfl, A, f⟩ := Ret_ex (d := 3) (y := 291) (as := [.ref 87]) [some (.ref 87), none, none, none, none] rfl rfl (key (fun v h' => v = some (.int (iN (htN x).1)) ∧ Ao h' x ∧ Fo Sy Fy h h') fun h' a b => ⟨rfl, a, b⟩)
    exact ⟨h', Ret.up (d := 3) r (by decide), A, f⟩
set_option maxHeartbeats 8000000 in
theorem op_hoursFor {s : Gs} (hs : GW s) (a b : Int32) : OpOk 167 268 [.int a, .int b] s := by
  by_cases hP : isP (xN (gX s)) a
  · obtain ⟨i, hi, rfl⟩ := hP
    by_cases hw : isP 2 b
    · obtain ⟨w, hw, rfl⟩ := hw
      rcases (show w = 0 ∨ w = 1 by omega) with rfl | rfl
      · refine op_query hs (v := .int (bhA (bhN (gX s) i))) (fun h hB hI => ?_) (fun h hB hI => ?_)
        · obtain ⟨oF, g0, g1, g2, g4, g5, g6, g7, g8, g9, g10, g11, g12, g13, o21, o22, o23, o28, o29, o32, o34, o36, oM⟩ := F_facts hB; obtain ⟨hA, iI, ⟨nx, hP⟩, hR, hL, hF, hT⟩ := id hI; have hW := hs.1; have hm : isM 1 := Or.inl rfl; have wN := hW.1
          obtain ⟨h1, r1, f1, hbP⟩ := d_best hB hA hW hi
          have B1 := f1.bs hB
          refine ⟨h1, Ret.up (d := 6) ?_ (by decide), Fr_zd f1⟩
          refine Ret_L [some (.ref 0), some (.int (iN i)), some (.int (iN 0))] rfl rfl fun Q hQ => ?_
          (refine wp_go 600 ks_167_0.1 ?_; simp (disch := first | with_reducible assumption | omega | (simp only [ob_si, ar_si, ob_sl, ar_sl]; with_reducible assumption)) only [ci_0, ci_1, cm_1, cm_2, ldA_a, ldI_i, oc_191, oc_25, oc_66, oc_67, r_0, r_2, r_32, r_6, r_62, r_80_2, r_80_3, r_90, r_99n, swk_nc, swk_nn, wpn_S, wpn_zero, stp_h, lk_0, lk_s, st1_0, st1_1, st1_2, st2_0, st2_1, st2_2, kj_i, kj_a, kj_l, kj_n, cat_n, cat_i, cat_a, cat_u, cat_l, vc_i, vc_a, rv_s, tl_n, tl_s, Cal'_s, List.length_cons, List.length_nil, i0, i1, iNd, iN_lt, iN_le, iN_eq, iN_add, iN_mul, iN_mod, iN_sub, iN_div, iN_clamp, iN_inb, zle_N, zlt_N, zN_le, zN_lt, zN_eq, Nz_eq, mI_t, mI_f, bI_0, bI_1, bI_t, bI_f, dltT, dltF, dleT, dleF, deqT, deqF, Nat.not_lt_zero, not_true_eq_false, not_false_eq_true, true_and, and_true, false_and, and_false, or_true, true_or, false_or, or_false, and_self, if_true, if_false, Classical.not_not, Nat.add_assoc, Nat.zero_add, Nat.add_zero, bI_or, bI_True, bI_False, Bool.false_eq_true, reduceCtorEq, eq_self, gi_si, gl_si, gr_si, hn_si, hL_si, hX_si, gi_sl, gl_sl, gr_sl, hn_sl, ob_si, ar_si, ob_sl, ar_sl, ks_167_0, ks_167_1, oF, g0, g1, g2, g4, g5, g6, g7, g8, g9, g10, g11, g12, g13, o21, o22, o23, o28, o29, o32, o34, o36, oM, oM, c_hasT_q hm hB hA hW, Cal_eq r1])
          exact hQ
        · have oO := (O_facts hB).1; obtain ⟨hA, hIr, f0⟩ := IO_0 hI; replace hB := Bs.si hB 87 7 (iN 0); have hW := hs.1; obtain ⟨oO2, rO1, rO2, rO3, rO4, rO5, rO8, aO1, aO2, aO3, aO4, aO5, aO8, sO1, sO2, sO3, sO4, sO5, sO8⟩ := O_facts hB; obtain ⟨fN, fD, fK, fF, fH, fM, fQ⟩ := id hA; obtain ⟨wN, wK, wF, wH, wM, wQ, wS, wZ, wT⟩ := id hW
          generalize gX s = x at *
          have key : ∀ Q : Option Value → Hp → Prop, (∀ h', Ao h' x → Fo Sy Fy h h' → Q (some (.int (bhA (bhN x i)))) h') → wp 4 268 0 [some (.ref 87), some (.int (iN i)), some (.int (iN 0)), none, none, none, none, none, none] [] h Q := by
            intro Q hQ
            obtain ⟨h1, r1, A1, K1, f1⟩ := wo_think hB hA
            have B1 := f1.bs hB
            have q1 := (O_facts B1).1
            (refine wp_go 600 ks_268_0.1 ?_; simp (disch := first | with_reducible assumption | omega | (simp only [ob_si, ar_si, ob_sl, ar_sl]; with_reducible assumption)) only [ci_0, ci_1, ci_32, cm_1, cm_9, inc_i, ldA_a, ldI_i, oc_201, oc_202, oc_236, oc_237, oc_252, r_0, r_2, r_3, r_30, r_31, r_32, r_33, r_34, r_42, r_43, r_44, r_6, r_62, r_63, r_70, r_71, r_80_1, r_80_2, r_80_3, r_81_1, r_81_3, r_9, r_90, wpn_S, wpn_zero, stp_h, lk_0, lk_s, st1_0, st1_1, st1_2, st2_0, st2_1, st2_2, kj_i, kj_a, kj_l, kj_n, cat_n, cat_i, cat_a, cat_u, cat_l, vc_i, vc_a, rv_s, tl_n, tl_s, Cal'_s, List.length_cons, List.length_nil, i0, i1, iNd, iN_lt, iN_le, iN_eq, iN_add, iN_mul, iN_mod, iN_sub, iN_div, iN_clamp, iN_inb, zle_N, zlt_N, zN_le, zN_lt, zN_eq, Nz_eq, mI_t, mI_f, bI_0, bI_1, bI_t, bI_f, dltT, dltF, dleT, dleF, deqT, deqF, Nat.not_lt_zero, not_true_eq_false, not_false_eq_true, true_and, and_true, false_and, and_false, or_true, true_or, false_or, or_false, and_self, if_true, if_false, Classical.not_not, Nat.add_assoc, Nat.zero_add, Nat.add_zero, bI_or, bI_True, bI_False, Bool.false_eq_true, reduceCtorEq, eq_self, gi_si, gl_si, gr_si, hn_si, hL_si, hX_si, gi_sl, gl_sl, gr_sl, hn_sl, ob_si, ar_si, ob_sl, ar_sl, ks_268_0, ks_268_1, ks_268_2, ks_268_3, oO, oO2, rO1, rO2, rO3, rO4, rO5, rO8, aO1, aO2, aO3, aO4, aO5, aO8, fN, fD, fK, fF, fH, fM, fQ, oO, o_one_q hB hA hW, isP_N, o_wb0_q, isP_in, o_in_q trivial, Cal_eq r1])
            by_cases h6 : xM x i < 6
            · obtain ⟨t1, t2, t3⟩ := wT i hi h6
              refine wp_foldH (fun c a (w : Option Value × Option Value) => [some (.ref 87), some (.int (iN i)), some (.int (iN 0)), some (.int (iN 0)), some (.int (bhA a)), some (.int (bhW a)), some (.int (iN c)), w.1, w.2]) (bhS x i) (fun c a h' => bhP a ∧ Ao h' x ∧ Kx h' 98 x ∧ Fo Sy Fy h h') 32 ?_ 32 0 none (none, none) h1 (by omega) ⟨(fun b l e => by cases e), A1, K1, f0.tr (Fo_y98 f1)⟩ ?_
              · rintro c a w h1 hc ⟨ha, A1, K1, f1⟩ hn
                have B1 := f1.bs hB
                obtain ⟨oO_1, t1_1, t2_1, t3_1, t4_1, t5_1, t8_1, y1_1, y2_1, y3_1, y4_1, y5_1, y8_1, z1_1, z2_1, z3_1, z4_1, z5_1, z8_1⟩ := O_facts B1; obtain ⟨eN_1, eD_1, eK_1, eF_1, eH_1, eM_1, eQ_1⟩ := id A1
                have m1 : gi h1 91 i = iN (xM x i) := by rw [eM_1 i (by omega)]; exact mI_t h6
                have A2 := Ao_H (i := i) (v := c) A1
                have W2 : Wf (uH x i c) := wf_H hW hc
                have f2 : Fo Sq Fq h1 (si h1 90 i (iN c)) := (Fo.rf _ _ h1).sa (by unfold Sq; omega) (by omega) _ _
                have B2 := f2.bs B1
                have K2 := K1.fr f2 (by unfold Sq; omega) (by omega)
                have m2 : gi (si h1 90 i (iN c)) 91 i = iN (xM x i) := by rw [gi_si, up_f (by omega)]; exact m1
                obtain ⟨h3, r3, A3, K3, f3⟩ := wo_zero (i := i) (j := xM x i) B2 A2 W2 K2 (by omega) h6
                rw [zd_uH hW hi h6] at r3
                have hP := bhS_P (x := x) (p := i) hc ha
                cases hw : mbO x i c with
                | none =>
                  rw [hw] at r3
                  change Ret _ _ _ _ (some (.int (zI (-9)))) _ at r3
                  have hn := hn (some (.int (zI (-9))), some (.int (iN 0))) h3 ⟨hP, A3, K3, (f1.tr (Fo_yq f2)).tr (Fo_y98 f3)⟩
                  rw [bhS_n hw] at hn
                  (refine wp_go 600 ks_268_1.2.2.2.2.1 ?_; simp (disch := first | with_reducible assumption | omega | (simp only [ob_si, ar_si, ob_sl, ar_sl]; with_reducible assumption)) only [ci_0, ci_1, ci_32, cm_1, cm_9, inc_i, ldA_a, ldI_i, oc_201, oc_202, oc_236, oc_237, oc_252, r_0, r_2, r_3, r_30, r_31, r_32, r_33, r_34, r_42, r_43, r_44, r_6, r_62, r_63, r_70, r_71, r_80_1, r_80_2, r_80_3, r_81_1, r_81_3, r_9, r_90, wpn_S, wpn_zero, stp_h, lk_0, lk_s, st1_0, st1_1, st1_2, st2_0, st2_1, st2_2, kj_i, kj_a, kj_l, kj_n, cat_n, cat_i, cat_a, cat_u, cat_l, vc_i, vc_a, rv_s, tl_n, tl_s, Cal'_s, List.length_cons, List.length_nil, i0, i1, iNd, iN_lt, iN_le, iN_eq, iN_add, iN_mul, iN_mod, iN_sub, iN_div, iN_clamp, iN_inb, zle_N, zlt_N, zN_le, zN_lt, zN_eq, Nz_eq, mI_t, mI_f, bI_0, bI_1, bI_t, bI_f, dltT, dltF, dleT, dleF, deqT, deqF, Nat.not_lt_zero, not_true_eq_false, not_false_eq_true, true_and, and_true, false_and, and_false, or_true, true_or, false_or, or_false, and_self, if_true, if_false, Classical.not_not, Nat.add_assoc, Nat.zero_add, Nat.add_zero, bI_or, bI_True, bI_False, Bool.false_eq_true, reduceCtorEq, eq_self, gi_si, gl_si, gr_si, hn_si, hL_si, hX_si, gi_sl, gl_sl, gr_sl, hn_sl, ob_si, ar_si, ob_sl, ar_sl, ks_268_0, ks_268_1, ks_268_2, ks_268_3, oO_1, t1_1, t2_1, t3_1, t4_1, t5_1, t8_1, y1_1, y2_1, y3_1, y4_1, y5_1, y8_1, eN_1, eD_1, eK_1, eF_1, eH_1, eM_1, eQ_1, m1, gi_si, up_f, Cal_eq r3])
                  exact hn
                | some q =>
                  rw [hw] at r3
                  change Ret _ _ _ _ (some (.int (iN q))) _ at r3
                  have hq := mbO_lt hw
                  cases a with
                  | none =>
                    have hn := hn (some (.int (iN q)), some (.int (iN 1))) h3 ⟨hP, A3, K3, (f1.tr (Fo_yq f2)).tr (Fo_y98 f3)⟩
                    rw [bhS_0 hw] at hn
                    simp only [bhA, bhW] at hn ⊢
                    (refine wp_go 600 ks_268_1.2.2.2.2.1 ?_; simp (disch := first | with_reducible assumption | omega | (simp only [ob_si, ar_si, ob_sl, ar_sl]; with_reducible assumption)) only [ci_0, ci_1, ci_32, cm_1, cm_9, inc_i, ldA_a, ldI_i, oc_201, oc_202, oc_236, oc_237, oc_252, r_0, r_2, r_3, r_30, r_31, r_32, r_33, r_34, r_42, r_43, r_44, r_6, r_62, r_63, r_70, r_71, r_80_1, r_80_2, r_80_3, r_81_1, r_81_3, r_9, r_90, wpn_S, wpn_zero, stp_h, lk_0, lk_s, st1_0, st1_1, st1_2, st2_0, st2_1, st2_2, kj_i, kj_a, kj_l, kj_n, cat_n, cat_i, cat_a, cat_u, cat_l, vc_i, vc_a, rv_s, tl_n, tl_s, Cal'_s, List.length_cons, List.length_nil, i0, i1, iNd, iN_lt, iN_le, iN_eq, iN_add, iN_mul, iN_mod, iN_sub, iN_div, iN_clamp, iN_inb, zle_N, zlt_N, zN_le, zN_lt, zN_eq, Nz_eq, mI_t, mI_f, bI_0, bI_1, bI_t, bI_f, dltT, dltF, dleT, dleF, deqT, deqF, Nat.not_lt_zero, not_true_eq_false, not_false_eq_true, true_and, and_true, false_and, and_false, or_true, true_or, false_or, or_false, and_self, if_true, if_false, Classical.not_not, Nat.add_assoc, Nat.zero_add, Nat.add_zero, bI_or, bI_True, bI_False, Bool.false_eq_true, reduceCtorEq, eq_self, gi_si, gl_si, gr_si, hn_si, hL_si, hX_si, gi_sl, gl_sl, gr_sl, hn_sl, ob_si, ar_si, ob_sl, ar_sl, ks_268_0, ks_268_1, ks_268_2, ks_268_3, oO_1, t1_1, t2_1, t3_1, t4_1, t5_1, t8_1, y1_1, y2_1, y3_1, y4_1, y5_1, y8_1, eN_1, eD_1, eK_1, eF_1, eH_1, eM_1, eQ_1, m1, gi_si, up_f, Cal_eq r3])
                    exact hn
                  | some z =>
                    obtain ⟨b, l⟩ := z
                    have hb := ha b l rfl
                    have hc1 := bcN_b c
                    have hc2 := bcN_b b
                    by_cases c1 : q < l
                    · have hn := hn (some (.int (iN q)), some (.int (iN 1))) h3 ⟨hP, A3, K3, (f1.tr (Fo_yq f2)).tr (Fo_y98 f3)⟩
                      rw [bhS_s hw, if_pos (Or.inl c1)] at hn
                      simp only [bhA, bhW] at hn ⊢
                      (refine wp_go 600 ks_268_1.2.2.2.2.1 ?_; simp (disch := first | with_reducible assumption | omega | (simp only [ob_si, ar_si, ob_sl, ar_sl]; with_reducible assumption)) only [ci_0, ci_1, ci_32, cm_1, cm_9, inc_i, ldA_a, ldI_i, oc_201, oc_202, oc_236, oc_237, oc_252, r_0, r_2, r_3, r_30, r_31, r_32, r_33, r_34, r_42, r_43, r_44, r_6, r_62, r_63, r_70, r_71, r_80_1, r_80_2, r_80_3, r_81_1, r_81_3, r_9, r_90, wpn_S, wpn_zero, stp_h, lk_0, lk_s, st1_0, st1_1, st1_2, st2_0, st2_1, st2_2, kj_i, kj_a, kj_l, kj_n, cat_n, cat_i, cat_a, cat_u, cat_l, vc_i, vc_a, rv_s, tl_n, tl_s, Cal'_s, List.length_cons, List.length_nil, i0, i1, iNd, iN_lt, iN_le, iN_eq, iN_add, iN_mul, iN_mod, iN_sub, iN_div, iN_clamp, iN_inb, zle_N, zlt_N, zN_le, zN_lt, zN_eq, Nz_eq, mI_t, mI_f, bI_0, bI_1, bI_t, bI_f, dltT, dltF, dleT, dleF, deqT, deqF, Nat.not_lt_zero, not_true_eq_false, not_false_eq_true, true_and, and_true, false_and, and_false, or_true, true_or, false_or, or_false, and_self, if_true, if_false, Classical.not_not, Nat.add_assoc, Nat.zero_add, Nat.add_zero, bI_or, bI_True, bI_False, Bool.false_eq_true, reduceCtorEq, eq_self, gi_si, gl_si, gr_si, hn_si, hL_si, hX_si, gi_sl, gl_sl, gr_sl, hn_sl, ob_si, ar_si, ob_sl, ar_sl, ks_268_0, ks_268_1, ks_268_2, ks_268_3, oO_1, t1_1, t2_1, t3_1, t4_1, t5_1, t8_1, y1_1, y2_1, y3_1, y4_1, y5_1, y8_1, eN_1, eD_1, eK_1, eF_1, eH_1, eM_1, eQ_1, m1, gi_si, up_f, Cal_eq r3])
                      exact hn
                    · by_cases c2 : q = l
                      · subst c2
                        by_cases c3 : bcN c < bcN b
                        · have hn := hn (some (.int (iN q)), some (.int (iN 1))) h3 ⟨hP, A3, K3, (f1.tr (Fo_yq f2)).tr (Fo_y98 f3)⟩
                          rw [bhS_s hw, if_pos (Or.inr ⟨rfl, c3⟩)] at hn
                          simp only [bhA, bhW] at hn ⊢
                          (refine wp_go 600 ks_268_1.2.2.2.2.1 ?_; simp (disch := first | with_reducible assumption | omega | (simp only [ob_si, ar_si, ob_sl, ar_sl]; with_reducible assumption)) only [ci_0, ci_1, ci_32, cm_1, cm_9, inc_i, ldA_a, ldI_i, oc_201, oc_202, oc_236, oc_237, oc_252, r_0, r_2, r_3, r_30, r_31, r_32, r_33, r_34, r_42, r_43, r_44, r_6, r_62, r_63, r_70, r_71, r_80_1, r_80_2, r_80_3, r_81_1, r_81_3, r_9, r_90, wpn_S, wpn_zero, stp_h, lk_0, lk_s, st1_0, st1_1, st1_2, st2_0, st2_1, st2_2, kj_i, kj_a, kj_l, kj_n, cat_n, cat_i, cat_a, cat_u, cat_l, vc_i, vc_a, rv_s, tl_n, tl_s, Cal'_s, List.length_cons, List.length_nil, i0, i1, iNd, iN_lt, iN_le, iN_eq, iN_add, iN_mul, iN_mod, iN_sub, iN_div, iN_clamp, iN_inb, zle_N, zlt_N, zN_le, zN_lt, zN_eq, Nz_eq, mI_t, mI_f, bI_0, bI_1, bI_t, bI_f, dltT, dltF, dleT, dleF, deqT, deqF, Nat.not_lt_zero, not_true_eq_false, not_false_eq_true, true_and, and_true, false_and, and_false, or_true, true_or, false_or, or_false, and_self, if_true, if_false, Classical.not_not, Nat.add_assoc, Nat.zero_add, Nat.add_zero, bI_or, bI_True, bI_False, Bool.false_eq_true, reduceCtorEq, eq_self, gi_si, gl_si, gr_si, hn_si, hL_si, hX_si, gi_sl, gl_sl, gr_sl, hn_sl, ob_si, ar_si, ob_sl, ar_sl, ks_268_0, ks_268_1, ks_268_2, ks_268_3, oO_1, t1_1, t2_1, t3_1, t4_1, t5_1, t8_1, y1_1, y2_1, y3_1, y4_1, y5_1, y8_1, eN_1, eD_1, eK_1, eF_1, eH_1, eM_1, eQ_1, m1, gi_si, up_f, Cal_eq r3, o_ones_q])
                          exact hn
                        · have hn := hn (some (.int (iN q)), some (.int (iN 0))) h3 ⟨hP, A3, K3, (f1.tr (Fo_yq f2)).tr (Fo_y98 f3)⟩
                          rw [bhS_s hw, if_neg (fun e => e.elim (fun e => c1 e) (fun e => c3 e.2))] at hn
                          simp only [bhA, bhW] at hn ⊢
                          (refine wp_go 600 ks_268_1.2.2.2.2.1 ?_; simp (disch := first | with_reducible assumption | omega | (simp only [ob_si, ar_si, ob_sl, ar_sl]; with_reducible assumption)) only [ci_0, ci_1, ci_32, cm_1, cm_9, inc_i, ldA_a, ldI_i, oc_201, oc_202, oc_236, oc_237, oc_252, r_0, r_2, r_3, r_30, r_31, r_32, r_33, r_34, r_42, r_43, r_44, r_6, r_62, r_63, r_70, r_71, r_80_1, r_80_2, r_80_3, r_81_1, r_81_3, r_9, r_90, wpn_S, wpn_zero, stp_h, lk_0, lk_s, st1_0, st1_1, st1_2, st2_0, st2_1, st2_2, kj_i, kj_a, kj_l, kj_n, cat_n, cat_i, cat_a, cat_u, cat_l, vc_i, vc_a, rv_s, tl_n, tl_s, Cal'_s, List.length_cons, List.length_nil, i0, i1, iNd, iN_lt, iN_le, iN_eq, iN_add, iN_mul, iN_mod, iN_sub, iN_div, iN_clamp, iN_inb, zle_N, zlt_N, zN_le, zN_lt, zN_eq, Nz_eq, mI_t, mI_f, bI_0, bI_1, bI_t, bI_f, dltT, dltF, dleT, dleF, deqT, deqF, Nat.not_lt_zero, not_true_eq_false, not_false_eq_true, true_and, and_true, false_and, and_false, or_true, true_or, false_or, or_false, and_self, if_true, if_false, Classical.not_not, Nat.add_assoc, Nat.zero_add, Nat.add_zero, bI_or, bI_True, bI_False, Bool.false_eq_true, reduceCtorEq, eq_self, gi_si, gl_si, gr_si, hn_si, hL_si, hX_si, gi_sl, gl_sl, gr_sl, hn_sl, ob_si, ar_si, ob_sl, ar_sl, ks_268_0, ks_268_1, ks_268_2, ks_268_3, oO_1, t1_1, t2_1, t3_1, t4_1, t5_1, t8_1, y1_1, y2_1, y3_1, y4_1, y5_1, y8_1, eN_1, eD_1, eK_1, eF_1, eH_1, eM_1, eQ_1, m1, gi_si, up_f, Cal_eq r3, o_ones_q])
                          exact hn
                      · have hn := hn (some (.int (iN q)), some (.int (iN 0))) h3 ⟨hP, A3, K3, (f1.tr (Fo_yq f2)).tr (Fo_y98 f3)⟩
                        rw [bhS_s hw, if_neg (fun e => e.elim (fun e => c1 e) (fun e => c2 e.1))] at hn
                        simp only [bhA, bhW] at hn ⊢
                        (refine wp_go 600 ks_268_1.2.2.2.2.1 ?_; simp (disch := first | with_reducible assumption | omega | (simp only [ob_si, ar_si, ob_sl, ar_sl]; with_reducible assumption)) only [ci_0, ci_1, ci_32, cm_1, cm_9, inc_i, ldA_a, ldI_i, oc_201, oc_202, oc_236, oc_237, oc_252, r_0, r_2, r_3, r_30, r_31, r_32, r_33, r_34, r_42, r_43, r_44, r_6, r_62, r_63, r_70, r_71, r_80_1, r_80_2, r_80_3, r_81_1, r_81_3, r_9, r_90, wpn_S, wpn_zero, stp_h, lk_0, lk_s, st1_0, st1_1, st1_2, st2_0, st2_1, st2_2, kj_i, kj_a, kj_l, kj_n, cat_n, cat_i, cat_a, cat_u, cat_l, vc_i, vc_a, rv_s, tl_n, tl_s, Cal'_s, List.length_cons, List.length_nil, i0, i1, iNd, iN_lt, iN_le, iN_eq, iN_add, iN_mul, iN_mod, iN_sub, iN_div, iN_clamp, iN_inb, zle_N, zlt_N, zN_le, zN_lt, zN_eq, Nz_eq, mI_t, mI_f, bI_0, bI_1, bI_t, bI_f, dltT, dltF, dleT, dleF, deqT, deqF, Nat.not_lt_zero, not_true_eq_false, not_false_eq_true, true_and, and_true, false_and, and_false, or_true, true_or, false_or, or_false, and_self, if_true, if_false, Classical.not_not, Nat.add_assoc, Nat.zero_add, Nat.add_zero, bI_or, bI_True, bI_False, Bool.false_eq_true, reduceCtorEq, eq_self, gi_si, gl_si, gr_si, hn_si, hL_si, hX_si, gi_sl, gl_sl, gr_sl, hn_sl, ob_si, ar_si, ob_sl, ar_sl, ks_268_0, ks_268_1, ks_268_2, ks_268_3, oO_1, t1_1, t2_1, t3_1, t4_1, t5_1, t8_1, y1_1, y2_1, y3_1, y4_1, y5_1, y8_1, eN_1, eD_1, eK_1, eF_1, eH_1, eM_1, eQ_1, m1, gi_si, up_f, Cal_eq r3])
                        exact hn
              · rintro w h1 ⟨ha, A1, K1, f1⟩
                have oO_1 := (O_facts (f1.bs hB)).1
                obtain ⟨h2, r2, A2, K2, f2⟩ := wo_again (f1.bs hB) K1
                (refine wp_go 600 ks_268_1.2.2.2.2.1 ?_; simp (disch := first | with_reducible assumption | omega | (simp only [ob_si, ar_si, ob_sl, ar_sl]; with_reducible assumption)) only [ci_0, ci_1, ci_32, cm_1, cm_9, inc_i, ldA_a, ldI_i, oc_201, oc_202, oc_236, oc_237, oc_252, r_0, r_2, r_3, r_30, r_31, r_32, r_33, r_34, r_42, r_43, r_44, r_6, r_62, r_63, r_70, r_71, r_80_1, r_80_2, r_80_3, r_81_1, r_81_3, r_9, r_90, wpn_S, wpn_zero, stp_h, lk_0, lk_s, st1_0, st1_1, st1_2, st2_0, st2_1, st2_2, kj_i, kj_a, kj_l, kj_n, cat_n, cat_i, cat_a, cat_u, cat_l, vc_i, vc_a, rv_s, tl_n, tl_s, Cal'_s, List.length_cons, List.length_nil, i0, i1, iNd, iN_lt, iN_le, iN_eq, iN_add, iN_mul, iN_mod, iN_sub, iN_div, iN_clamp, iN_inb, zle_N, zlt_N, zN_le, zN_lt, zN_eq, Nz_eq, mI_t, mI_f, bI_0, bI_1, bI_t, bI_f, dltT, dltF, dleT, dleF, deqT, deqF, Nat.not_lt_zero, not_true_eq_false, not_false_eq_true, true_and, and_true, false_and, and_false, or_true, true_or, false_or, or_false, and_self, if_true, if_false, Classical.not_not, Nat.add_assoc, Nat.zero_add, Nat.add_zero, bI_or, bI_True, bI_False, Bool.false_eq_true, reduceCtorEq, eq_self, gi_si, gl_si, gr_si, hn_si, hL_si, hX_si, gi_sl, gl_sl, gr_sl, hn_sl, ob_si, ar_si, ob_sl, ar_sl, ks_268_0, ks_268_1, ks_268_2, ks_268_3, oO_1, Cal_eq r2])
                exact hQ _ A2 (f1.tr (Fo_y98 f2))
            · rw [bh_6 h6] at hQ
              simp only [bhA, bhW] at hQ
              obtain ⟨oO_1, t1_1, t2_1, t3_1, t4_1, t5_1, t8_1, y1_1, y2_1, y3_1, y4_1, y5_1, y8_1, z1_1, z2_1, z3_1, z4_1, z5_1, z8_1⟩ := O_facts B1; obtain ⟨eN_1, eD_1, eK_1, eF_1, eH_1, eM_1, eQ_1⟩ := id A1
              have m1 : gi h1 91 i = zI (-9) := by rw [eM_1 i (by omega)]; exact mI_f h6
              obtain ⟨h2, r2, A2, K2, f2⟩ := wo_again B1 K1
              (refine wp_go 600 ks_268_1.2.2.2.2.1 ?_; simp (disch := first | with_reducible assumption | omega | (simp only [ob_si, ar_si, ob_sl, ar_sl]; with_reducible assumption)) only [ci_0, ci_1, ci_32, cm_1, cm_9, inc_i, ldA_a, ldI_i, oc_201, oc_202, oc_236, oc_237, oc_252, r_0, r_2, r_3, r_30, r_31, r_32, r_33, r_34, r_42, r_43, r_44, r_6, r_62, r_63, r_70, r_71, r_80_1, r_80_2, r_80_3, r_81_1, r_81_3, r_9, r_90, wpn_S, wpn_zero, stp_h, lk_0, lk_s, st1_0, st1_1, st1_2, st2_0, st2_1, st2_2, kj_i, kj_a, kj_l, kj_n, cat_n, cat_i, cat_a, cat_u, cat_l, vc_i, vc_a, rv_s, tl_n, tl_s, Cal'_s, List.length_cons, List.length_nil, i0, i1, iNd, iN_lt, iN_le, iN_eq, iN_add, iN_mul, iN_mod, iN_sub, iN_div, iN_clamp, iN_inb, zle_N, zlt_N, zN_le, zN_lt, zN_eq, Nz_eq, mI_t, mI_f, bI_0, bI_1, bI_t, bI_f, dltT, dltF, dleT, dleF, deqT, deqF, Nat.not_lt_zero, not_true_eq_false, not_false_eq_true, true_and, and_true, false_and, and_false, or_true, true_or, false_or, or_false, and_self, if_true, if_false, Classical.not_not, Nat.add_assoc, Nat.zero_add, Nat.add_zero, bI_or, bI_True, bI_False, Bool.false_eq_true, reduceCtorEq, eq_self, gi_si, gl_si, gr_si, hn_si, hL_si, hX_si, gi_sl, gl_sl, gr_sl, hn_sl, ob_si, ar_si, ob_sl, ar_sl, ks_268_0, ks_268_1, ks_268_2, ks_268_3, oO_1, t1_1, t2_1, t3_1, t4_1, t5_1, t8_1, y1_1, y2_1, y3_1, y4_1, y5_1, y8_1, eN_1, eD_1, eK_1, eF_1, eH_1, eM_1, eQ_1, m1, Cal_eq r2])
              exact hQ _ A2 ((f0.tr (Fo_y98 f1)).tr (Fo_y98 f2))
          obtain ⟨v, h', r, rfl, A, f⟩ := Ret_ex (d := 4) (y := 268) (as := [.ref 87, .int (iN i), .int (iN 0)]) [some (.ref 87), some (.int (iN i)), some (.int (iN 0)), none, none, none, none, none, none] rfl rfl (key (fun v h' => v = some (.int (bhA (bhN x i))) ∧ Ao h' x ∧ Fo Sy Fy h h') fun h' a b => ⟨rfl, a, b⟩)
          exact ⟨h', Ret.up (d := 4) r (by decide), A, f⟩
      · refine op_query hs (v := .int (bhW (bhN (gX s) i))) (fun h hB hI => ?_) (fun h hB hI => ?_)
        · obtain ⟨oF, g0, g1, g2, g4, g5, g6, g7, g8, g9, g10, g11, g12, g13, o21, o22, o23, o28, o29, o32, o34, o36, oM⟩ := F_facts hB; obtain ⟨hA, iI, ⟨nx, hP⟩, hR, hL, hF, hT⟩ := id hI; have hW := hs.1; have hm : isM 1 := Or.inl rfl; have wN := hW.1
          obtain ⟨h1, r1, f1, hbP⟩ := d_best hB hA hW hi
          have B1 := f1.bs hB
          have A1 := At1_d hA f1
          obtain ⟨oF_1, k0_1, k1_1, k2_1, k4_1, k5_1, k6_1, k7_1, k8_1, k9_1, k10_1, k11_1, k12_1, k13_1, u21_1, u22_1, u23_1, u28_1, u29_1, u32_1, u34_1, u36_1, uM_1⟩ := F_facts B1
          have hmb := bh_mb (gX s) i
          cases hbn : bhN (gX s) i with
          | none =>
            rw [hbn] at r1
            have r2 := d_mbN B1 A1 hW hi
            simp only [bhA] at r1
            refine ⟨h1, Ret.up (d := 6) ?_ (by decide), Fr_zd f1⟩
            refine Ret_L [some (.ref 0), some (.int (iN i)), some (.int (iN 1))] rfl rfl fun Q hQ => ?_
            simp only [bhW] at hQ
            (refine wp_go 600 ks_167_0.1 ?_; simp (disch := first | with_reducible assumption | omega | (simp only [ob_si, ar_si, ob_sl, ar_sl]; with_reducible assumption)) only [ci_0, ci_1, cm_1, cm_2, ldA_a, ldI_i, oc_191, oc_25, oc_66, oc_67, r_0, r_2, r_32, r_6, r_62, r_80_2, r_80_3, r_90, r_99n, swk_nc, swk_nn, wpn_S, wpn_zero, stp_h, lk_0, lk_s, st1_0, st1_1, st1_2, st2_0, st2_1, st2_2, kj_i, kj_a, kj_l, kj_n, cat_n, cat_i, cat_a, cat_u, cat_l, vc_i, vc_a, rv_s, tl_n, tl_s, Cal'_s, List.length_cons, List.length_nil, i0, i1, iNd, iN_lt, iN_le, iN_eq, iN_add, iN_mul, iN_mod, iN_sub, iN_div, iN_clamp, iN_inb, zle_N, zlt_N, zN_le, zN_lt, zN_eq, Nz_eq, mI_t, mI_f, bI_0, bI_1, bI_t, bI_f, dltT, dltF, dleT, dleF, deqT, deqF, Nat.not_lt_zero, not_true_eq_false, not_false_eq_true, true_and, and_true, false_and, and_false, or_true, true_or, false_or, or_false, and_self, if_true, if_false, Classical.not_not, Nat.add_assoc, Nat.zero_add, Nat.add_zero, bI_or, bI_True, bI_False, Bool.false_eq_true, reduceCtorEq, eq_self, gi_si, gl_si, gr_si, hn_si, hL_si, hX_si, gi_sl, gl_sl, gr_sl, hn_sl, ob_si, ar_si, ob_sl, ar_sl, ks_167_0, ks_167_1, oF, g0, g1, g2, g4, g5, g6, g7, g8, g9, g10, g11, g12, g13, o21, o22, o23, o28, o29, o32, o34, o36, oM, oF_1, k0_1, k1_1, k2_1, k4_1, k5_1, k6_1, k7_1, k8_1, k9_1, k10_1, k11_1, k12_1, k13_1, u21_1, u22_1, u23_1, u28_1, u29_1, u32_1, u34_1, u36_1, uM_1, oM, c_hasT_q hm hB hA hW, Cal_eq r1, Cal_eq r2])
            exact hQ
          | some z =>
            obtain ⟨b, w⟩ := z
            rw [hbn] at r1 hbP
            simp only [bhA] at r1
            obtain ⟨h2, r2, f2⟩ := d_mby (p := i) (c := b) B1 A1 hW hi (hbP b w rfl).1
            rw [hmb b w hbn] at r2
            change Ret _ _ _ _ (some (.int (iN w))) _ at r2
            refine ⟨h2, Ret.up (d := 6) ?_ (by decide), Fr_zd (f1.tr f2)⟩
            refine Ret_L [some (.ref 0), some (.int (iN i)), some (.int (iN 1))] rfl rfl fun Q hQ => ?_
            simp only [bhW] at hQ
            (refine wp_go 600 ks_167_0.1 ?_; simp (disch := first | with_reducible assumption | omega | (simp only [ob_si, ar_si, ob_sl, ar_sl]; with_reducible assumption)) only [ci_0, ci_1, cm_1, cm_2, ldA_a, ldI_i, oc_191, oc_25, oc_66, oc_67, r_0, r_2, r_32, r_6, r_62, r_80_2, r_80_3, r_90, r_99n, swk_nc, swk_nn, wpn_S, wpn_zero, stp_h, lk_0, lk_s, st1_0, st1_1, st1_2, st2_0, st2_1, st2_2, kj_i, kj_a, kj_l, kj_n, cat_n, cat_i, cat_a, cat_u, cat_l, vc_i, vc_a, rv_s, tl_n, tl_s, Cal'_s, List.length_cons, List.length_nil, i0, i1, iNd, iN_lt, iN_le, iN_eq, iN_add, iN_mul, iN_mod, iN_sub, iN_div, iN_clamp, iN_inb, zle_N, zlt_N, zN_le, zN_lt, zN_eq, Nz_eq, mI_t, mI_f, bI_0, bI_1, bI_t, bI_f, dltT, dltF, dleT, dleF, deqT, deqF, Nat.not_lt_zero, not_true_eq_false, not_false_eq_true, true_and, and_true, false_and, and_false, or_true, true_or, false_or, or_false, and_self, if_true, if_false, Classical.not_not, Nat.add_assoc, Nat.zero_add, Nat.add_zero, bI_or, bI_True, bI_False, Bool.false_eq_true, reduceCtorEq, eq_self, gi_si, gl_si, gr_si, hn_si, hL_si, hX_si, gi_sl, gl_sl, gr_sl, hn_sl, ob_si, ar_si, ob_sl, ar_sl, ks_167_0, ks_167_1, oF, g0, g1, g2, g4, g5, g6, g7, g8, g9, g10, g11, g12, g13, o21, o22, o23, o28, o29, o32, o34, o36, oM, oF_1, k0_1, k1_1, k2_1, k4_1, k5_1, k6_1, k7_1, k8_1, k9_1, k10_1, k11_1, k12_1, k13_1, u21_1, u22_1, u23_1, u28_1, u29_1, u32_1, u34_1, u36_1, uM_1, oM, c_hasT_q hm hB hA hW, Cal_eq r1, Cal_eq r2])
            exact hQ
        · have oO := (O_facts hB).1; obtain ⟨hA, hIr, f0⟩ := IO_0 hI; replace hB := Bs.si hB 87 7 (iN 0); have hW := hs.1; obtain ⟨oO2, rO1, rO2, rO3, rO4, rO5, rO8, aO1, aO2, aO3, aO4, aO5, aO8, sO1, sO2, sO3, sO4, sO5, sO8⟩ := O_facts hB; obtain ⟨fN, fD, fK, fF, fH, fM, fQ⟩ := id hA; obtain ⟨wN, wK, wF, wH, wM, wQ, wS, wZ, wT⟩ := id hW
          generalize gX s = x at *
          have key : ∀ Q : Option Value → Hp → Prop, (∀ h', Ao h' x → Fo Sy Fy h h' → Q (some (.int (bhW (bhN x i)))) h') → wp 4 268 0 [some (.ref 87), some (.int (iN i)), some (.int (iN 1)), none, none, none, none, none, none] [] h Q := by
            intro Q hQ
            obtain ⟨h1, r1, A1, K1, f1⟩ := wo_think hB hA
            have B1 := f1.bs hB
            have q1 := (O_facts B1).1
            (refine wp_go 600 ks_268_0.1 ?_; simp (disch := first | with_reducible assumption | omega | (simp only [ob_si, ar_si, ob_sl, ar_sl]; with_reducible assumption)) only [ci_0, ci_1, ci_32, cm_1, cm_9, inc_i, ldA_a, ldI_i, oc_201, oc_202, oc_236, oc_237, oc_252, r_0, r_2, r_3, r_30, r_31, r_32, r_33, r_34, r_42, r_43, r_44, r_6, r_62, r_63, r_70, r_71, r_80_1, r_80_2, r_80_3, r_81_1, r_81_3, r_9, r_90, wpn_S, wpn_zero, stp_h, lk_0, lk_s, st1_0, st1_1, st1_2, st2_0, st2_1, st2_2, kj_i, kj_a, kj_l, kj_n, cat_n, cat_i, cat_a, cat_u, cat_l, vc_i, vc_a, rv_s, tl_n, tl_s, Cal'_s, List.length_cons, List.length_nil, i0, i1, iNd, iN_lt, iN_le, iN_eq, iN_add, iN_mul, iN_mod, iN_sub, iN_div, iN_clamp, iN_inb, zle_N, zlt_N, zN_le, zN_lt, zN_eq, Nz_eq, mI_t, mI_f, bI_0, bI_1, bI_t, bI_f, dltT, dltF, dleT, dleF, deqT, deqF, Nat.not_lt_zero, not_true_eq_false, not_false_eq_true, true_and, and_true, false_and, and_false, or_true, true_or, false_or, or_false, and_self, if_true, if_false, Classical.not_not, Nat.add_assoc, Nat.zero_add, Nat.add_zero, bI_or, bI_True, bI_False, Bool.false_eq_true, reduceCtorEq, eq_self, gi_si, gl_si, gr_si, hn_si, hL_si, hX_si, gi_sl, gl_sl, gr_sl, hn_sl, ob_si, ar_si, ob_sl, ar_sl, ks_268_0, ks_268_1, ks_268_2, ks_268_3, oO, oO2, rO1, rO2, rO3, rO4, rO5, rO8, aO1, aO2, aO3, aO4, aO5, aO8, fN, fD, fK, fF, fH, fM, fQ, oO, o_one_q hB hA hW, isP_N, o_wb0_q, isP_in, o_in_q trivial, Cal_eq r1])
            by_cases h6 : xM x i < 6
            · obtain ⟨t1, t2, t3⟩ := wT i hi h6
              refine wp_foldH (fun c a (w : Option Value × Option Value) => [some (.ref 87), some (.int (iN i)), some (.int (iN 1)), some (.int (iN 0)), some (.int (bhA a)), some (.int (bhW a)), some (.int (iN c)), w.1, w.2]) (bhS x i) (fun c a h' => bhP a ∧ Ao h' x ∧ Kx h' 98 x ∧ Fo Sy Fy h h') 32 ?_ 32 0 none (none, none) h1 (by omega) ⟨(fun b l e => by cases e), A1, K1, f0.tr (Fo_y98 f1)⟩ ?_
              · rintro c a w h1 hc ⟨ha, A1, K1, f1⟩ hn
                have B1 := f1.bs hB
                obtain ⟨oO_1, t1_1, t2_1, t3_1, t4_1, t5_1, t8_1, y1_1, y2_1, y3_1, y4_1, y5_1, y8_1, z1_1, z2_1, z3_1, z4_1, z5_1, z8_1⟩ := O_facts B1; obtain ⟨eN_1, eD_1, eK_1, eF_1, eH_1, eM_1, eQ_1⟩ := id A1
                have m1 : gi h1 91 i = iN (xM x i) := by rw [eM_1 i (by omega)]; exact mI_t h6
                have A2 := Ao_H (i := i) (v := c) A1
                have W2 : Wf (uH x i c) := wf_H hW hc
                have f2 : Fo Sq Fq h1 (si h1 90 i (iN c)) := (Fo.rf _ _ h1).sa (by unfold Sq; omega) (by omega) _ _
                have B2 := f2.bs B1
                have K2 := K1.fr f2 (by unfold Sq; omega) (by omega)
                have m2 : gi (si h1 90 i (iN c)) 91 i = iN (xM x i) := by rw [gi_si, up_f (by omega)]; exact m1
                obtain ⟨h3, r3, A3, K3, f3⟩ := wo_zero (i := i) (j := xM x i) B2 A2 W2 K2 (by omega) h6
                rw [zd_uH hW hi h6] at r3
                have hP := bhS_P (x := x) (p := i) hc ha
                cases hw : mbO x i c with
                | none =>
                  rw [hw] at r3
                  change Ret _ _ _ _ (some (.int (zI (-9)))) _ at r3
                  have hn := hn (some (.int (zI (-9))), some (.int (iN 0))) h3 ⟨hP, A3, K3, (f1.tr (Fo_yq f2)).tr (Fo_y98 f3)⟩
                  rw [bhS_n hw] at hn
                  (refine wp_go 600 ks_268_1.2.2.2.2.1 ?_; simp (disch := first | with_reducible assumption | omega | (simp only [ob_si, ar_si, ob_sl, ar_sl]; with_reducible assumption)) only [ci_0, ci_1, ci_32, cm_1, cm_9, inc_i, ldA_a, ldI_i, oc_201, oc_202, oc_236, oc_237, oc_252, r_0, r_2, r_3, r_30, r_31, r_32, r_33, r_34, r_42, r_43, r_44, r_6, r_62, r_63, r_70, r_71, r_80_1, r_80_2, r_80_3, r_81_1, r_81_3, r_9, r_90, wpn_S, wpn_zero, stp_h, lk_0, lk_s, st1_0, st1_1, st1_2, st2_0, st2_1, st2_2, kj_i, kj_a, kj_l, kj_n, cat_n, cat_i, cat_a, cat_u, cat_l, vc_i, vc_a, rv_s, tl_n, tl_s, Cal'_s, List.length_cons, List.length_nil, i0, i1, iNd, iN_lt, iN_le, iN_eq, iN_add, iN_mul, iN_mod, iN_sub, iN_div, iN_clamp, iN_inb, zle_N, zlt_N, zN_le, zN_lt, zN_eq, Nz_eq, mI_t, mI_f, bI_0, bI_1, bI_t, bI_f, dltT, dltF, dleT, dleF, deqT, deqF, Nat.not_lt_zero, not_true_eq_false, not_false_eq_true, true_and, and_true, false_and, and_false, or_true, true_or, false_or, or_false, and_self, if_true, if_false, Classical.not_not, Nat.add_assoc, Nat.zero_add, Nat.add_zero, bI_or, bI_True, bI_False, Bool.false_eq_true, reduceCtorEq, eq_self, gi_si, gl_si, gr_si, hn_si, hL_si, hX_si, gi_sl, gl_sl, gr_sl, hn_sl, ob_si, ar_si, ob_sl, ar_sl, ks_268_0, ks_268_1, ks_268_2, ks_268_3, oO_1, t1_1, t2_1, t3_1, t4_1, t5_1, t8_1, y1_1, y2_1, y3_1, y4_1, y5_1, y8_1, eN_1, eD_1, eK_1, eF_1, eH_1, eM_1, eQ_1, m1, gi_si, up_f, Cal_eq r3])
                  exact hn
                | some q =>
                  rw [hw] at r3
                  change Ret _ _ _ _ (some (.int (iN q))) _ at r3
                  have hq := mbO_lt hw
                  cases a with
                  | none =>
                    have hn := hn (some (.int (iN q)), some (.int (iN 1))) h3 ⟨hP, A3, K3, (f1.tr (Fo_yq f2)).tr (Fo_y98 f3)⟩
                    rw [bhS_0 hw] at hn
                    simp only [bhA, bhW] at hn ⊢
                    (refine wp_go 600 ks_268_1.2.2.2.2.1 ?_; simp (disch := first | with_reducible assumption | omega | (simp only [ob_si, ar_si, ob_sl, ar_sl]; with_reducible assumption)) only [ci_0, ci_1, ci_32, cm_1, cm_9, inc_i, ldA_a, ldI_i, oc_201, oc_202, oc_236, oc_237, oc_252, r_0, r_2, r_3, r_30, r_31, r_32, r_33, r_34, r_42, r_43, r_44, r_6, r_62, r_63, r_70, r_71, r_80_1, r_80_2, r_80_3, r_81_1, r_81_3, r_9, r_90, wpn_S, wpn_zero, stp_h, lk_0, lk_s, st1_0, st1_1, st1_2, st2_0, st2_1, st2_2, kj_i, kj_a, kj_l, kj_n, cat_n, cat_i, cat_a, cat_u, cat_l, vc_i, vc_a, rv_s, tl_n, tl_s, Cal'_s, List.length_cons, List.length_nil, i0, i1, iNd, iN_lt, iN_le, iN_eq, iN_add, iN_mul, iN_mod, iN_sub, iN_div, iN_clamp, iN_inb, zle_N, zlt_N, zN_le, zN_lt, zN_eq, Nz_eq, mI_t, mI_f, bI_0, bI_1, bI_t, bI_f, dltT, dltF, dleT, dleF, deqT, deqF, Nat.not_lt_zero, not_true_eq_false, not_false_eq_true, true_and, and_true, false_and, and_false, or_true, true_or, false_or, or_false, and_self, if_true, if_false, Classical.not_not, Nat.add_assoc, Nat.zero_add, Nat.add_zero, bI_or, bI_True, bI_False, Bool.false_eq_true, reduceCtorEq, eq_self, gi_si, gl_si, gr_si, hn_si, hL_si, hX_si, gi_sl, gl_sl, gr_sl, hn_sl, ob_si, ar_si, ob_sl, ar_sl, ks_268_0, ks_268_1, ks_268_2, ks_268_3, oO_1, t1_1, t2_1, t3_1, t4_1, t5_1, t8_1, y1_1, y2_1, y3_1, y4_1, y5_1, y8_1, eN_1, eD_1, eK_1, eF_1, eH_1, eM_1, eQ_1, m1, gi_si, up_f, Cal_eq r3])
                    exact hn
                  | some z =>
                    obtain ⟨b, l⟩ := z
                    have hb := ha b l rfl
                    have hc1 := bcN_b c
                    have hc2 := bcN_b b
                    by_cases c1 : q < l
                    · have hn := hn (some (.int (iN q)), some (.int (iN 1))) h3 ⟨hP, A3, K3, (f1.tr (Fo_yq f2)).tr (Fo_y98 f3)⟩
                      rw [bhS_s hw, if_pos (Or.inl c1)] at hn
                      simp only [bhA, bhW] at hn ⊢
                      (refine wp_go 600 ks_268_1.2.2.2.2.1 ?_; simp (disch := first | with_reducible assumption | omega | (simp only [ob_si, ar_si, ob_sl, ar_sl]; with_reducible assumption)) only [ci_0, ci_1, ci_32, cm_1, cm_9, inc_i, ldA_a, ldI_i, oc_201, oc_202, oc_236, oc_237, oc_252, r_0, r_2, r_3, r_30, r_31, r_32, r_33, r_34, r_42, r_43, r_44, r_6, r_62, r_63, r_70, r_71, r_80_1, r_80_2, r_80_3, r_81_1, r_81_3, r_9, r_90, wpn_S, wpn_zero, stp_h, lk_0, lk_s, st1_0, st1_1, st1_2, st2_0, st2_1, st2_2, kj_i, kj_a, kj_l, kj_n, cat_n, cat_i, cat_a, cat_u, cat_l, vc_i, vc_a, rv_s, tl_n, tl_s, Cal'_s, List.length_cons, List.length_nil, i0, i1, iNd, iN_lt, iN_le, iN_eq, iN_add, iN_mul, iN_mod, iN_sub, iN_div, iN_clamp, iN_inb, zle_N, zlt_N, zN_le, zN_lt, zN_eq, Nz_eq, mI_t, mI_f, bI_0, bI_1, bI_t, bI_f, dltT, dltF, dleT, dleF, deqT, deqF, Nat.not_lt_zero, not_true_eq_false, not_false_eq_true, true_and, and_true, false_and, and_false, or_true, true_or, false_or, or_false, and_self, if_true, if_false, Classical.not_not, Nat.add_assoc, Nat.zero_add, Nat.add_zero, bI_or, bI_True, bI_False, Bool.false_eq_true, reduceCtorEq, eq_self, gi_si, gl_si, gr_si, hn_si, hL_si, hX_si, gi_sl, gl_sl, gr_sl, hn_sl, ob_si, ar_si, ob_sl, ar_sl, ks_268_0, ks_268_1, ks_268_2, ks_268_3, oO_1, t1_1, t2_1, t3_1, t4_1, t5_1, t8_1, y1_1, y2_1, y3_1, y4_1, y5_1, y8_1, eN_1, eD_1, eK_1, eF_1, eH_1, eM_1, eQ_1, m1, gi_si, up_f, Cal_eq r3])
                      exact hn
                    · by_cases c2 : q = l
                      · subst c2
                        by_cases c3 : bcN c < bcN b
                        · have hn := hn (some (.int (iN q)), some (.int (iN 1))) h3 ⟨hP, A3, K3, (f1.tr (Fo_yq f2)).tr (Fo_y98 f3)⟩
                          rw [bhS_s hw, if_pos (Or.inr ⟨rfl, c3⟩)] at hn
                          simp only [bhA, bhW] at hn ⊢
                          (refine wp_go 600 ks_268_1.2.2.2.2.1 ?_; simp (disch := first | with_reducible assumption | omega | (simp only [ob_si, ar_si, ob_sl, ar_sl]; with_reducible assumption)) only [ci_0, ci_1, ci_32, cm_1, cm_9, inc_i, ldA_a, ldI_i, oc_201, oc_202, oc_236, oc_237, oc_252, r_0, r_2, r_3, r_30, r_31, r_32, r_33, r_34, r_42, r_43, r_44, r_6, r_62, r_63, r_70, r_71, r_80_1, r_80_2, r_80_3, r_81_1, r_81_3, r_9, r_90, wpn_S, wpn_zero, stp_h, lk_0, lk_s, st1_0, st1_1, st1_2, st2_0, st2_1, st2_2, kj_i, kj_a, kj_l, kj_n, cat_n, cat_i, cat_a, cat_u, cat_l, vc_i, vc_a, rv_s, tl_n, tl_s, Cal'_s, List.length_cons, List.length_nil, i0, i1, iNd, iN_lt, iN_le, iN_eq, iN_add, iN_mul, iN_mod, iN_sub, iN_div, iN_clamp, iN_inb, zle_N, zlt_N, zN_le, zN_lt, zN_eq, Nz_eq, mI_t, mI_f, bI_0, bI_1, bI_t, bI_f, dltT, dltF, dleT, dleF, deqT, deqF, Nat.not_lt_zero, not_true_eq_false, not_false_eq_true, true_and, and_true, false_and, and_false, or_true, true_or, false_or, or_false, and_self, if_true, if_false, Classical.not_not, Nat.add_assoc, Nat.zero_add, Nat.add_zero, bI_or, bI_True, bI_False, Bool.false_eq_true, reduceCtorEq, eq_self, gi_si, gl_si, gr_si, hn_si, hL_si, hX_si, gi_sl, gl_sl, gr_sl, hn_sl, ob_si, ar_si, ob_sl, ar_sl, ks_268_0, ks_268_1, ks_268_2, ks_268_3, oO_1, t1_1, t2_1, t3_1, t4_1, t5_1, t8_1, y1_1, y2_1, y3_1, y4_1, y5_1, y8_1, eN_1, eD_1, eK_1, eF_1, eH_1, eM_1, eQ_1, m1, gi_si, up_f, Cal_eq r3, o_ones_q])
                          exact hn
                        · have hn := hn (some (.int (iN q)), some (.int (iN 0))) h3 ⟨hP, A3, K3, (f1.tr (Fo_yq f2)).tr (Fo_y98 f3)⟩
                          rw [bhS_s hw, if_neg (fun e => e.elim (fun e => c1 e) (fun e => c3 e.2))] at hn
                          simp only [bhA, bhW] at hn ⊢
                          (refine wp_go 600 ks_268_1.2.2.2.2.1 ?_; simp (disch := first | with_reducible assumption | omega | (simp only [ob_si, ar_si, ob_sl, ar_sl]; with_reducible assumption)) only [ci_0, ci_1, ci_32, cm_1, cm_9, inc_i, ldA_a, ldI_i, oc_201, oc_202, oc_236, oc_237, oc_252, r_0, r_2, r_3, r_30, r_31, r_32, r_33, r_34, r_42, r_43, r_44, r_6, r_62, r_63, r_70, r_71, r_80_1, r_80_2, r_80_3, r_81_1, r_81_3, r_9, r_90, wpn_S, wpn_zero, stp_h, lk_0, lk_s, st1_0, st1_1, st1_2, st2_0, st2_1, st2_2, kj_i, kj_a, kj_l, kj_n, cat_n, cat_i, cat_a, cat_u, cat_l, vc_i, vc_a, rv_s, tl_n, tl_s, Cal'_s, List.length_cons, List.length_nil, i0, i1, iNd, iN_lt, iN_le, iN_eq, iN_add, iN_mul, iN_mod, iN_sub, iN_div, iN_clamp, iN_inb, zle_N, zlt_N, zN_le, zN_lt, zN_eq, Nz_eq, mI_t, mI_f, bI_0, bI_1, bI_t, bI_f, dltT, dltF, dleT, dleF, deqT, deqF, Nat.not_lt_zero, not_true_eq_false, not_false_eq_true, true_and, and_true, false_and, and_false, or_true, true_or, false_or, or_false, and_self, if_true, if_false, Classical.not_not, Nat.add_assoc, Nat.zero_add, Nat.add_zero, bI_or, bI_True, bI_False, Bool.false_eq_true, reduceCtorEq, eq_self, gi_si, gl_si, gr_si, hn_si, hL_si, hX_si, gi_sl, gl_sl, gr_sl, hn_sl, ob_si, ar_si, ob_sl, ar_sl, ks_268_0, ks_268_1, ks_268_2, ks_268_3, oO_1, t1_1, t2_1, t3_1, t4_1, t5_1, t8_1, y1_1, y2_1, y3_1, y4_1, y5_1, y8_1, eN_1, eD_1, eK_1, eF_1, eH_1, eM_1, eQ_1, m1, gi_si, up_f, Cal_eq r3, o_ones_q])
                          exact hn
                      · have hn := hn (some (.int (iN q)), some (.int (iN 0))) h3 ⟨hP, A3, K3, (f1.tr (Fo_yq f2)).tr (Fo_y98 f3)⟩
                        rw [bhS_s hw, if_neg (fun e => e.elim (fun e => c1 e) (fun e => c2 e.1))] at hn
                        simp only [bhA, bhW] at hn ⊢
                        (refine wp_go 600 ks_268_1.2.2.2.2.1 ?_; simp (disch := first | with_reducible assumption | omega | (simp only [ob_si, ar_si, ob_sl, ar_sl]; with_reducible assumption)) only [ci_0, ci_1, ci_32, cm_1, cm_9, inc_i, ldA_a, ldI_i, oc_201, oc_202, oc_236, oc_237, oc_252, r_0, r_2, r_3, r_30, r_31, r_32, r_33, r_34, r_42, r_43, r_44, r_6, r_62, r_63, r_70, r_71, r_80_1, r_80_2, r_80_3, r_81_1, r_81_3, r_9, r_90, wpn_S, wpn_zero, stp_h, lk_0, lk_s, st1_0, st1_1, st1_2, st2_0, st2_1, st2_2, kj_i, kj_a, kj_l, kj_n, cat_n, cat_i, cat_a, cat_u, cat_l, vc_i, vc_a, rv_s, tl_n, tl_s, Cal'_s, List.length_cons, List.length_nil, i0, i1, iNd, iN_lt, iN_le, iN_eq, iN_add, iN_mul, iN_mod, iN_sub, iN_div, iN_clamp, iN_inb, zle_N, zlt_N, zN_le, zN_lt, zN_eq, Nz_eq, mI_t, mI_f, bI_0, bI_1, bI_t, bI_f, dltT, dltF, dleT, dleF, deqT, deqF, Nat.not_lt_zero, not_true_eq_false, not_false_eq_true, true_and, and_true, false_and, and_false, or_true, true_or, false_or, or_false, and_self, if_true, if_false, Classical.not_not, Nat.add_assoc, Nat.zero_add, Nat.add_zero, bI_or, bI_True, bI_False, Bool.false_eq_true, reduceCtorEq, eq_self, gi_si, gl_si, gr_si, hn_si, hL_si, hX_si, gi_sl, gl_sl, gr_sl, hn_sl, ob_si, ar_si, ob_sl, ar_sl, ks_268_0, ks_268_1, ks_268_2, ks_268_3, oO_1, t1_1, t2_1, t3_1, t4_1, t5_1, t8_1, y1_1, y2_1, y3_1, y4_1, y5_1, y8_1, eN_1, eD_1, eK_1, eF_1, eH_1, eM_1, eQ_1, m1, gi_si, up_f, Cal_eq r3])
                        exact hn
              · rintro w h1 ⟨ha, A1, K1, f1⟩
                have oO_1 := (O_facts (f1.bs hB)).1
                obtain ⟨h2, r2, A2, K2, f2⟩ := wo_again (f1.bs hB) K1
                (refine wp_go 600 ks_268_1.2.2.2.2.1 ?_; simp (disch := first | with_reducible assumption | omega | (simp only [ob_si, ar_si, ob_sl, ar_sl]; with_reducible assumption)) only [ci_0, ci_1, ci_32, cm_1, cm_9, inc_i, ldA_a, ldI_i, oc_201, oc_202, oc_236, oc_237, oc_252, r_0, r_2, r_3, r_30, r_31, r_32, r_33, r_34, r_42, r_43, r_44, r_6, r_62, r_63, r_70, r_71, r_80_1, r_80_2, r_80_3, r_81_1, r_81_3, r_9, r_90, wpn_S, wpn_zero, stp_h, lk_0, lk_s, st1_0, st1_1, st1_2, st2_0, st2_1, st2_2, kj_i, kj_a, kj_l, kj_n, cat_n, cat_i, cat_a, cat_u, cat_l, vc_i, vc_a, rv_s, tl_n, tl_s, Cal'_s, List.length_cons, List.length_nil, i0, i1, iNd, iN_lt, iN_le, iN_eq, iN_add, iN_mul, iN_mod, iN_sub, iN_div, iN_clamp, iN_inb, zle_N, zlt_N, zN_le, zN_lt, zN_eq, Nz_eq, mI_t, mI_f, bI_0, bI_1, bI_t, bI_f, dltT, dltF, dleT, dleF, deqT, deqF, Nat.not_lt_zero, not_true_eq_false, not_false_eq_true, true_and, and_true, false_and, and_false, or_true, true_or, false_or, or_false, and_self, if_true, if_false, Classical.not_not, Nat.add_assoc, Nat.zero_add, Nat.add_zero, bI_or, bI_True, bI_False, Bool.false_eq_true, reduceCtorEq, eq_self, gi_si, gl_si, gr_si, hn_si, hL_si, hX_si, gi_sl, gl_sl, gr_sl, hn_sl, ob_si, ar_si, ob_sl, ar_sl, ks_268_0, ks_268_1, ks_268_2, ks_268_3, oO_1, Cal_eq r2])
                exact hQ _ A2 (f1.tr (Fo_y98 f2))
            · rw [bh_6 h6] at hQ
              simp only [bhA, bhW] at hQ
              obtain ⟨oO_1, t1_1, t2_1, t3_1, t4_1, t5_1, t8_1, y1_1, y2_1, y3_1, y4_1, y5_1, y8_1, z1_1, z2_1, z3_1, z4_1, z5_1, z8_1⟩ := O_facts B1; obtain ⟨eN_1, eD_1, eK_1, eF_1, eH_1, eM_1, eQ_1⟩ := id A1
              have m1 : gi h1 91 i = zI (-9) := by rw [eM_1 i (by omega)]; exact mI_f h6
              obtain ⟨h2, r2, A2, K2, f2⟩ := wo_again B1 K1
              (refine wp_go 600 ks_268_1.2.2.2.2.1 ?_; simp (disch := first | with_reducible assumption | omega | (simp only [ob_si, ar_si, ob_sl, ar_sl]; with_reducible assumption)) only [ci_0, ci_1, ci_32, cm_1, cm_9, inc_i, ldA_a, ldI_i, oc_201, oc_202, oc_236, oc_237, oc_252, r_0, r_2, r_3, r_30, r_31, r_32, r_33, r_34, r_42, r_43, r_44, r_6, r_62, r_63, r_70, r_71, r_80_1, r_80_2, r_80_3, r_81_1, r_81_3, r_9, r_90, wpn_S, wpn_zero, stp_h, lk_0, lk_s, st1_0, st1_1, st1_2, st2_0, st2_1, st2_2, kj_i, kj_a, kj_l, kj_n, cat_n, cat_i, cat_a, cat_u, cat_l, vc_i, vc_a, rv_s, tl_n, tl_s, Cal'_s, List.length_cons, List.length_nil, i0, i1, iNd, iN_lt, iN_le, iN_eq, iN_add, iN_mul, iN_mod, iN_sub, iN_div, iN_clamp, iN_inb, zle_N, zlt_N, zN_le, zN_lt, zN_eq, Nz_eq, mI_t, mI_f, bI_0, bI_1, bI_t, bI_f, dltT, dltF, dleT, dleF, deqT, deqF, Nat.not_lt_zero, not_true_eq_false, not_false_eq_true, true_and, and_true, false_and, and_false, or_true, true_or, false_or, or_false, and_self, if_true, if_false, Classical.not_not, Nat.add_assoc, Nat.zero_add, Nat.add_zero, bI_or, bI_True, bI_False, Bool.false_eq_true, reduceCtorEq, eq_self, gi_si, gl_si, gr_si, hn_si, hL_si, hX_si, gi_sl, gl_sl, gr_sl, hn_sl, ob_si, ar_si, ob_sl, ar_sl, ks_268_0, ks_268_1, ks_268_2, ks_268_3, oO_1, t1_1, t2_1, t3_1, t4_1, t5_1, t8_1, y1_1, y2_1, y3_1, y4_1, y5_1, y8_1, eN_1, eD_1, eK_1, eF_1, eH_1, eM_1, eQ_1, m1, Cal_eq r2])
              exact hQ _ A2 ((f0.tr (Fo_y98 f1)).tr (Fo_y98 f2))
          obtain ⟨v, h', r, rfl, A, f⟩ := Ret_ex (d := 4) (y := 268) (as := [.ref 87, .int (iN i), .int (iN 1)]) [some (.ref 87), some (.int (iN i)), some (.int (iN 1)), none, none, none, none, none, none] rfl rfl (key (fun v h' => v = some (.int (bhW (bhN x i))) ∧ Ao h' x ∧ Fo Sy Fy h h') fun h' a b => ⟨rfl, a, b⟩)
          exact ⟨h', Ret.up (d := 4) r (by decide), A, f⟩
    · obtain ⟨w0, w1⟩ : ¬ b = iN 0 ∧ ¬ b = iN 1 := ⟨fun e => hw ⟨0, by omega, e⟩, fun e => hw ⟨1, by omega, e⟩⟩
      refine op_refuse hs (k := 2) (by decide) (v := .int (zI (-2))) (fun h hB hI => Ret.up (d := 6) ?_ (by decide)) (fun h hB hI => Ret.up (d := 4) ?_ (by decide))
      · obtain ⟨oF, g0, g1, g2, g4, g5, g6, g7, g8, g9, g10, g11, g12, g13, o21, o22, o23, o28, o29, o32, o34, o36, oM⟩ := F_facts hB; obtain ⟨hA, iI, ⟨nx, hP⟩, hR, hL, hF, hT⟩ := id hI; have hW := hs.1; have hm : isM 1 := Or.inl rfl; have wN := hW.1
        refine Ret_L [some (.ref 0), some (.int (iN i)), some (.int b)] rfl rfl fun Q hQ => ?_
        (refine wp_go 600 ks_167_0.1 ?_; simp (disch := first | with_reducible assumption | omega | (simp only [ob_si, ar_si, ob_sl, ar_sl]; with_reducible assumption)) only [ci_0, ci_1, cm_1, cm_2, ldA_a, ldI_i, oc_191, oc_25, oc_66, oc_67, r_0, r_2, r_32, r_6, r_62, r_80_2, r_80_3, r_90, r_99n, swk_nc, swk_nn, wpn_S, wpn_zero, stp_h, lk_0, lk_s, st1_0, st1_1, st1_2, st2_0, st2_1, st2_2, kj_i, kj_a, kj_l, kj_n, cat_n, cat_i, cat_a, cat_u, cat_l, vc_i, vc_a, rv_s, tl_n, tl_s, Cal'_s, List.length_cons, List.length_nil, i0, i1, iNd, iN_lt, iN_le, iN_eq, iN_add, iN_mul, iN_mod, iN_sub, iN_div, iN_clamp, iN_inb, zle_N, zlt_N, zN_le, zN_lt, zN_eq, Nz_eq, mI_t, mI_f, bI_0, bI_1, bI_t, bI_f, dltT, dltF, dleT, dleF, deqT, deqF, Nat.not_lt_zero, not_true_eq_false, not_false_eq_true, true_and, and_true, false_and, and_false, or_true, true_or, false_or, or_false, and_self, if_true, if_false, Classical.not_not, Nat.add_assoc, Nat.zero_add, Nat.add_zero, bI_or, bI_True, bI_False, Bool.false_eq_true, reduceCtorEq, eq_self, gi_si, gl_si, gr_si, hn_si, hL_si, hX_si, gi_sl, gl_sl, gr_sl, hn_sl, ob_si, ar_si, ob_sl, ar_sl, ks_167_0, ks_167_1, oF, g0, g1, g2, g4, g5, g6, g7, g8, g9, g10, g11, g12, g13, o21, o22, o23, o28, o29, o32, o34, o36, oM, oM, c_hasT_q hm hB hA hW, w0, w1, c_ref2_q hB])
        exact hQ
      · have oO := (O_facts hB).1; obtain ⟨hA, hIr, f0⟩ := IO_0 hI; replace hB := Bs.si hB 87 7 (iN 0); have hW := hs.1; obtain ⟨oO2, rO1, rO2, rO3, rO4, rO5, rO8, aO1, aO2, aO3, aO4, aO5, aO8, sO1, sO2, sO3, sO4, sO5, sO8⟩ := O_facts hB; obtain ⟨fN, fD, fK, fF, fH, fM, fQ⟩ := id hA; obtain ⟨wN, wK, wF, wH, wM, wQ, wS, wZ, wT⟩ := id hW
        refine Ret_L [some (.ref 87), some (.int (iN i)), some (.int b), none, none, none, none, none, none] rfl rfl fun Q hQ => ?_
        (refine wp_go 600 ks_268_0.1 ?_; simp (disch := first | with_reducible assumption | omega | (simp only [ob_si, ar_si, ob_sl, ar_sl]; with_reducible assumption)) only [ci_0, ci_1, ci_32, cm_1, cm_9, inc_i, ldA_a, ldI_i, oc_201, oc_202, oc_236, oc_237, oc_252, r_0, r_2, r_3, r_30, r_31, r_32, r_33, r_34, r_42, r_43, r_44, r_6, r_62, r_63, r_70, r_71, r_80_1, r_80_2, r_80_3, r_81_1, r_81_3, r_9, r_90, wpn_S, wpn_zero, stp_h, lk_0, lk_s, st1_0, st1_1, st1_2, st2_0, st2_1, st2_2, kj_i, kj_a, kj_l, kj_n, cat_n, cat_i, cat_a, cat_u, cat_l, vc_i, vc_a, rv_s, tl_n, tl_s, Cal'_s, List.length_cons, List.length_nil, i0, i1, iNd, iN_lt, iN_le, iN_eq, iN_add, iN_mul, iN_mod, iN_sub, iN_div, iN_clamp, iN_inb, zle_N, zlt_N, zN_le, zN_lt, zN_eq, Nz_eq, mI_t, mI_f, bI_0, bI_1, bI_t, bI_f, dltT, dltF, dleT, dleF, deqT, deqF, Nat.not_lt_zero, not_true_eq_false, not_false_eq_true, true_and, and_true, false_and, and_false, or_true, true_or, false_or, or_false, and_self, if_true, if_false, Classical.not_not, Nat.add_assoc, Nat.zero_add, Nat.add_zero, bI_or, bI_True, bI_False, Bool.false_eq_true, reduceCtorEq, eq_self, gi_si, gl_si, gr_si, hn_si, hL_si, hX_si, gi_sl, gl_sl, gr_sl, hn_sl, ob_si, ar_si, ob_sl, ar_sl, ks_268_0, ks_268_1, ks_268_2, ks_268_3, oO, oO, o_one_q hB hA hW, isP_N, o_wb0_q, isP_in, o_in_q trivial, hw, o_ref2_q hB, o_wb_q])
        exact hQ
  · refine op_refuse hs (k := 1) (by decide) (v := .int (zI (-1))) (fun h hB hI => Ret.up (d := 6) ?_ (by decide)) (fun h hB hI => Ret.up (d := 4) ?_ (by decide))
    · obtain ⟨oF, g0, g1, g2, g4, g5, g6, g7, g8, g9, g10, g11, g12, g13, o21, o22, o23, o28, o29, o32, o34, o36, oM⟩ := F_facts hB; obtain ⟨hA, iI, ⟨nx, hP⟩, hR, hL, hF, hT⟩ := id hI; have hW := hs.1; have hm : isM 1 := Or.inl rfl; have wN := hW.1
      refine Ret_L [some (.ref 0), some (.int a), some (.int b)] rfl rfl fun Q hQ => ?_
      (refine wp_go 600 ks_167_0.1 ?_; simp (disch := first | with_reducible assumption | omega | (simp only [ob_si, ar_si, ob_sl, ar_sl]; with_reducible assumption)) only [ci_0, ci_1, cm_1, cm_2, ldA_a, ldI_i, oc_191, oc_25, oc_66, oc_67, r_0, r_2, r_32, r_6, r_62, r_80_2, r_80_3, r_90, r_99n, swk_nc, swk_nn, wpn_S, wpn_zero, stp_h, lk_0, lk_s, st1_0, st1_1, st1_2, st2_0, st2_1, st2_2, kj_i, kj_a, kj_l, kj_n, cat_n, cat_i, cat_a, cat_u, cat_l, vc_i, vc_a, rv_s, tl_n, tl_s, Cal'_s, List.length_cons, List.length_nil, i0, i1, iNd, iN_lt, iN_le, iN_eq, iN_add, iN_mul, iN_mod, iN_sub, iN_div, iN_clamp, iN_inb, zle_N, zlt_N, zN_le, zN_lt, zN_eq, Nz_eq, mI_t, mI_f, bI_0, bI_1, bI_t, bI_f, dltT, dltF, dleT, dleF, deqT, deqF, Nat.not_lt_zero, not_true_eq_false, not_false_eq_true, true_and, and_true, false_and, and_false, or_true, true_or, false_or, or_false, and_self, if_true, if_false, Classical.not_not, Nat.add_assoc, Nat.zero_add, Nat.add_zero, bI_or, bI_True, bI_False, Bool.false_eq_true, reduceCtorEq, eq_self, gi_si, gl_si, gr_si, hn_si, hL_si, hX_si, gi_sl, gl_sl, gr_sl, hn_sl, ob_si, ar_si, ob_sl, ar_sl, ks_167_0, ks_167_1, oF, g0, g1, g2, g4, g5, g6, g7, g8, g9, g10, g11, g12, g13, o21, o22, o23, o28, o29, o32, o34, o36, oM, oM, c_hasF_q hm hB hA hW, hP, c_ref1_q hB])
      exact hQ
    · have oO := (O_facts hB).1; obtain ⟨hA, hIr, f0⟩ := IO_0 hI; replace hB := Bs.si hB 87 7 (iN 0); have hW := hs.1; obtain ⟨oO2, rO1, rO2, rO3, rO4, rO5, rO8, aO1, aO2, aO3, aO4, aO5, aO8, sO1, sO2, sO3, sO4, sO5, sO8⟩ := O_facts hB; obtain ⟨fN, fD, fK, fF, fH, fM, fQ⟩ := id hA; obtain ⟨wN, wK, wF, wH, wM, wQ, wS, wZ, wT⟩ := id hW
      refine Ret_L [some (.ref 87), some (.int a), some (.int b), none, none, none, none, none, none] rfl rfl fun Q hQ => ?_
      (refine wp_go 600 ks_268_0.1 ?_; simp (disch := first | with_reducible assumption | omega | (simp only [ob_si, ar_si, ob_sl, ar_sl]; with_reducible assumption)) only [ci_0, ci_1, ci_32, cm_1, cm_9, inc_i, ldA_a, ldI_i, oc_201, oc_202, oc_236, oc_237, oc_252, r_0, r_2, r_3, r_30, r_31, r_32, r_33, r_34, r_42, r_43, r_44, r_6, r_62, r_63, r_70, r_71, r_80_1, r_80_2, r_80_3, r_81_1, r_81_3, r_9, r_90, wpn_S, wpn_zero, stp_h, lk_0, lk_s, st1_0, st1_1, st1_2, st2_0, st2_1, st2_2, kj_i, kj_a, kj_l, kj_n, cat_n, cat_i, cat_a, cat_u, cat_l, vc_i, vc_a, rv_s, tl_n, tl_s, Cal'_s, List.length_cons, List.length_nil, i0, i1, iNd, iN_lt, iN_le, iN_eq, iN_add, iN_mul, iN_mod, iN_sub, iN_div, iN_clamp, iN_inb, zle_N, zlt_N, zN_le, zN_lt, zN_eq, Nz_eq, mI_t, mI_f, bI_0, bI_1, bI_t, bI_f, dltT, dltF, dleT, dleF, deqT, deqF, Nat.not_lt_zero, not_true_eq_false, not_false_eq_true, true_and, and_true, false_and, and_false, or_true, true_or, false_or, or_false, and_self, if_true, if_false, Classical.not_not, Nat.add_assoc, Nat.zero_add, Nat.add_zero, bI_or, bI_True, bI_False, Bool.false_eq_true, reduceCtorEq, eq_self, gi_si, gl_si, gr_si, hn_si, hL_si, hX_si, gi_sl, gl_sl, gr_sl, hn_sl, ob_si, ar_si, ob_sl, ar_sl, ks_268_0, ks_268_1, ks_268_2, ks_268_3, oO, oO, o_one_q hB hA hW, hP, o_ref1_q hB, o_wb_q])
      exact hQ
