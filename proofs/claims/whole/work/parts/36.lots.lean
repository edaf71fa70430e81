/-! years by lot -/
theorem msk_ex : ∃ f : Int32 → Nat, (∀ z, f z < 2147483648) ∧ ∀ z, z &&& iN 2147483647 = iN (f z) := by
  refine ⟨fun z => z.toBitVec.toNat % 2147483648, fun z => Nat.mod_lt _ (by decide), fun z => ?_⟩
  simp only [iN_def]
  apply Int32.toBitVec.inj
  show z.toBitVec &&& BitVec.ofNat 32 2147483647 = BitVec.ofNat 32 (z.toBitVec.toNat % 2147483648)
  apply BitVec.eq_of_toNat_eq
  rw [BitVec.toNat_and, BitVec.toNat_ofNat, BitVec.toNat_ofNat, Nat.mod_eq_of_lt (show 2147483647 < 2 ^ 32 by decide), Nat.mod_eq_of_lt (show z.toBitVec.toNat % 2147483648 < 2 ^ 32 from Nat.lt_trans (Nat.mod_lt _ (by decide)) (by decide))]
  exact Nat.and_two_pow_sub_one_eq_mod _ 31
noncomputable def msk : Int32 → Nat := Classical.choose msk_ex
theorem msk_lt (z : Int32) : msk z < 2147483648 := (Classical.choose_spec msk_ex).1 z
theorem msk_eq (z : Int32) : z &&& iN 2147483647 = iN (msk z) := (Classical.choose_spec msk_ex).2 z
theorem dz_ex : ∃ f : Int32 → Int32, ∀ z, f z = z * iN 1103515245 + iN 12345 := ⟨_, fun _ => rfl⟩
noncomputable def dz : Int32 → Int32 := Classical.choose dz_ex
theorem dz_def (z : Int32) : dz z = z * iN 1103515245 + iN 12345 := Classical.choose_spec dz_ex z
theorem drV_ex : ∃ f : Int32 → Nat → Nat, ∀ z n, f z n = msk z / 65536 % n := ⟨_, fun _ _ => rfl⟩
noncomputable def drV : Int32 → Nat → Nat := Classical.choose drV_ex
theorem drV_def (z : Int32) (n : Nat) : drV z n = msk z / 65536 % n := Classical.choose_spec drV_ex z n
theorem drV_lt {z : Int32} {n : Nat} (hn : 0 < n) : drV z n < n := by rw [drV_def]; exact Nat.mod_lt _ hn
theorem msk_d (z : Int32) : msk z / 65536 < 32768 := by have := msk_lt z; omega
theorem iN_mod2 {a b : Nat} : iN a - iN (a / b) * iN b = iN (a % b) := by rw [iN_mul]; exact iN_mod a b
theorem l_draw {h : Hp} {n : Nat} {z : Int32} (hB : Bs h) (hz : gi h 28 3 = z) (hn : 0 < n) (hn2 : n ≤ 6) : Ret 0 19 [.ref 28, .int (iN n)] h (some (.int (iN (drV (dz z) n)))) (si h 28 3 (dz z)) := by
  refine Ret_L [some (.ref 28), some (.int (iN n))] rfl rfl fun Q hQ => ?_
  have oL : ob h 28 2 := hB.ob (by decide) (by decide)
  have hd : z * iN 1103515245 + iN 12345 = dz z := (dz_def z).symm
  rw [drV_def] at hQ
  have b1 := msk_lt (dz z)
  have b2 := msk_d (dz z)
  have e1 : iN (msk (dz z)) / iN 65536 = iN (msk (dz z) / 65536) := iN_div b1 (by omega)
  have em := msk_eq (dz z)
  generalize msk (dz z) = m at *
  generalize m / 65536 = a at *
  have e2 : iN a - iN a / iN n * iN n = iN (a % n) := by rw [iN_div (by omega) (by omega)]; exact iN_mod2
  (refine wp_go 600 ks_19_0.1 ?_; simp (disch := first | assumption | (simp only [ob_si, ar_si, ob_sl, ar_sl]; assumption) | omega) only [ci_0, ci_1103515245, ci_12345, ci_2147483647, ci_65536, ldA_a, ldI_i, r_0, r_10, r_12, r_13, r_19, r_2, r_20, r_30, r_36, r_6, r_60, r_63, r_90, wpn_S, wpn_zero, stp_h, lk_0, lk_s, st1_0, st1_1, st1_2, st2_0, st2_1, st2_2, kj_i, kj_a, kj_l, kj_n, cat_n, cat_i, cat_a, cat_u, cat_l, vc_i, vc_a, rv_s, tl_n, tl_s, Cal'_s, List.length_cons, List.length_nil, i0, i1, iNd, iN_lt, iN_le, iN_eq, iN_add, iN_clamp, iN_inb, zle_N, zlt_N, zN_le, zN_lt, zN_eq, Nz_eq, mI_t, mI_f, bI_0, bI_1, bI_t, bI_f, dltT, dltF, dleT, dleF, deqT, deqF, Nat.not_lt_zero, not_true_eq_false, not_false_eq_true, true_and, and_true, false_and, and_false, or_true, true_or, false_or, or_false, and_self, if_true, if_false, Classical.not_not, Nat.add_assoc, Nat.zero_add, Nat.add_zero, bI_or, bI_True, bI_False, Bool.false_eq_true, reduceCtorEq, eq_self, gi_si, gl_si, gr_si, hn_si, hL_si, hX_si, gi_sl, gl_sl, gr_sl, hn_sl, ob_si, ar_si, ob_sl, ar_sl, ks_19_0, oL, hz, hd, up_t, em, e1, e2])
  exact hQ
theorem l_draw_q {h : Hp} {n : Nat} {z : Int32} (hB : Bs h) (hz : gi h 28 3 = z) (hn : 0 < n) (hn2 : n ≤ 6) {e : Nat} (hd : 0 ≤ e) (K : Option Value → Hp → Prop) : Cal e 19 [.ref 28, .int (iN n)] h K = K (some (.int (iN (drV (dz z) n)))) (si h 28 3 (dz z)) := Cal_eq (l_draw (hB := hB) (hz := hz) (hn := hn) (hn2 := hn2)) hd K
theorem o_draw {h : Hp} {n : Nat} {z : Int32} (hB : Bs h) (hz : gi h 87 32 = z) (hn : 0 < n) (hn2 : n ≤ 6) : Ret 0 295 [.ref 87, .int (iN n)] h (some (.int (iN (drV (dz z) n)))) (si h 87 32 (dz z)) := by
  refine Ret_L [some (.ref 87), some (.int (iN n))] rfl rfl fun Q hQ => ?_
  have oL : ob h 87 12 := hB.ob (by decide) (by decide)
  have hd : z * iN 1103515245 + iN 12345 = dz z := (dz_def z).symm
  rw [drV_def] at hQ
  have b1 := msk_lt (dz z)
  have b2 := msk_d (dz z)
  have e1 : iN (msk (dz z)) / iN 65536 = iN (msk (dz z) / 65536) := iN_div b1 (by omega)
  have em := msk_eq (dz z)
  generalize msk (dz z) = m at *
  generalize m / 65536 = a at *
  have e2 : iN a - iN a / iN n * iN n = iN (a % n) := by rw [iN_div (by omega) (by omega)]; exact iN_mod2
  (refine wp_go 600 ks_295_0.1 ?_; simp (disch := first | assumption | (simp only [ob_si, ar_si, ob_sl, ar_sl]; assumption) | omega) only [ci_1103515245, ci_12345, ci_2147483647, ci_65536, ldA_a, ldI_i, r_0, r_10, r_12, r_13, r_19, r_2, r_20, r_6, r_60, r_63, r_90, wpn_S, wpn_zero, stp_h, lk_0, lk_s, st1_0, st1_1, st1_2, st2_0, st2_1, st2_2, kj_i, kj_a, kj_l, kj_n, cat_n, cat_i, cat_a, cat_u, cat_l, vc_i, vc_a, rv_s, tl_n, tl_s, Cal'_s, List.length_cons, List.length_nil, i0, i1, iNd, iN_lt, iN_le, iN_eq, iN_add, iN_clamp, iN_inb, zle_N, zlt_N, zN_le, zN_lt, zN_eq, Nz_eq, mI_t, mI_f, bI_0, bI_1, bI_t, bI_f, dltT, dltF, dleT, dleF, deqT, deqF, Nat.not_lt_zero, not_true_eq_false, not_false_eq_true, true_and, and_true, false_and, and_false, or_true, true_or, false_or, or_false, and_self, if_true, if_false, Classical.not_not, Nat.add_assoc, Nat.zero_add, Nat.add_zero, bI_or, bI_True, bI_False, Bool.false_eq_true, reduceCtorEq, eq_self, gi_si, gl_si, gr_si, hn_si, hL_si, hX_si, gi_sl, gl_sl, gr_sl, hn_sl, ob_si, ar_si, ob_sl, ar_sl, ks_295_0, oL, hz, hd, up_t, em, e1, e2])
  exact hQ
theorem o_draw_q {h : Hp} {n : Nat} {z : Int32} (hB : Bs h) (hz : gi h 87 32 = z) (hn : 0 < n) (hn2 : n ≤ 6) {e : Nat} (hd : 0 ≤ e) (K : Option Value → Hp → Prop) : Cal e 295 [.ref 87, .int (iN n)] h K = K (some (.int (iN (drV (dz z) n)))) (si h 87 32 (dz z)) := Cal_eq (o_draw (hB := hB) (hz := hz) (hn := hn) (hn2 := hn2)) hd K
/-- a day by lot: seed and meeting -/
noncomputable def jdM (y : Mt) (p q : Nat) : Mt := if ¬ p = q ∧ ¬ xM y p = q then joM y p q else y
theorem jd_N (y : Mt) (p q : Nat) : xN (jdM y p q) = xN y := by unfold jdM; split; exact jo_N y p q; rfl
theorem wf_jd {y : Mt} {p q : Nat} (hW : Wf y) (hp : p < xN y) (hq : q < xN y) : Wf (jdM y p q) := by
  unfold jdM
  split
  · rename_i e; exact wf_jo hW hp hq e.1
  · exact hW
noncomputable def lyS (n : Nat) (a : Int32 × Mt) : Int32 × Mt := (dz (dz a.1), dayM (jdM a.2 (drV (dz a.1) n) (drV (dz (dz a.1)) n)) 1)
noncomputable def lyP (n : Nat) (a : Int32 × Mt) : Prop := Wf a.2 ∧ xN a.2 = n
theorem lyS_P {n : Nat} (hn : 0 < n) {a : Int32 × Mt} (ha : lyP n a) : lyP n (lyS n a) := by
  obtain ⟨h1, h2⟩ := ha
  refine ⟨wf_day (wf_jd h1 (by rw [h2]; exact drV_lt hn) (by rw [h2]; exact drV_lt hn)) 1, ?_⟩
  show xN (jdM a.2 _ _) = n
  rw [jd_N, h2]
theorem lyS_Pk {n : Nat} (hn : 0 < n) {a : Int32 × Mt} (ha : lyP n a) (k : Nat) : lyP n (rp (lyS n) k a) := rp_inv (P := lyP n) (fun _ h => lyS_P hn h) k a ha
noncomputable def Sl : Nat → Prop := fun o => (7 ≤ o ∧ o ≤ 12) ∨ o = 19 ∨ o = 20 ∨ o = 28
theorem At1_l {h h' : Hp} {x : Mt} (hA : At h 1 x) (f : Fr Sl h h') : At h' 1 x := hA.fr f (by intro o h1 h2; unfold Sl; omega)
theorem l_year {h : Hp} {z : Int32} {x : Mt} (hB : Bs h) (hA : At h 1 x) (hW : Wf x) (hz : gi h 28 3 = z) (hn : 0 < xN x) : ∃ h', Ret 5 18 [.ref 28] h none h' ∧ At h' 7 (rp (lyS (xN x)) 30 (z, x)).2 ∧ gi h' 28 3 = (rp (lyS (xN x)) 30 (z, x)).1 ∧ (∀ k, ¬ k = 3 → gi h' 28 k = gi h 28 k) ∧ Fr Sl h h' := by
  have wN := hW.1
  have key : ∀ Q : Option Value → Hp → Prop, (∀ h', At h' 7 (rp (lyS (xN x)) 30 (z, x)).2 → gi h' 28 3 = (rp (lyS (xN x)) 30 (z, x)).1 → (∀ k, ¬ k = 3 → gi h' 28 k = gi h 28 k) → Fr Sl h h' → Q none h') → wp 5 18 0 [some (.ref 28), none, none, none] [] h Q := by
    intro Q hQ
    have oL : ob h 28 2 := hB.ob (by decide) (by decide)
    have rL0 : gr h 28 0 = some 1 := hB.r (by decide)
    have rL1 : gr h 28 1 = some 7 := hB.r (by decide)
    have o7 : ob h 7 3 := hB.ob (by decide) (by decide)
    have i7 : isM 7 := Or.inr (Or.inl rfl)
    obtain ⟨h1, r1, A1, f1⟩ := w_copy (m := 7) (p := 1) i7 (Or.inl rfl) (by omega) hB hA
    have e28 := f1.i (o := 28) (by unfold Sm; omega)
    (refine wp_go 600 ks_18_0.1 ?_; simp (disch := first | assumption | (simp only [ob_si, ar_si, ob_sl, ar_sl]; assumption) | omega) only [ci_0, ci_1, ci_30, inc_i, ldA_a, ldI_i, oc_19, oc_21, oc_22, oc_41, oc_43, oc_50, r_0, r_2, r_3, r_30, r_32, r_41, r_44, r_6, r_62, r_80_1, r_80_2, r_80_3, r_9, r_94, wpn_S, wpn_zero, stp_h, lk_0, lk_s, st1_0, st1_1, st1_2, st2_0, st2_1, st2_2, kj_i, kj_a, kj_l, kj_n, cat_n, cat_i, cat_a, cat_u, cat_l, vc_i, vc_a, rv_s, tl_n, tl_s, Cal'_s, List.length_cons, List.length_nil, i0, i1, iNd, iN_lt, iN_le, iN_eq, iN_add, iN_mul, iN_mod, iN_sub, iN_div, iN_clamp, iN_inb, zle_N, zlt_N, zN_le, zN_lt, zN_eq, Nz_eq, mI_t, mI_f, bI_0, bI_1, bI_t, bI_f, dltT, dltF, dleT, dleF, deqT, deqF, Nat.not_lt_zero, not_true_eq_false, not_false_eq_true, true_and, and_true, false_and, and_false, or_true, true_or, false_or, or_false, and_self, if_true, if_false, Classical.not_not, Nat.add_assoc, Nat.zero_add, Nat.add_zero, bI_or, bI_True, bI_False, Bool.false_eq_true, reduceCtorEq, eq_self, gi_si, gl_si, gr_si, hn_si, hL_si, hX_si, gi_sl, gl_sl, gr_sl, hn_sl, ob_si, ar_si, ob_sl, ar_sl, ks_18_0, ks_18_1, oL, rL0, rL1, o7, Cal_eq r1])
    refine wp_loop (fun d L h' => At h' 7 (rp (lyS (xN x)) d (z, x)).2 ∧ gi h' 28 3 = (rp (lyS (xN x)) d (z, x)).1 ∧ (∀ k, ¬ k = 3 → gi h' 28 k = gi h 28 k) ∧ Fr Sl h h' ∧ ∃ w1 w2, L = [some (.ref 28), some (.int (iN d)), w1, w2]) 30 ?_ ?_ 30 0 _ h1 (by omega) ⟨A1, by rw [e28]; exact hz, fun k _ => by rw [e28], f1.mono (fun o ho => by unfold Sm at ho; unfold Sl; omega), none, none, rfl⟩
    · rintro d L h2 hd ⟨A2, z2, k2, f2, w1, w2, rfl⟩ hnx
      have B2 := f2.bs hB
      obtain ⟨W2, N2⟩ := lyS_Pk (n := xN x) hn (show lyP (xN x) (z, x) from ⟨hW, rfl⟩) d
      have rps : rp (lyS (xN x)) (d + 1) (z, x) = lyS (xN x) (rp (lyS (xN x)) d (z, x)) := rfl
      generalize rp (lyS (xN x)) d (z, x) = a at *
      obtain ⟨zz, y⟩ := a
      change gi h2 28 3 = zz at z2
      change At h2 7 y at A2
      change Wf y at W2
      change xN y = xN x at N2
      have rpp := c_people i7 B2 A2 W2
      rw [N2] at rpp
      have rd1 := l_draw (n := xN x) B2 z2 hn wN
      have B3 := B2.si 28 3 (dz zz)
      have A3 : At (si h2 28 3 (dz zz)) 7 y := A2.fr ((Fr.rf (fun o => o = 28) h2).si rfl 3 (dz zz)) (by intro o _ _; omega)
      have rpp3 := c_people i7 B3 A3 W2
      rw [N2] at rpp3
      have rd2 := l_draw (n := xN x) (z := dz zz) B3 (by rw [gi_si, up_s, up_s]) hn wN
      have B4 := B3.si 28 3 (dz (dz zz))
      have A4 : At (si (si h2 28 3 (dz zz)) 28 3 (dz (dz zz))) 7 y := A3.fr ((Fr.rf (fun o => o = 28) _).si rfl 3 (dz (dz zz))) (by intro o _ _; omega)
      have f4 : Fr Sl h (si (si h2 28 3 (dz zz)) 28 3 (dz (dz zz))) := (f2.si (by unfold Sl; omega) _ _).si (by unfold Sl; omega) _ _
      have k4 : ∀ k, ¬ k = 3 → gi (si (si h2 28 3 (dz zz)) 28 3 (dz (dz zz))) 28 k = gi h 28 k := fun k hk => by
        rw [gi_si, up_s, up_f hk, gi_si, up_s, up_f hk]; exact k2 k hk
      have z4 : gi (si (si h2 28 3 (dz zz)) 28 3 (dz (dz zz))) 28 3 = dz (dz zz) := by rw [gi_si, up_s, up_s]
      have hp := drV_lt (z := dz zz) hn
      have hq := drV_lt (z := dz (dz zz)) hn
      have oL2 : ob h2 28 2 := B2.ob (by decide) (by decide)
      have q1 : gr h2 28 1 = some 7 := B2.r (by decide)
      have q2 : gr h2 28 2 = some 19 := B2.r (by decide)
      have o72 : ob h2 7 3 := B2.ob (by decide) (by decide)
      -- the meeting behind the lot
      have jn : ∃ h5, (∀ (K : Option Value → Hp → Prop), (¬ drV (dz zz) (xN x) = drV (dz (dz zz)) (xN x) ∧ ¬ xM y (drV (dz zz) (xN x)) = drV (dz (dz zz)) (xN x)) → Cal 4 43 [.ref 7, .int (iN (drV (dz zz) (xN x))), .int (iN (drV (dz (dz zz)) (xN x)))] (si (si h2 28 3 (dz zz)) 28 3 (dz (dz zz))) K = K none h5) ∧ (¬ (¬ drV (dz zz) (xN x) = drV (dz (dz zz)) (xN x) ∧ ¬ xM y (drV (dz zz) (xN x)) = drV (dz (dz zz)) (xN x)) → h5 = si (si h2 28 3 (dz zz)) 28 3 (dz (dz zz))) ∧ At h5 7 (jdM y (drV (dz zz) (xN x)) (drV (dz (dz zz)) (xN x))) ∧ Fr (Sm 7) (si (si h2 28 3 (dz zz)) 28 3 (dz (dz zz))) h5 := by
        by_cases hc : ¬ drV (dz zz) (xN x) = drV (dz (dz zz)) (xN x) ∧ ¬ xM y (drV (dz zz) (xN x)) = drV (dz (dz zz)) (xN x)
        · obtain ⟨h5, r5, A5, f5⟩ := w_join i7 B4 A4 W2 (i := drV (dz zz) (xN x)) (j := drV (dz (dz zz)) (xN x)) (by omega) (by omega) hc.1
          exact ⟨h5, fun K _ => Cal_eq r5 (by omega) K, fun q => absurd hc q, by unfold jdM; rw [if_pos hc]; exact A5, f5⟩
        · exact ⟨_, fun K q => absurd q hc, fun _ => rfl, by unfold jdM; rw [if_neg hc]; exact A4, Fr.rf _ _⟩
      obtain ⟨h5, c5, e5, A5, f5⟩ := jn
      have B5 := f5.bs B4
      have W5 := wf_jd (p := drV (dz zz) (xN x)) (q := drV (dz (dz zz)) (xN x)) W2 (by omega) (by omega)
      obtain ⟨h6, r6, A6, f6⟩ := w_live (m := 7) (n := 1) i7 B5 A5 W5 (by omega)
      have oL5 : ob h5 28 2 := B5.ob (by decide) (by decide)
      have q15 : gr h5 28 1 = some 7 := B5.r (by decide)
      have q25 : gr h5 28 2 = some 19 := B5.r (by decide)
      have o75 : ob h5 7 3 := B5.ob (by decide) (by decide)
      have e28' : gi h6 28 = gi (si (si h2 28 3 (dz zz)) 28 3 (dz (dz zz))) 28 := by rw [f6.i (o := 28) (by unfold Sm Sk; omega), f5.i (o := 28) (by unfold Sm; omega)]
      have fin := hnx [some (.ref 28), some (.int (iN (d + 1))), some (.int (iN (drV (dz zz) (xN x)))), some (.int (iN (drV (dz (dz zz)) (xN x))))] h6 ⟨by rw [rps]; exact A6, by rw [rps, e28', z4]; rfl, fun k hk => by rw [e28']; exact k4 k hk, (f4.tr (f5.mono fun o ho => by unfold Sm at ho; unfold Sl; omega)).tr (f6.mono fun o ho => by unfold Sm Sk at ho; unfold Sl; omega), _, _, rfl⟩
      have rom := c_onMat (m := 7) (i := drV (dz zz) (xN x)) (j := drV (dz (dz zz)) (xN x)) i7 B4 A4 W2 (by omega) (by omega)
      by_cases c1 : drV (dz zz) (xN x) = drV (dz (dz zz)) (xN x)
      · have e5' := e5 (fun q => q.1 c1)
        subst e5'
        (refine wp_go 600 ks_18_0.2.2.2.2.2.2.2.1 ?_; simp (disch := first | assumption | (simp only [ob_si, ar_si, ob_sl, ar_sl]; assumption) | omega) only [ci_0, ci_1, ci_30, inc_i, ldA_a, ldI_i, oc_19, oc_21, oc_22, oc_41, oc_43, oc_50, r_0, r_2, r_3, r_30, r_32, r_41, r_44, r_6, r_62, r_80_1, r_80_2, r_80_3, r_9, r_94, wpn_S, wpn_zero, stp_h, lk_0, lk_s, st1_0, st1_1, st1_2, st2_0, st2_1, st2_2, kj_i, kj_a, kj_l, kj_n, cat_n, cat_i, cat_a, cat_u, cat_l, vc_i, vc_a, rv_s, tl_n, tl_s, Cal'_s, List.length_cons, List.length_nil, i0, i1, iNd, iN_lt, iN_le, iN_eq, iN_add, iN_mul, iN_mod, iN_sub, iN_div, iN_clamp, iN_inb, zle_N, zlt_N, zN_le, zN_lt, zN_eq, Nz_eq, mI_t, mI_f, bI_0, bI_1, bI_t, bI_f, dltT, dltF, dleT, dleF, deqT, deqF, Nat.not_lt_zero, not_true_eq_false, not_false_eq_true, true_and, and_true, false_and, and_false, or_true, true_or, false_or, or_false, and_self, if_true, if_false, Classical.not_not, Nat.add_assoc, Nat.zero_add, Nat.add_zero, bI_or, bI_True, bI_False, Bool.false_eq_true, reduceCtorEq, eq_self, gi_si, gl_si, gr_si, hn_si, hL_si, hX_si, gi_sl, gl_sl, gr_sl, hn_sl, ob_si, ar_si, ob_sl, ar_sl, ks_18_0, ks_18_1, oL2, q1, q2, o72, Cal_eq rpp, Cal_eq rd1, Cal_eq rpp3, Cal_eq rd2, c1, Cal_eq r6])
        rw [c1] at fin
        exact fin
      · by_cases c2 : xM y (drV (dz zz) (xN x)) = drV (dz (dz zz)) (xN x)
        · have e5' := e5 (fun q => q.2 c2)
          subst e5'
          rw [bI_t c2] at rom
          (refine wp_go 600 ks_18_0.2.2.2.2.2.2.2.1 ?_; simp (disch := first | assumption | (simp only [ob_si, ar_si, ob_sl, ar_sl]; assumption) | omega) only [ci_0, ci_1, ci_30, inc_i, ldA_a, ldI_i, oc_19, oc_21, oc_22, oc_41, oc_43, oc_50, r_0, r_2, r_3, r_30, r_32, r_41, r_44, r_6, r_62, r_80_1, r_80_2, r_80_3, r_9, r_94, wpn_S, wpn_zero, stp_h, lk_0, lk_s, st1_0, st1_1, st1_2, st2_0, st2_1, st2_2, kj_i, kj_a, kj_l, kj_n, cat_n, cat_i, cat_a, cat_u, cat_l, vc_i, vc_a, rv_s, tl_n, tl_s, Cal'_s, List.length_cons, List.length_nil, i0, i1, iNd, iN_lt, iN_le, iN_eq, iN_add, iN_mul, iN_mod, iN_sub, iN_div, iN_clamp, iN_inb, zle_N, zlt_N, zN_le, zN_lt, zN_eq, Nz_eq, mI_t, mI_f, bI_0, bI_1, bI_t, bI_f, dltT, dltF, dleT, dleF, deqT, deqF, Nat.not_lt_zero, not_true_eq_false, not_false_eq_true, true_and, and_true, false_and, and_false, or_true, true_or, false_or, or_false, and_self, if_true, if_false, Classical.not_not, Nat.add_assoc, Nat.zero_add, Nat.add_zero, bI_or, bI_True, bI_False, Bool.false_eq_true, reduceCtorEq, eq_self, gi_si, gl_si, gr_si, hn_si, hL_si, hX_si, gi_sl, gl_sl, gr_sl, hn_sl, ob_si, ar_si, ob_sl, ar_sl, ks_18_0, ks_18_1, oL2, q1, q2, o72, Cal_eq rpp, Cal_eq rd1, Cal_eq rpp3, Cal_eq rd2, c1, Cal_eq rom, Cal_eq r6])
          exact fin
        · rw [bI_f c2] at rom
          have c5' := fun K => c5 K ⟨c1, c2⟩
          (refine wp_go 600 ks_18_0.2.2.2.2.2.2.2.1 ?_; simp (disch := first | assumption | (simp only [ob_si, ar_si, ob_sl, ar_sl]; assumption) | omega) only [ci_0, ci_1, ci_30, inc_i, ldA_a, ldI_i, oc_19, oc_21, oc_22, oc_41, oc_43, oc_50, r_0, r_2, r_3, r_30, r_32, r_41, r_44, r_6, r_62, r_80_1, r_80_2, r_80_3, r_9, r_94, wpn_S, wpn_zero, stp_h, lk_0, lk_s, st1_0, st1_1, st1_2, st2_0, st2_1, st2_2, kj_i, kj_a, kj_l, kj_n, cat_n, cat_i, cat_a, cat_u, cat_l, vc_i, vc_a, rv_s, tl_n, tl_s, Cal'_s, List.length_cons, List.length_nil, i0, i1, iNd, iN_lt, iN_le, iN_eq, iN_add, iN_mul, iN_mod, iN_sub, iN_div, iN_clamp, iN_inb, zle_N, zlt_N, zN_le, zN_lt, zN_eq, Nz_eq, mI_t, mI_f, bI_0, bI_1, bI_t, bI_f, dltT, dltF, dleT, dleF, deqT, deqF, Nat.not_lt_zero, not_true_eq_false, not_false_eq_true, true_and, and_true, false_and, and_false, or_true, true_or, false_or, or_false, and_self, if_true, if_false, Classical.not_not, Nat.add_assoc, Nat.zero_add, Nat.add_zero, bI_or, bI_True, bI_False, Bool.false_eq_true, reduceCtorEq, eq_self, gi_si, gl_si, gr_si, hn_si, hL_si, hX_si, gi_sl, gl_sl, gr_sl, hn_sl, ob_si, ar_si, ob_sl, ar_sl, ks_18_0, ks_18_1, oL2, q1, q2, o72, Cal_eq rpp, Cal_eq rd1, Cal_eq rpp3, Cal_eq rd2, c1, Cal_eq rom, c5', oL5, q15, q25, o75, Cal_eq r6])
          exact fin
    · rintro L h2 ⟨A2, z2, k2, f2, w1, w2, rfl⟩
      (refine wp_go 600 ks_18_0.2.2.2.2.2.2.2.1 ?_; simp (disch := first | assumption | (simp only [ob_si, ar_si, ob_sl, ar_sl]; assumption) | omega) only [ci_0, ci_1, ci_30, inc_i, ldA_a, ldI_i, oc_19, oc_21, oc_22, oc_41, oc_43, oc_50, r_0, r_2, r_3, r_30, r_32, r_41, r_44, r_6, r_62, r_80_1, r_80_2, r_80_3, r_9, r_94, wpn_S, wpn_zero, stp_h, lk_0, lk_s, st1_0, st1_1, st1_2, st2_0, st2_1, st2_2, kj_i, kj_a, kj_l, kj_n, cat_n, cat_i, cat_a, cat_u, cat_l, vc_i, vc_a, rv_s, tl_n, tl_s, Cal'_s, List.length_cons, List.length_nil, i0, i1, iNd, iN_lt, iN_le, iN_eq, iN_add, iN_mul, iN_mod, iN_sub, iN_div, iN_clamp, iN_inb, zle_N, zlt_N, zN_le, zN_lt, zN_eq, Nz_eq, mI_t, mI_f, bI_0, bI_1, bI_t, bI_f, dltT, dltF, dleT, dleF, deqT, deqF, Nat.not_lt_zero, not_true_eq_false, not_false_eq_true, true_and, and_true, false_and, and_false, or_true, true_or, false_or, or_false, and_self, if_true, if_false, Classical.not_not, Nat.add_assoc, Nat.zero_add, Nat.add_zero, bI_or, bI_True, bI_False, Bool.false_eq_true, reduceCtorEq, eq_self, gi_si, gl_si, gr_si, hn_si, hL_si, hX_si, gi_sl, gl_sl, gr_sl, hn_sl, ob_si, ar_si, ob_sl, ar_sl, ks_18_0, ks_18_1])
      exact hQ _ A2 z2 k2 f2
  obtain ⟨v, h', r, rfl, a, b, c, f⟩ := Ret_ex (d := 5) (y := 18) (as := [.ref 28]) [some (.ref 28), none, none, none] rfl rfl (key (fun v h' => v = none ∧ At h' 7 (rp (lyS (xN x)) 30 (z, x)).2 ∧ gi h' 28 3 = (rp (lyS (xN x)) 30 (z, x)).1 ∧ (∀ k, ¬ k = 3 → gi h' 28 k = gi h 28 k) ∧ Fr Sl h h') fun h' a b c d => ⟨rfl, a, b, c, d⟩)
  exact ⟨h', r, a, b, c, f⟩
/-- years: seed, QUARRELS of all together, twos without -/
noncomputable def yrS (x : Mt) (s : Int32 × Nat × Nat) : Int32 × Nat × Nat := ((rp (lyS (xN x)) 30 (s.1, x)).1, s.2.1 + allQ (rp (lyS (xN x)) 30 (s.1, x)).2, s.2.2 + zerQ (rp (lyS (xN x)) 30 (s.1, x)).2)
noncomputable def yrN (x : Mt) (n : Nat) (z : Int32) : Int32 × Nat × Nat := if xN x = 0 then (z, 0, 0) else rp (yrS x) n (z, 0, 0)
theorem l_run {h : Hp} {n : Nat} {z : Int32} {x : Mt} (hB : Bs h) (hA : At h 1 x) (hW : Wf x) (hn : n ≤ 20) : ∃ h', Ret 6 15 [.ref 28, .int (iN n), .int z] h none h' ∧ gi h' 28 4 = iN (yrN x n z).2.1 ∧ gi h' 28 5 = iN (yrN x n z).2.2 ∧ Fr Sl h h' := by
  have wN := hW.1
  have key : ∀ Q : Option Value → Hp → Prop, (∀ h', gi h' 28 4 = iN (yrN x n z).2.1 → gi h' 28 5 = iN (yrN x n z).2.2 → Fr Sl h h' → Q none h') → wp 6 15 0 [some (.ref 28), some (.int (iN n)), some (.int z), none] [] h Q := by
    intro Q hQ
    have oL : ob h 28 2 := hB.ob (by decide) (by decide)
    have rL0 : gr h 28 0 = some 1 := hB.r (by decide)
    have o1 : ob h 1 3 := hB.ob (by decide) (by decide)
    have f1 : Fr Sl h (si (si (si h 28 3 z) 28 4 (iN 0)) 28 5 (iN 0)) := (((Fr.rf Sl h).si (by unfold Sl; omega) _ _).si (by unfold Sl; omega) _ _).si (by unfold Sl; omega) _ _
    have B1 := f1.bs hB
    have A1 := At1_l hA f1
    have rpp := c_people (Or.inl rfl) B1 A1 hW
    by_cases h0 : xN x = 0
    · rw [yrN, if_pos h0] at hQ
      rw [h0] at rpp
      (refine wp_go 600 ks_15_0.1 ?_; simp (disch := first | assumption | (simp only [ob_si, ar_si, ob_sl, ar_sl]; assumption) | omega) only [ci_0, ci_1, inc_i, ldA_a, ldI_i, oc_18, oc_22, oc_47, oc_48, r_0, r_10, r_2, r_3, r_30, r_32, r_44, r_50, r_6, r_60, r_62, r_63, r_80_1, r_9, r_94, wpn_S, wpn_zero, stp_h, lk_0, lk_s, st1_0, st1_1, st1_2, st2_0, st2_1, st2_2, kj_i, kj_a, kj_l, kj_n, cat_n, cat_i, cat_a, cat_u, cat_l, vc_i, vc_a, rv_s, tl_n, tl_s, Cal'_s, List.length_cons, List.length_nil, i0, i1, iNd, iN_lt, iN_le, iN_eq, iN_add, iN_mul, iN_mod, iN_sub, iN_div, iN_clamp, iN_inb, zle_N, zlt_N, zN_le, zN_lt, zN_eq, Nz_eq, mI_t, mI_f, bI_0, bI_1, bI_t, bI_f, dltT, dltF, dleT, dleF, deqT, deqF, Nat.not_lt_zero, not_true_eq_false, not_false_eq_true, true_and, and_true, false_and, and_false, or_true, true_or, false_or, or_false, and_self, if_true, if_false, Classical.not_not, Nat.add_assoc, Nat.zero_add, Nat.add_zero, bI_or, bI_True, bI_False, Bool.false_eq_true, reduceCtorEq, eq_self, gi_si, gl_si, gr_si, hn_si, hL_si, hX_si, gi_sl, gl_sl, gr_sl, hn_sl, ob_si, ar_si, ob_sl, ar_sl, ks_15_0, ks_15_1, oL, rL0, o1, Cal_eq rpp])
      refine hQ _ ?_ ?_ f1
      · simp (disch := omega) only [gi_si, up_f, up_s]
      · simp (disch := omega) only [gi_si, up_s]
    · rw [yrN, if_neg h0] at hQ
      (refine wp_go 600 ks_15_0.1 ?_; simp (disch := first | assumption | (simp only [ob_si, ar_si, ob_sl, ar_sl]; assumption) | omega) only [ci_0, ci_1, inc_i, ldA_a, ldI_i, oc_18, oc_22, oc_47, oc_48, r_0, r_10, r_2, r_3, r_30, r_32, r_44, r_50, r_6, r_60, r_62, r_63, r_80_1, r_9, r_94, wpn_S, wpn_zero, stp_h, lk_0, lk_s, st1_0, st1_1, st1_2, st2_0, st2_1, st2_2, kj_i, kj_a, kj_l, kj_n, cat_n, cat_i, cat_a, cat_u, cat_l, vc_i, vc_a, rv_s, tl_n, tl_s, Cal'_s, List.length_cons, List.length_nil, i0, i1, iNd, iN_lt, iN_le, iN_eq, iN_add, iN_mul, iN_mod, iN_sub, iN_div, iN_clamp, iN_inb, zle_N, zlt_N, zN_le, zN_lt, zN_eq, Nz_eq, mI_t, mI_f, bI_0, bI_1, bI_t, bI_f, dltT, dltF, dleT, dleF, deqT, deqF, Nat.not_lt_zero, not_true_eq_false, not_false_eq_true, true_and, and_true, false_and, and_false, or_true, true_or, false_or, or_false, and_self, if_true, if_false, Classical.not_not, Nat.add_assoc, Nat.zero_add, Nat.add_zero, bI_or, bI_True, bI_False, Bool.false_eq_true, reduceCtorEq, eq_self, gi_si, gl_si, gr_si, hn_si, hL_si, hX_si, gi_sl, gl_sl, gr_sl, hn_sl, ob_si, ar_si, ob_sl, ar_sl, ks_15_0, ks_15_1, oL, rL0, o1, Cal_eq rpp])
      refine wp_loop (fun k L h' => gi h' 28 3 = (rp (yrS x) k (z, 0, 0)).1 ∧ gi h' 28 4 = iN (rp (yrS x) k (z, 0, 0)).2.1 ∧ gi h' 28 5 = iN (rp (yrS x) k (z, 0, 0)).2.2 ∧ Fr Sl h h' ∧ L = [some (.ref 28), some (.int (iN n)), some (.int z), some (.int (iN k))]) n ?_ ?_ n 0 _ _ (by omega) ⟨?_, ?_, ?_, f1, rfl⟩
      · rintro k L h2 hk ⟨g3, g4, g5, f2, rfl⟩ hnx
        have B2 := f2.bs hB
        have A2 := At1_l hA f2
        have rps : rp (yrS x) (k + 1) (z, 0, 0) = yrS x (rp (yrS x) k (z, 0, 0)) := rfl
        generalize rp (yrS x) k (z, 0, 0) = s at *
        obtain ⟨s1, s2, s3⟩ := s
        change gi h2 28 3 = s1 at g3
        change gi h2 28 4 = iN s2 at g4
        change gi h2 28 5 = iN s3 at g5
        obtain ⟨h3, r3, A3, z3, k3, f3⟩ := l_year B2 A2 hW g3 (by omega)
        have B3 := f3.bs B2
        obtain ⟨W3, N3⟩ := lyS_Pk (n := xN x) (by omega) (show lyP (xN x) (s1, x) from ⟨hW, rfl⟩) 30
        have i7 : isM 7 := Or.inr (Or.inl rfl)
        have ra := c_allQ i7 B3 A3 W3
        have B4 := B3.si 28 4 (iN (s2 + allQ (rp (lyS (xN x)) 30 (s1, x)).2))
        have A4 : At (si h3 28 4 (iN (s2 + allQ (rp (lyS (xN x)) 30 (s1, x)).2))) 7 (rp (lyS (xN x)) 30 (s1, x)).2 := A3.fr ((Fr.rf (fun o => o = 28) h3).si rfl _ _) (by intro o _ _; omega)
        have rz := c_zerQ i7 B4 A4 W3
        have oL2 : ob h2 28 2 := B2.ob (by decide) (by decide)
        have oL3 : ob h3 28 2 := B3.ob (by decide) (by decide)
        have q1 : gr h3 28 1 = some 7 := B3.r (by decide)
        have o73 : ob h3 7 3 := B3.ob (by decide) (by decide)
        have g4' : gi h3 28 4 = iN s2 := by rw [k3 4 (by omega)]; exact g4
        have g5' : gi h3 28 5 = iN s3 := by rw [k3 5 (by omega)]; exact g5
        (refine wp_go 600 ks_15_0.2.2.2.2.2.2.2.2.2.2.2.2.2.2.2.2.1 ?_; simp (disch := first | assumption | (simp only [ob_si, ar_si, ob_sl, ar_sl]; assumption) | omega) only [ci_0, ci_1, inc_i, ldA_a, ldI_i, oc_18, oc_22, oc_47, oc_48, r_0, r_10, r_2, r_3, r_30, r_32, r_44, r_50, r_6, r_60, r_62, r_63, r_80_1, r_9, r_94, wpn_S, wpn_zero, stp_h, lk_0, lk_s, st1_0, st1_1, st1_2, st2_0, st2_1, st2_2, kj_i, kj_a, kj_l, kj_n, cat_n, cat_i, cat_a, cat_u, cat_l, vc_i, vc_a, rv_s, tl_n, tl_s, Cal'_s, List.length_cons, List.length_nil, i0, i1, iNd, iN_lt, iN_le, iN_eq, iN_add, iN_mul, iN_mod, iN_sub, iN_div, iN_clamp, iN_inb, zle_N, zlt_N, zN_le, zN_lt, zN_eq, Nz_eq, mI_t, mI_f, bI_0, bI_1, bI_t, bI_f, dltT, dltF, dleT, dleF, deqT, deqF, Nat.not_lt_zero, not_true_eq_false, not_false_eq_true, true_and, and_true, false_and, and_false, or_true, true_or, false_or, or_false, and_self, if_true, if_false, Classical.not_not, Nat.add_assoc, Nat.zero_add, Nat.add_zero, bI_or, bI_True, bI_False, Bool.false_eq_true, reduceCtorEq, eq_self, gi_si, gl_si, gr_si, hn_si, hL_si, hX_si, gi_sl, gl_sl, gr_sl, hn_sl, ob_si, ar_si, ob_sl, ar_sl, ks_15_0, ks_15_1, oL2, Cal_eq r3, oL3, q1, o73, Cal_eq ra, g4', g5', Cal_eq rz, up_f, up_t])
        refine hnx _ _ ⟨?_, ?_, ?_, ((f2.tr f3).si (by unfold Sl; omega) _ _).si (by unfold Sl; omega) _ _, rfl⟩
        · simp (disch := omega) only [gi_si, up_f, up_s, rps]; exact z3
        · simp (disch := omega) only [gi_si, up_f, up_s, rps]; rfl
        · simp (disch := omega) only [gi_si, up_f, up_s, rps]; rfl
      · rintro L h2 ⟨g3, g4, g5, f2, rfl⟩
        (refine wp_go 600 ks_15_0.2.2.2.2.2.2.2.2.2.2.2.2.2.2.2.2.1 ?_; simp (disch := first | assumption | (simp only [ob_si, ar_si, ob_sl, ar_sl]; assumption) | omega) only [ci_0, ci_1, inc_i, ldA_a, ldI_i, oc_18, oc_22, oc_47, oc_48, r_0, r_10, r_2, r_3, r_30, r_32, r_44, r_50, r_6, r_60, r_62, r_63, r_80_1, r_9, r_94, wpn_S, wpn_zero, stp_h, lk_0, lk_s, st1_0, st1_1, st1_2, st2_0, st2_1, st2_2, kj_i, kj_a, kj_l, kj_n, cat_n, cat_i, cat_a, cat_u, cat_l, vc_i, vc_a, rv_s, tl_n, tl_s, Cal'_s, List.length_cons, List.length_nil, i0, i1, iNd, iN_lt, iN_le, iN_eq, iN_add, iN_mul, iN_mod, iN_sub, iN_div, iN_clamp, iN_inb, zle_N, zlt_N, zN_le, zN_lt, zN_eq, Nz_eq, mI_t, mI_f, bI_0, bI_1, bI_t, bI_f, dltT, dltF, dleT, dleF, deqT, deqF, Nat.not_lt_zero, not_true_eq_false, not_false_eq_true, true_and, and_true, false_and, and_false, or_true, true_or, false_or, or_false, and_self, if_true, if_false, Classical.not_not, Nat.add_assoc, Nat.zero_add, Nat.add_zero, bI_or, bI_True, bI_False, Bool.false_eq_true, reduceCtorEq, eq_self, gi_si, gl_si, gr_si, hn_si, hL_si, hX_si, gi_sl, gl_sl, gr_sl, hn_sl, ob_si, ar_si, ob_sl, ar_sl, ks_15_0, ks_15_1])
        exact hQ _ g4 g5 f2
      · simp (disch := omega) only [gi_si, up_f, up_s]; rfl
      · simp (disch := omega) only [gi_si, up_f, up_s]; rfl
      · simp (disch := omega) only [gi_si, up_s]; rfl
  obtain ⟨v, h', r, rfl, a, b, f⟩ := Ret_ex (d := 6) (y := 15) (as := [.ref 28, .int (iN n), .int z]) [some (.ref 28), some (.int (iN n)), some (.int z), none] rfl rfl (key (fun v h' => v = none ∧ gi h' 28 4 = iN (yrN x n z).2.1 ∧ gi h' 28 5 = iN (yrN x n z).2.2 ∧ Fr Sl h h') fun h' a b c => ⟨rfl, a, b, c⟩)
  exact ⟨h', r, a, b, f⟩
