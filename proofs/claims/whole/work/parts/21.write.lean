/-! writing a meeting -/
noncomputable def Sm (m : Nat) : Nat → Prop := fun o => m ≤ o ∧ o ≤ m + 5
theorem At.fr {h h' : Hp} {m : Nat} {x : Mt} {S : Nat → Prop} (hA : At h m x) (f : Fr S h h') (hs : ∀ o, m ≤ o → o ≤ m + 5 → ¬ S o) : At h' m x := by
  obtain ⟨a1, a2, a3, a4, a5, a6, a7⟩ := hA
  have e0 := f.i (hs m (by omega) (by omega))
  have e1 := f.i (hs (m + 1) (by omega) (by omega))
  have e2 := f.i (hs (m + 2) (by omega) (by omega))
  have e3 := f.i (hs (m + 3) (by omega) (by omega))
  have e4 := f.i (hs (m + 4) (by omega) (by omega))
  have e5 := f.i (hs (m + 5) (by omega) (by omega))
  exact ⟨by rw [e0]; exact a1, by rw [e0]; exact a2, by rw [e1]; exact a3, by rw [e2]; exact a4, by rw [e3]; exact a5, by rw [e4]; exact a6, by rw [e5]; exact a7⟩
noncomputable def uN (x : Mt) (v : Nat) : Mt := (v, xD x, xK x, xF x, xH x, xM x, xQ x)
noncomputable def uD (x : Mt) (v : Int32) : Mt := (xN x, v, xK x, xF x, xH x, xM x, xQ x)
noncomputable def uK (x : Mt) (i v : Nat) : Mt := (xN x, xD x, up (xK x) i v, xF x, xH x, xM x, xQ x)
noncomputable def uF (x : Mt) (i v : Nat) : Mt := (xN x, xD x, xK x, up (xF x) i v, xH x, xM x, xQ x)
noncomputable def uH (x : Mt) (i v : Nat) : Mt := (xN x, xD x, xK x, xF x, up (xH x) i v, xM x, xQ x)
noncomputable def uM (x : Mt) (i v : Nat) : Mt := (xN x, xD x, xK x, xF x, xH x, up (xM x) i v, xQ x)
noncomputable def up2 (q : Nat → Nat → Nat) (i j v : Nat) : Nat → Nat → Nat := fun a b => if (a = i ∧ b = j) ∨ (a = j ∧ b = i) then v else q a b
noncomputable def uQ (x : Mt) (i j v : Nat) : Mt := (xN x, xD x, xK x, xF x, xH x, xM x, up2 (xQ x) i j v)
theorem At_N {h : Hp} {m : Nat} {x : Mt} (hA : At h m x) (v : Nat) : At (si h m 5 (iN v)) m (uN x v) := by
  obtain ⟨a1, a2, a3, a4, a5, a6, a7⟩ := hA
  refine ⟨by rw [gi_si, up_s, up_s]; rfl, ?_, ?_, ?_, ?_, ?_, ?_⟩ <;> simp (disch := omega) only [gi_si, up_f, up_s] <;> assumption
theorem At_D {h : Hp} {m : Nat} {x : Mt} (hA : At h m x) (v : Int32) : At (si h m 6 v) m (uD x v) := by
  obtain ⟨a1, a2, a3, a4, a5, a6, a7⟩ := hA
  refine ⟨?_, by rw [gi_si, up_s, up_s]; rfl, ?_, ?_, ?_, ?_, ?_⟩ <;> simp (disch := omega) only [gi_si, up_f, up_s] <;> assumption
theorem At_K {h : Hp} {m i v : Nat} {x : Mt} (hA : At h m x) : At (si h (m + 1) i (iN v)) m (uK x i v) := by
  obtain ⟨a1, a2, a3, a4, a5, a6, a7⟩ := hA
  refine ⟨?_, ?_, ?_, ?_, ?_, ?_, ?_⟩ <;> simp (disch := omega) only [gi_si, up_f, up_s] <;> (try assumption)
  intro k hk
  by_cases e : k = i
  · rw [up_t e]; show _ = iN (up (xK x) i v k); rw [up_t e]
  · rw [up_f e]; show _ = iN (up (xK x) i v k); rw [up_f e]; exact a3 k hk
theorem At_F {h : Hp} {m i v : Nat} {x : Mt} (hA : At h m x) : At (si h (m + 2) i (iN v)) m (uF x i v) := by
  obtain ⟨a1, a2, a3, a4, a5, a6, a7⟩ := hA
  refine ⟨?_, ?_, ?_, ?_, ?_, ?_, ?_⟩ <;> simp (disch := omega) only [gi_si, up_f, up_s] <;> (try assumption)
  intro k hk
  by_cases e : k = i
  · rw [up_t e]; show _ = iN (up (xF x) i v k); rw [up_t e]
  · rw [up_f e]; show _ = iN (up (xF x) i v k); rw [up_f e]; exact a4 k hk
theorem At_H {h : Hp} {m i v : Nat} {x : Mt} (hA : At h m x) : At (si h (m + 3) i (iN v)) m (uH x i v) := by
  obtain ⟨a1, a2, a3, a4, a5, a6, a7⟩ := hA
  refine ⟨?_, ?_, ?_, ?_, ?_, ?_, ?_⟩ <;> simp (disch := omega) only [gi_si, up_f, up_s] <;> (try assumption)
  intro k hk
  by_cases e : k = i
  · rw [up_t e]; show _ = iN (up (xH x) i v k); rw [up_t e]
  · rw [up_f e]; show _ = iN (up (xH x) i v k); rw [up_f e]; exact a5 k hk
theorem At_M {h : Hp} {m i v : Nat} {x : Mt} (hA : At h m x) : At (si h (m + 4) i (mI v)) m (uM x i v) := by
  obtain ⟨a1, a2, a3, a4, a5, a6, a7⟩ := hA
  refine ⟨?_, ?_, ?_, ?_, ?_, ?_, ?_⟩ <;> simp (disch := omega) only [gi_si, up_f, up_s] <;> (try assumption)
  intro k hk
  by_cases e : k = i
  · rw [up_t e]; show _ = mI (up (xM x) i v k); rw [up_t e]
  · rw [up_f e]; show _ = mI (up (xM x) i v k); rw [up_f e]; exact a6 k hk
theorem At_Q {h : Hp} {m i j v : Nat} {x : Mt} (hi : i < 6) (hj : j < 6) (hA : At h m x) : At (si (si h (m + 5) (i * 6 + j) (iN v)) (m + 5) (j * 6 + i) (iN v)) m (uQ x i j v) := by
  obtain ⟨a1, a2, a3, a4, a5, a6, a7⟩ := hA
  refine ⟨?_, ?_, ?_, ?_, ?_, ?_, ?_⟩ <;> simp (disch := omega) only [gi_si, up_f, up_s] <;> (try assumption)
  intro a b ha hb
  show _ = iN (up2 (xQ x) i j v a b)
  unfold up2
  by_cases e1 : a = j ∧ b = i
  · rw [up_t (by obtain ⟨rfl, rfl⟩ := e1; rfl), if_pos (Or.inr e1)]
  · rw [up_f (by omega)]
    by_cases e2 : a = i ∧ b = j
    · rw [up_t (by obtain ⟨rfl, rfl⟩ := e2; rfl), if_pos (Or.inl e2)]
    · rw [up_f (by omega), if_neg (by omega)]
      exact a7 a b ha hb
theorem c_setK {h : Hp} {m i : Nat} {v : Int32} (hm : isM m) (hB : Bs h) (hi : i < 6) : Ret 1 29 [.ref m, .int (iN i), .int v] h none (si h (m + 1) i v) := by
  refine Ret_L [some (.ref m), some (.int (iN i)), some (.int v)] rfl rfl fun Q hQ => ?_
  obtain ⟨oM, rM0, rM1, rM2, rM3, rM4, aM1, aM2, aM3, aM4, aM5, sM1, sM2, sM3, sM4, sM5⟩ := M_facts hm hB
  (refine wp_go 600 ks_29_0.1 ?_; simp (disch := first | assumption | (simp only [ob_si, ar_si, ob_sl, ar_sl]; assumption) | omega) only [ldA_a, ldI_i, p_0, p_2, p_62, p_81_3, p_94, wpn_succ, wpn_zero, stp_h, lk_0, lk_s, st1_0, st1_1, st1_2, st2_0, st2_1, st2_2, kj_i, kj_a, kj_l, kj_n, cat_n, cat_i, cat_a, cat_u, cat_l, vc_i, vc_a, rv_s, tl_n, tl_s, Cal'_s, List.length_cons, List.length_nil, i0, i1, iNd, iN_lt, iN_le, iN_eq, iN_add, iN_mul, iN_mod, iN_sub, iN_div, iN_clamp, iN_inb, zle_N, zlt_N, zN_le, zN_lt, zN_eq, Nz_eq, mI_t, mI_f, bI_0, bI_1, bI_t, bI_f, dltT, dltF, dleT, dleF, deqT, deqF, Nat.not_lt_zero, not_true_eq_false, not_false_eq_true, true_and, and_true, false_and, and_false, or_true, true_or, false_or, or_false, and_self, if_true, if_false, Classical.not_not, Nat.add_assoc, Nat.zero_add, Nat.add_zero, bI_or, bI_True, bI_False, Bool.false_eq_true, reduceCtorEq, eq_self, gi_si, gl_si, gr_si, hn_si, hL_si, hX_si, gi_sl, gl_sl, gr_sl, hn_sl, ob_si, ar_si, ob_sl, ar_sl, ks_29_0, oM, rM0, rM1, rM2, rM3, rM4, aM1, aM2, aM3, aM4, aM5, c_set_q])
  exact hQ
theorem c_setK_q {h : Hp} {m i : Nat} {v : Int32} (hm : isM m) (hB : Bs h) (hi : i < 6) {e : Nat} (hd : 1 ≤ e) (K : Option Value → Hp → Prop) : Cal e 29 [.ref m, .int (iN i), .int v] h K = K none (si h (m + 1) i v) := Cal_eq (c_setK (hm := hm) (hB := hB) (hi := hi)) hd K
theorem c_setF {h : Hp} {m i : Nat} {v : Int32} (hm : isM m) (hB : Bs h) (hi : i < 6) : Ret 1 31 [.ref m, .int (iN i), .int v] h none (si h (m + 2) i v) := by
  refine Ret_L [some (.ref m), some (.int (iN i)), some (.int v)] rfl rfl fun Q hQ => ?_
  obtain ⟨oM, rM0, rM1, rM2, rM3, rM4, aM1, aM2, aM3, aM4, aM5, sM1, sM2, sM3, sM4, sM5⟩ := M_facts hm hB
  (refine wp_go 600 ks_31_0.1 ?_; simp (disch := first | assumption | (simp only [ob_si, ar_si, ob_sl, ar_sl]; assumption) | omega) only [ldA_a, ldI_i, p_0, p_2, p_62, p_81_3, p_94, wpn_succ, wpn_zero, stp_h, lk_0, lk_s, st1_0, st1_1, st1_2, st2_0, st2_1, st2_2, kj_i, kj_a, kj_l, kj_n, cat_n, cat_i, cat_a, cat_u, cat_l, vc_i, vc_a, rv_s, tl_n, tl_s, Cal'_s, List.length_cons, List.length_nil, i0, i1, iNd, iN_lt, iN_le, iN_eq, iN_add, iN_mul, iN_mod, iN_sub, iN_div, iN_clamp, iN_inb, zle_N, zlt_N, zN_le, zN_lt, zN_eq, Nz_eq, mI_t, mI_f, bI_0, bI_1, bI_t, bI_f, dltT, dltF, dleT, dleF, deqT, deqF, Nat.not_lt_zero, not_true_eq_false, not_false_eq_true, true_and, and_true, false_and, and_false, or_true, true_or, false_or, or_false, and_self, if_true, if_false, Classical.not_not, Nat.add_assoc, Nat.zero_add, Nat.add_zero, bI_or, bI_True, bI_False, Bool.false_eq_true, reduceCtorEq, eq_self, gi_si, gl_si, gr_si, hn_si, hL_si, hX_si, gi_sl, gl_sl, gr_sl, hn_sl, ob_si, ar_si, ob_sl, ar_sl, ks_31_0, oM, rM0, rM1, rM2, rM3, rM4, aM1, aM2, aM3, aM4, aM5, c_set_q])
  exact hQ
theorem c_setF_q {h : Hp} {m i : Nat} {v : Int32} (hm : isM m) (hB : Bs h) (hi : i < 6) {e : Nat} (hd : 1 ≤ e) (K : Option Value → Hp → Prop) : Cal e 31 [.ref m, .int (iN i), .int v] h K = K none (si h (m + 2) i v) := Cal_eq (c_setF (hm := hm) (hB := hB) (hi := hi)) hd K
theorem c_setH {h : Hp} {m i : Nat} {v : Int32} (hm : isM m) (hB : Bs h) (hi : i < 6) : Ret 1 33 [.ref m, .int (iN i), .int v] h none (si h (m + 3) i v) := by
  refine Ret_L [some (.ref m), some (.int (iN i)), some (.int v)] rfl rfl fun Q hQ => ?_
  obtain ⟨oM, rM0, rM1, rM2, rM3, rM4, aM1, aM2, aM3, aM4, aM5, sM1, sM2, sM3, sM4, sM5⟩ := M_facts hm hB
  (refine wp_go 600 ks_33_0.1 ?_; simp (disch := first | assumption | (simp only [ob_si, ar_si, ob_sl, ar_sl]; assumption) | omega) only [ldA_a, ldI_i, p_0, p_2, p_62, p_81_3, p_94, wpn_succ, wpn_zero, stp_h, lk_0, lk_s, st1_0, st1_1, st1_2, st2_0, st2_1, st2_2, kj_i, kj_a, kj_l, kj_n, cat_n, cat_i, cat_a, cat_u, cat_l, vc_i, vc_a, rv_s, tl_n, tl_s, Cal'_s, List.length_cons, List.length_nil, i0, i1, iNd, iN_lt, iN_le, iN_eq, iN_add, iN_mul, iN_mod, iN_sub, iN_div, iN_clamp, iN_inb, zle_N, zlt_N, zN_le, zN_lt, zN_eq, Nz_eq, mI_t, mI_f, bI_0, bI_1, bI_t, bI_f, dltT, dltF, dleT, dleF, deqT, deqF, Nat.not_lt_zero, not_true_eq_false, not_false_eq_true, true_and, and_true, false_and, and_false, or_true, true_or, false_or, or_false, and_self, if_true, if_false, Classical.not_not, Nat.add_assoc, Nat.zero_add, Nat.add_zero, bI_or, bI_True, bI_False, Bool.false_eq_true, reduceCtorEq, eq_self, gi_si, gl_si, gr_si, hn_si, hL_si, hX_si, gi_sl, gl_sl, gr_sl, hn_sl, ob_si, ar_si, ob_sl, ar_sl, ks_33_0, oM, rM0, rM1, rM2, rM3, rM4, aM1, aM2, aM3, aM4, aM5, c_set_q])
  exact hQ
theorem c_setH_q {h : Hp} {m i : Nat} {v : Int32} (hm : isM m) (hB : Bs h) (hi : i < 6) {e : Nat} (hd : 1 ≤ e) (K : Option Value → Hp → Prop) : Cal e 33 [.ref m, .int (iN i), .int v] h K = K none (si h (m + 3) i v) := Cal_eq (c_setH (hm := hm) (hB := hB) (hi := hi)) hd K
theorem c_setM {h : Hp} {m i : Nat} {v : Int32} (hm : isM m) (hB : Bs h) (hi : i < 6) : Ret 1 35 [.ref m, .int (iN i), .int v] h none (si h (m + 4) i v) := by
  refine Ret_L [some (.ref m), some (.int (iN i)), some (.int v)] rfl rfl fun Q hQ => ?_
  obtain ⟨oM, rM0, rM1, rM2, rM3, rM4, aM1, aM2, aM3, aM4, aM5, sM1, sM2, sM3, sM4, sM5⟩ := M_facts hm hB
  (refine wp_go 600 ks_35_0.1 ?_; simp (disch := first | assumption | (simp only [ob_si, ar_si, ob_sl, ar_sl]; assumption) | omega) only [ldA_a, ldI_i, p_0, p_2, p_62, p_81_3, p_94, wpn_succ, wpn_zero, stp_h, lk_0, lk_s, st1_0, st1_1, st1_2, st2_0, st2_1, st2_2, kj_i, kj_a, kj_l, kj_n, cat_n, cat_i, cat_a, cat_u, cat_l, vc_i, vc_a, rv_s, tl_n, tl_s, Cal'_s, List.length_cons, List.length_nil, i0, i1, iNd, iN_lt, iN_le, iN_eq, iN_add, iN_mul, iN_mod, iN_sub, iN_div, iN_clamp, iN_inb, zle_N, zlt_N, zN_le, zN_lt, zN_eq, Nz_eq, mI_t, mI_f, bI_0, bI_1, bI_t, bI_f, dltT, dltF, dleT, dleF, deqT, deqF, Nat.not_lt_zero, not_true_eq_false, not_false_eq_true, true_and, and_true, false_and, and_false, or_true, true_or, false_or, or_false, and_self, if_true, if_false, Classical.not_not, Nat.add_assoc, Nat.zero_add, Nat.add_zero, bI_or, bI_True, bI_False, Bool.false_eq_true, reduceCtorEq, eq_self, gi_si, gl_si, gr_si, hn_si, hL_si, hX_si, gi_sl, gl_sl, gr_sl, hn_sl, ob_si, ar_si, ob_sl, ar_sl, ks_35_0, oM, rM0, rM1, rM2, rM3, rM4, aM1, aM2, aM3, aM4, aM5, c_set_q])
  exact hQ
theorem c_setM_q {h : Hp} {m i : Nat} {v : Int32} (hm : isM m) (hB : Bs h) (hi : i < 6) {e : Nat} (hd : 1 ≤ e) (K : Option Value → Hp → Prop) : Cal e 35 [.ref m, .int (iN i), .int v] h K = K none (si h (m + 4) i v) := Cal_eq (c_setM (hm := hm) (hB := hB) (hi := hi)) hd K
theorem c_setQ {h : Hp} {m i j : Nat} {v : Int32} (hm : isM m) (hB : Bs h) (hi : i < 6) (hj : j < 6) : Ret 1 37 [.ref m, .int (iN i), .int (iN j), .int v] h none (si (si h (m + 5) (i * 6 + j) v) (m + 5) (j * 6 + i) v) := by
  refine Ret_L [some (.ref m), some (.int (iN i)), some (.int (iN j)), some (.int v)] rfl rfl fun Q hQ => ?_
  obtain ⟨oM, rM0, rM1, rM2, rM3, rM4, aM1, aM2, aM3, aM4, aM5, sM1, sM2, sM3, sM4, sM5⟩ := M_facts hm hB
  (refine wp_go 600 ks_37_0.1 ?_; simp (disch := first | assumption | (simp only [ob_si, ar_si, ob_sl, ar_sl]; assumption) | omega) only [ci_6, ldA_a, ldI_i, p_0, p_10, p_12, p_2, p_6, p_62, p_81_3, p_94, wpn_succ, wpn_zero, stp_h, lk_0, lk_s, st1_0, st1_1, st1_2, st2_0, st2_1, st2_2, kj_i, kj_a, kj_l, kj_n, cat_n, cat_i, cat_a, cat_u, cat_l, vc_i, vc_a, rv_s, tl_n, tl_s, Cal'_s, List.length_cons, List.length_nil, i0, i1, iNd, iN_lt, iN_le, iN_eq, iN_add, iN_mul, iN_mod, iN_sub, iN_div, iN_clamp, iN_inb, zle_N, zlt_N, zN_le, zN_lt, zN_eq, Nz_eq, mI_t, mI_f, bI_0, bI_1, bI_t, bI_f, dltT, dltF, dleT, dleF, deqT, deqF, Nat.not_lt_zero, not_true_eq_false, not_false_eq_true, true_and, and_true, false_and, and_false, or_true, true_or, false_or, or_false, and_self, if_true, if_false, Classical.not_not, Nat.add_assoc, Nat.zero_add, Nat.add_zero, bI_or, bI_True, bI_False, Bool.false_eq_true, reduceCtorEq, eq_self, gi_si, gl_si, gr_si, hn_si, hL_si, hX_si, gi_sl, gl_sl, gr_sl, hn_sl, ob_si, ar_si, ob_sl, ar_sl, ks_37_0, oM, rM0, rM1, rM2, rM3, rM4, aM1, aM2, aM3, aM4, aM5, c_set_q])
  exact hQ
theorem c_setQ_q {h : Hp} {m i j : Nat} {v : Int32} (hm : isM m) (hB : Bs h) (hi : i < 6) (hj : j < 6) {e : Nat} (hd : 1 ≤ e) (K : Option Value → Hp → Prop) : Cal e 37 [.ref m, .int (iN i), .int (iN j), .int v] h K = K none (si (si h (m + 5) (i * 6 + j) v) (m + 5) (j * 6 + i) v) := Cal_eq (c_setQ (hm := hm) (hB := hB) (hi := hi) (hj := hj)) hd K
/-! mats -/
noncomputable def lvM (x : Mt) (i : Nat) : Mt := if xM x i < 6 then uM (uM x (xM x i) 6) i 6 else x
noncomputable def joM (x : Mt) (i j : Nat) : Mt := uM (uM (lvM (lvM x i) j) i j) j i
noncomputable def jpM (x : Mt) (i j : Nat) : Mt := if xM x i = j then lvM x i else joM x i j
theorem lv_t {x : Mt} {i : Nat} (h : xM x i < 6) : lvM x i = uM (uM x (xM x i) 6) i 6 := if_pos h
theorem lv_f {x : Mt} {i : Nat} (h : ¬ xM x i < 6) : lvM x i = x := if_neg h
theorem lv_N (x : Mt) (i : Nat) : xN (lvM x i) = xN x := by unfold lvM; split <;> rfl
theorem jo_N (x : Mt) (i j : Nat) : xN (joM x i j) = xN x := by show xN (lvM (lvM x i) j) = xN x; rw [lv_N, lv_N]
theorem jp_N (x : Mt) (i j : Nat) : xN (jpM x i j) = xN x := by unfold jpM; split; exact lv_N x i; exact jo_N x i j
theorem lv_i {x : Mt} {i : Nat} (hW : Wf x) : xM (lvM x i) i = 6 := by
  by_cases h : xM x i < 6
  · rw [lv_t h]; exact up_s
  · rw [lv_f h]; have := hW.2.2.2.2.1 i; omega
theorem wf_M {x y : Mt} (hW : Wf x) (h1 : xN y = xN x) (h2 : xK y = xK x) (h3 : xF y = xF x) (h4 : xH y = xH x) (h5 : xQ y = xQ x) (h6 : ∀ i, xM y i ≤ 6) (h7 : ∀ i, i < xN x → xM y i < 6 → xM y i < xN x ∧ xM y i ≠ i ∧ xM y (xM y i) = i) : Wf y := by
  obtain ⟨wN, wK, wF, wH, wM, wQ, wS, wZ, wT⟩ := hW
  unfold Wf
  rw [h1, h2, h3, h4, h5]
  exact ⟨wN, wK, wF, wH, h6, wQ, wS, wZ, h7⟩
theorem up_le {f : Nat → Nat} {i v n : Nat} (h : ∀ k, f k ≤ n) (hv : v ≤ n) : ∀ k, up f i v k ≤ n := by
  intro k; unfold up; split; exact hv; exact h k
theorem wf_lv {x : Mt} {i : Nat} (hW : Wf x) (hi : i < xN x) : Wf (lvM x i) := by
  by_cases h : xM x i < 6
  · rw [lv_t h]
    obtain ⟨wN, wK, wF, wH, wM, wQ, wS, wZ, wT⟩ := id hW
    refine wf_M hW rfl rfl rfl rfl rfl (up_le (up_le wM (by omega)) (by omega)) ?_
    intro k hk h6
    show up (up (xM x) (xM x i) 6) i 6 k < xN x ∧ up (up (xM x) (xM x i) 6) i 6 k ≠ k ∧ up (up (xM x) (xM x i) 6) i 6 (up (up (xM x) (xM x i) 6) i 6 k) = k
    change up (up (xM x) (xM x i) 6) i 6 k < 6 at h6
    obtain ⟨t1, t2, t3⟩ := wT i hi h
    by_cases e1 : k = i
    · rw [up_t e1] at h6; omega
    · rw [up_f e1] at h6 ⊢
      by_cases e2 : k = xM x i
      · rw [up_t e2] at h6; omega
      · rw [up_f e2] at h6 ⊢
        obtain ⟨s1, s2, s3⟩ := wT k hk h6
        have e3 : ¬ xM x k = i := fun e => e2 (by rw [← s3, e])
        have e4 : ¬ xM x k = xM x i := fun e => e1 (by rw [← s3, e, t3])
        rw [up_f e3, up_f e4]
        exact ⟨s1, s2, s3⟩
  · rw [lv_f h]; exact hW
theorem wf_jo {x : Mt} {i j : Nat} (hW : Wf x) (hi : i < xN x) (hj : j < xN x) (hij : ¬ i = j) : Wf (joM x i j) := by
  have w1 := wf_lv hW hi
  have w2 := wf_lv w1 (i := j) (by rw [lv_N]; exact hj)
  have n2 : xN (lvM (lvM x i) j) = xN x := by rw [lv_N, lv_N]
  have m1 : xM (lvM x i) i = 6 := lv_i hW
  have m2 : xM (lvM (lvM x i) j) j = 6 := lv_i w1
  have m3 : xM (lvM (lvM x i) j) i = 6 := by
    by_cases h : xM (lvM x i) j < 6
    · rw [lv_t h]
      show up (up (xM (lvM x i)) (xM (lvM x i) j) 6) j 6 i = 6
      rw [up_f hij]
      by_cases e : i = xM (lvM x i) j
      · exact up_t e
      · rw [up_f e]; exact m1
    · rw [lv_f h]; exact m1
  unfold joM
  generalize lvM (lvM x i) j = y at *
  obtain ⟨wN, wK, wF, wH, wM, wQ, wS, wZ, wT⟩ := id w2
  refine wf_M w2 rfl rfl rfl rfl rfl (up_le (up_le wM (by omega)) (by omega)) ?_
  intro k hk h6
  show up (up (xM y) i j) j i k < xN y ∧ up (up (xM y) i j) j i k ≠ k ∧ up (up (xM y) i j) j i (up (up (xM y) i j) j i k) = k
  change up (up (xM y) i j) j i k < 6 at h6
  by_cases e1 : k = j
  · rw [up_t e1, up_f hij, up_t rfl]
    omega
  · rw [up_f e1] at h6 ⊢
    by_cases e2 : k = i
    · rw [up_t e2] at h6 ⊢
      rw [up_t rfl]
      omega
    · rw [up_f e2] at h6 ⊢
      obtain ⟨s1, s2, s3⟩ := wT k hk h6
      have e3 : ¬ xM y k = j := fun e => by rw [e, m2] at s3; omega
      have e4 : ¬ xM y k = i := fun e => by rw [e, m3] at s3; omega
      rw [up_f e3, up_f e4]
      exact ⟨s1, s2, s3⟩
theorem wf_jp {x : Mt} {i j : Nat} (hW : Wf x) (hi : i < xN x) (hj : j < xN x) (hij : ¬ i = j) : Wf (jpM x i j) := by
  unfold jpM
  split
  · exact wf_lv hW hi
  · exact wf_jo hW hi hj hij
theorem mI_6 : mI 6 = zI (-9) := rfl
theorem w_leave {h : Hp} {m i : Nat} {x : Mt} (hm : isM m) (hB : Bs h) (hA : At h m x) (hW : Wf x) (hi : i < xN x) : ∃ h', Ret 1 44 [.ref m, .int (iN i)] h none h' ∧ At h' m (lvM x i) ∧ Fr (Sm m) h h' := by
  obtain ⟨oM, rM0, rM1, rM2, rM3, rM4, aM1, aM2, aM3, aM4, aM5, sM1, sM2, sM3, sM4, sM5⟩ := M_facts hm hB; obtain ⟨fN, fD, fK, fF, fH, fM, fQ⟩ := id hA; obtain ⟨wN, wK, wF, wH, wM, wQ, wS, wZ, wT⟩ := id hW
  by_cases h6 : xM x i < 6
  · refine ⟨si (si h (m + 4) (xM x i) (mI 6)) (m + 4) i (mI 6), ?_, ?_, ?_⟩
    · refine Ret_L [some (.ref m), some (.int (iN i)), none] rfl rfl fun Q hQ => ?_
      (refine wp_go 600 ks_44_0.1 ?_; simp (disch := first | assumption | (simp only [ob_si, ar_si, ob_sl, ar_sl]; assumption) | omega) only [cm_9, ldA_a, ldI_i, p_0, p_2, p_3, p_42, p_6, p_62, p_81_2, p_81_3, p_94, wpn_succ, wpn_zero, stp_h, lk_0, lk_s, st1_0, st1_1, st1_2, st2_0, st2_1, st2_2, kj_i, kj_a, kj_l, kj_n, cat_n, cat_i, cat_a, cat_u, cat_l, vc_i, vc_a, rv_s, tl_n, tl_s, Cal'_s, List.length_cons, List.length_nil, i0, i1, iNd, iN_lt, iN_le, iN_eq, iN_add, iN_mul, iN_mod, iN_sub, iN_div, iN_clamp, iN_inb, zle_N, zlt_N, zN_le, zN_lt, zN_eq, Nz_eq, mI_t, mI_f, bI_0, bI_1, bI_t, bI_f, dltT, dltF, dleT, dleF, deqT, deqF, Nat.not_lt_zero, not_true_eq_false, not_false_eq_true, true_and, and_true, false_and, and_false, or_true, true_or, false_or, or_false, and_self, if_true, if_false, Classical.not_not, Nat.add_assoc, Nat.zero_add, Nat.add_zero, bI_or, bI_True, bI_False, Bool.false_eq_true, reduceCtorEq, eq_self, gi_si, gl_si, gr_si, hn_si, hL_si, hX_si, gi_sl, gl_sl, gr_sl, hn_sl, ob_si, ar_si, ob_sl, ar_sl, ks_44_0, oM, rM0, rM1, rM2, rM3, rM4, aM1, aM2, aM3, aM4, aM5, fM, c_cell_q, c_set_q])
      exact hQ
    · rw [lv_t h6]; exact At_M (At_M hA)
    · exact ((Fr.rf _ h).si (by unfold Sm; omega) _ _).si (by unfold Sm; omega) _ _
  · refine ⟨h, ?_, ?_, Fr.rf _ h⟩
    · refine Ret_L [some (.ref m), some (.int (iN i)), none] rfl rfl fun Q hQ => ?_
      (refine wp_go 600 ks_44_0.1 ?_; simp (disch := first | assumption | (simp only [ob_si, ar_si, ob_sl, ar_sl]; assumption) | omega) only [cm_9, ldA_a, ldI_i, p_0, p_2, p_3, p_42, p_6, p_62, p_81_2, p_81_3, p_94, wpn_succ, wpn_zero, stp_h, lk_0, lk_s, st1_0, st1_1, st1_2, st2_0, st2_1, st2_2, kj_i, kj_a, kj_l, kj_n, cat_n, cat_i, cat_a, cat_u, cat_l, vc_i, vc_a, rv_s, tl_n, tl_s, Cal'_s, List.length_cons, List.length_nil, i0, i1, iNd, iN_lt, iN_le, iN_eq, iN_add, iN_mul, iN_mod, iN_sub, iN_div, iN_clamp, iN_inb, zle_N, zlt_N, zN_le, zN_lt, zN_eq, Nz_eq, mI_t, mI_f, bI_0, bI_1, bI_t, bI_f, dltT, dltF, dleT, dleF, deqT, deqF, Nat.not_lt_zero, not_true_eq_false, not_false_eq_true, true_and, and_true, false_and, and_false, or_true, true_or, false_or, or_false, and_self, if_true, if_false, Classical.not_not, Nat.add_assoc, Nat.zero_add, Nat.add_zero, bI_or, bI_True, bI_False, Bool.false_eq_true, reduceCtorEq, eq_self, gi_si, gl_si, gr_si, hn_si, hL_si, hX_si, gi_sl, gl_sl, gr_sl, hn_sl, ob_si, ar_si, ob_sl, ar_sl, ks_44_0, oM, rM0, rM1, rM2, rM3, rM4, aM1, aM2, aM3, aM4, aM5, fM, c_cell_q, c_set_q])
      exact hQ
    · rw [lv_f h6]; exact hA
theorem w_join {h : Hp} {m i j : Nat} {x : Mt} (hm : isM m) (hB : Bs h) (hA : At h m x) (hW : Wf x) (hi : i < xN x) (hj : j < xN x) (hij : ¬ i = j) : ∃ h', Ret 2 43 [.ref m, .int (iN i), .int (iN j)] h none h' ∧ At h' m (joM x i j) ∧ Fr (Sm m) h h' := by
  obtain ⟨oM, rM0, rM1, rM2, rM3, rM4, aM1, aM2, aM3, aM4, aM5, sM1, sM2, sM3, sM4, sM5⟩ := M_facts hm hB; obtain ⟨fN, fD, fK, fF, fH, fM, fQ⟩ := id hA; obtain ⟨wN, wK, wF, wH, wM, wQ, wS, wZ, wT⟩ := id hW
  obtain ⟨h1, r1, A1, f1⟩ := w_leave hm hB hA hW hi
  have B1 := f1.bs hB
  have W1 := wf_lv hW hi
  obtain ⟨h2, r2, A2, f2⟩ := w_leave (i := j) hm B1 A1 W1 (by rw [lv_N]; exact hj)
  have B2 := f2.bs B1
  have o1 := (M_facts hm B1).1
  have o2 := (M_facts hm B2).1
  refine ⟨si (si h2 (m + 4) i (mI j)) (m + 4) j (mI i), ?_, At_M (At_M A2), ?_⟩
  · refine Ret_L [some (.ref m), some (.int (iN i)), some (.int (iN j))] rfl rfl fun Q hQ => ?_
    have e1 : mI j = iN j := mI_t (by omega)
    have e2 : mI i = iN i := mI_t (by omega)
    rw [e1, e2] at hQ
    (refine wp_go 600 ks_43_0.1 ?_; simp (disch := first | assumption | (simp only [ob_si, ar_si, ob_sl, ar_sl]; assumption) | omega) only [ldA_a, ldI_i, oc_35, oc_44, p_0, p_2, p_80_2, p_80_3, p_94, wpn_succ, wpn_zero, stp_h, lk_0, lk_s, st1_0, st1_1, st1_2, st2_0, st2_1, st2_2, kj_i, kj_a, kj_l, kj_n, cat_n, cat_i, cat_a, cat_u, cat_l, vc_i, vc_a, rv_s, tl_n, tl_s, Cal'_s, List.length_cons, List.length_nil, i0, i1, iNd, iN_lt, iN_le, iN_eq, iN_add, iN_mul, iN_mod, iN_sub, iN_div, iN_clamp, iN_inb, zle_N, zlt_N, zN_le, zN_lt, zN_eq, Nz_eq, mI_t, mI_f, bI_0, bI_1, bI_t, bI_f, dltT, dltF, dleT, dleF, deqT, deqF, Nat.not_lt_zero, not_true_eq_false, not_false_eq_true, true_and, and_true, false_and, and_false, or_true, true_or, false_or, or_false, and_self, if_true, if_false, Classical.not_not, Nat.add_assoc, Nat.zero_add, Nat.add_zero, bI_or, bI_True, bI_False, Bool.false_eq_true, reduceCtorEq, eq_self, gi_si, gl_si, gr_si, hn_si, hL_si, hX_si, gi_sl, gl_sl, gr_sl, hn_sl, ob_si, ar_si, ob_sl, ar_sl, ks_43_0, oM, o1, o2, Cal_eq r1, Cal_eq r2, c_setM_q hm B2, c_setM_q hm (B2.si (m + 4) i (iN j))])
    exact hQ
  · exact ((f1.tr f2).si (by unfold Sm; omega) _ _).si (by unfold Sm; omega) _ _
theorem w_jp {h : Hp} {m i j : Nat} {x : Mt} (hm : isM m) (hB : Bs h) (hA : At h m x) (hW : Wf x) (hi : i < xN x) (hj : j < xN x) (hij : ¬ i = j) : ∃ h', Ret 3 42 [.ref m, .int (iN i), .int (iN j)] h none h' ∧ At h' m (jpM x i j) ∧ Fr (Sm m) h h' := by
  obtain ⟨oM, rM0, rM1, rM2, rM3, rM4, aM1, aM2, aM3, aM4, aM5, sM1, sM2, sM3, sM4, sM5⟩ := M_facts hm hB; obtain ⟨fN, fD, fK, fF, fH, fM, fQ⟩ := id hA; obtain ⟨wN, wK, wF, wH, wM, wQ, wS, wZ, wT⟩ := id hW
  by_cases hc : xM x i = j
  · obtain ⟨h1, r1, A1, f1⟩ := w_leave hm hB hA hW hi
    refine ⟨h1, ?_, by unfold jpM; rw [if_pos hc]; exact A1, f1⟩
    refine Ret_L [some (.ref m), some (.int (iN i)), some (.int (iN j))] rfl rfl fun Q hQ => ?_
    (refine wp_go 600 ks_42_0.1 ?_; simp (disch := first | assumption | (simp only [ob_si, ar_si, ob_sl, ar_sl]; assumption) | omega) only [ldA_a, ldI_i, oc_41, oc_43, oc_44, p_0, p_2, p_30, p_31, p_80_2, p_80_3, p_94, wpn_succ, wpn_zero, stp_h, lk_0, lk_s, st1_0, st1_1, st1_2, st2_0, st2_1, st2_2, kj_i, kj_a, kj_l, kj_n, cat_n, cat_i, cat_a, cat_u, cat_l, vc_i, vc_a, rv_s, tl_n, tl_s, Cal'_s, List.length_cons, List.length_nil, i0, i1, iNd, iN_lt, iN_le, iN_eq, iN_add, iN_mul, iN_mod, iN_sub, iN_div, iN_clamp, iN_inb, zle_N, zlt_N, zN_le, zN_lt, zN_eq, Nz_eq, mI_t, mI_f, bI_0, bI_1, bI_t, bI_f, dltT, dltF, dleT, dleF, deqT, deqF, Nat.not_lt_zero, not_true_eq_false, not_false_eq_true, true_and, and_true, false_and, and_false, or_true, true_or, false_or, or_false, and_self, if_true, if_false, Classical.not_not, Nat.add_assoc, Nat.zero_add, Nat.add_zero, bI_or, bI_True, bI_False, Bool.false_eq_true, reduceCtorEq, eq_self, gi_si, gl_si, gr_si, hn_si, hL_si, hX_si, gi_sl, gl_sl, gr_sl, hn_sl, ob_si, ar_si, ob_sl, ar_sl, ks_42_0, oM, c_onMat_q hm hB hA hW, hc, Cal_eq r1])
    exact hQ
  · obtain ⟨h1, r1, A1, f1⟩ := w_join hm hB hA hW hi hj hij
    refine ⟨h1, ?_, by unfold jpM; rw [if_neg hc]; exact A1, f1⟩
    refine Ret_L [some (.ref m), some (.int (iN i)), some (.int (iN j))] rfl rfl fun Q hQ => ?_
    (refine wp_go 600 ks_42_0.1 ?_; simp (disch := first | assumption | (simp only [ob_si, ar_si, ob_sl, ar_sl]; assumption) | omega) only [ldA_a, ldI_i, oc_41, oc_43, oc_44, p_0, p_2, p_30, p_31, p_80_2, p_80_3, p_94, wpn_succ, wpn_zero, stp_h, lk_0, lk_s, st1_0, st1_1, st1_2, st2_0, st2_1, st2_2, kj_i, kj_a, kj_l, kj_n, cat_n, cat_i, cat_a, cat_u, cat_l, vc_i, vc_a, rv_s, tl_n, tl_s, Cal'_s, List.length_cons, List.length_nil, i0, i1, iNd, iN_lt, iN_le, iN_eq, iN_add, iN_mul, iN_mod, iN_sub, iN_div, iN_clamp, iN_inb, zle_N, zlt_N, zN_le, zN_lt, zN_eq, Nz_eq, mI_t, mI_f, bI_0, bI_1, bI_t, bI_f, dltT, dltF, dleT, dleF, deqT, deqF, Nat.not_lt_zero, not_true_eq_false, not_false_eq_true, true_and, and_true, false_and, and_false, or_true, true_or, false_or, or_false, and_self, if_true, if_false, Classical.not_not, Nat.add_assoc, Nat.zero_add, Nat.add_zero, bI_or, bI_True, bI_False, Bool.false_eq_true, reduceCtorEq, eq_self, gi_si, gl_si, gr_si, hn_si, hL_si, hX_si, gi_sl, gl_sl, gr_sl, hn_sl, ob_si, ar_si, ob_sl, ar_sl, ks_42_0, oM, c_onMat_q hm hB hA hW, hc, Cal_eq r1])
    exact hQ
/-! one more; a copy -/
noncomputable def adM (x : Mt) (k f c : Nat) : Mt := (xN x + 1, xD x, up (xK x) (xN x) k, up (xF x) (xN x) f, up (xH x) (xN x) c, up (xM x) (xN x) 6, xQ x)
theorem up_lt {f : Nat → Nat} {i v n : Nat} (h : ∀ k, f k < n) (hv : v < n) : ∀ k, up f i v k < n := by
  intro k; unfold up; split; exact hv; exact h k
theorem wf_ad {x : Mt} {k f c : Nat} (hW : Wf x) (hn : xN x < 6) (hk : k < 6) (hf : f < 10) (hc : c < 32) : Wf (adM x k f c) := by
  obtain ⟨wN, wK, wF, wH, wM, wQ, wS, wZ, wT⟩ := hW
  refine ⟨by show xN x + 1 ≤ 6; omega, up_lt wK hk, up_lt wF hf, up_lt wH hc, up_le wM (by omega), wQ, wS, ?_, ?_⟩
  · intro i j hj
    exact wZ i j (by change xN x + 1 ≤ j at hj; omega)
  · intro i hi h6
    show up (xM x) (xN x) 6 i < xN x + 1 ∧ up (xM x) (xN x) 6 i ≠ i ∧ up (xM x) (xN x) 6 (up (xM x) (xN x) 6 i) = i
    change i < xN x + 1 at hi
    change up (xM x) (xN x) 6 i < 6 at h6
    by_cases e : i = xN x
    · rw [up_t e] at h6; omega
    · rw [up_f e] at h6 ⊢
      obtain ⟨s1, s2, s3⟩ := wT i (by omega) h6
      rw [up_f (by omega)]
      exact ⟨by omega, s2, s3⟩
theorem w_add {h : Hp} {m k f c : Nat} {x : Mt} (hm : isM m) (hB : Bs h) (hA : At h m x) (hW : Wf x) (hn : xN x < 6) : ∃ h', Ret 1 27 [.ref m, .int (iN k), .int (iN f), .int (iN c)] h (some (.int (iN (xN x)))) h' ∧ At h' m (adM x k f c) ∧ Fr (Sm m) h h' := by
  obtain ⟨oM, rM0, rM1, rM2, rM3, rM4, aM1, aM2, aM3, aM4, aM5, sM1, sM2, sM3, sM4, sM5⟩ := M_facts hm hB; obtain ⟨fN, fD, fK, fF, fH, fM, fQ⟩ := id hA; obtain ⟨wN, wK, wF, wH, wM, wQ, wS, wZ, wT⟩ := id hW
  refine ⟨si (si (si (si (si h (m + 1) (xN x) (iN k)) (m + 2) (xN x) (iN f)) (m + 3) (xN x) (iN c)) (m + 4) (xN x) (mI 6)) m 5 (iN (xN x + 1)), ?_, At_N (At_M (At_H (At_F (At_K hA)))) (xN x + 1), ?_⟩
  · refine Ret_L [some (.ref m), some (.int (iN k)), some (.int (iN f)), some (.int (iN c)), none] rfl rfl fun Q hQ => ?_
    (refine wp_go 600 ks_27_0.1 ?_; simp (disch := first | assumption | (simp only [ob_si, ar_si, ob_sl, ar_sl]; assumption) | omega) only [ci_1, cm_9, ldA_a, ldI_i, p_0, p_10, p_2, p_3, p_50, p_6, p_60, p_62, p_63, p_81_3, p_90, wpn_succ, wpn_zero, stp_h, lk_0, lk_s, st1_0, st1_1, st1_2, st2_0, st2_1, st2_2, kj_i, kj_a, kj_l, kj_n, cat_n, cat_i, cat_a, cat_u, cat_l, vc_i, vc_a, rv_s, tl_n, tl_s, Cal'_s, List.length_cons, List.length_nil, i0, i1, iNd, iN_lt, iN_le, iN_eq, iN_add, iN_mul, iN_mod, iN_sub, iN_div, iN_clamp, iN_inb, zle_N, zlt_N, zN_le, zN_lt, zN_eq, Nz_eq, mI_t, mI_f, bI_0, bI_1, bI_t, bI_f, dltT, dltF, dleT, dleF, deqT, deqF, Nat.not_lt_zero, not_true_eq_false, not_false_eq_true, true_and, and_true, false_and, and_false, or_true, true_or, false_or, or_false, and_self, if_true, if_false, Classical.not_not, Nat.add_assoc, Nat.zero_add, Nat.add_zero, bI_or, bI_True, bI_False, Bool.false_eq_true, reduceCtorEq, eq_self, gi_si, gl_si, gr_si, hn_si, hL_si, hX_si, gi_sl, gl_sl, gr_sl, hn_sl, ob_si, ar_si, ob_sl, ar_sl, ks_27_0, ks_27_1, oM, rM0, rM1, rM2, rM3, rM4, aM1, aM2, aM3, aM4, aM5, fN, c_set_q, up_t, up_f])
    exact hQ
  · refine (((((Fr.rf _ h).si ?_ _ _).si ?_ _ _).si ?_ _ _).si ?_ _ _).si ?_ _ _ <;> unfold Sm <;> omega
theorem w_copy {h : Hp} {m p : Nat} {x : Mt} (hm : isM m) (hp : isM p) (hd : m + 5 < p ∨ p + 5 < m) (hB : Bs h) (hA : At h p x) : ∃ h', Ret 1 21 [.ref m, .ref p] h none h' ∧ At h' m x ∧ Fr (Sm m) h h' := by
  have key : ∀ Q : Option Value → Hp → Prop, (∀ h', At h' m x → Fr (Sm m) h h' → Q none h') → wp 1 21 0 [some (.ref m), some (.ref p), none] [] h Q := by
    intro Q hQ
    (refine wp_go 600 ks_21_0.1 ?_; simp (disch := first | assumption | (simp only [ob_si, ar_si, ob_sl, ar_sl]; assumption) | omega) only [ci_0, ci_1, ci_6, inc_i, ldA_a, ldI_i, p_0, p_2, p_3, p_30, p_44, p_6, p_60, p_62, p_63, p_76, p_81_2, p_81_3, p_9, p_94, wpn_succ, wpn_zero, stp_h, lk_0, lk_s, st1_0, st1_1, st1_2, st2_0, st2_1, st2_2, kj_i, kj_a, kj_l, kj_n, cat_n, cat_i, cat_a, cat_u, cat_l, vc_i, vc_a, rv_s, tl_n, tl_s, Cal'_s, List.length_cons, List.length_nil, i0, i1, iNd, iN_lt, iN_le, iN_eq, iN_add, iN_mul, iN_mod, iN_sub, iN_div, iN_clamp, iN_inb, zle_N, zlt_N, zN_le, zN_lt, zN_eq, Nz_eq, mI_t, mI_f, bI_0, bI_1, bI_t, bI_f, dltT, dltF, dleT, dleF, deqT, deqF, Nat.not_lt_zero, not_true_eq_false, not_false_eq_true, true_and, and_true, false_and, and_false, or_true, true_or, false_or, or_false, and_self, if_true, if_false, Classical.not_not, Nat.add_assoc, Nat.zero_add, Nat.add_zero, bI_or, bI_True, bI_False, Bool.false_eq_true, reduceCtorEq, eq_self, gi_si, gl_si, gr_si, hn_si, hL_si, hX_si, gi_sl, gl_sl, gr_sl, hn_sl, ob_si, ar_si, ob_sl, ar_sl, ks_21_0, ks_21_1, ks_21_2])
    refine wp_loop (fun i L h' => L = [some (.ref m), some (.ref p), some (.int (iN i))] ∧ Fr (Sm m) h h' ∧ (∀ k, k < i → gi h' (m + 1) k = gi h (p + 1) k) ∧ (∀ k, k < i → gi h' (m + 2) k = gi h (p + 2) k) ∧ (∀ k, k < i → gi h' (m + 3) k = gi h (p + 3) k) ∧ (∀ k, k < i → gi h' (m + 4) k = gi h (p + 4) k)) 6 ?_ ?_ 6 0 _ h (by omega) ⟨rfl, Fr.rf _ h, by intro k hk; omega, by intro k hk; omega, by intro k hk; omega, by intro k hk; omega⟩
    · rintro i L h' hi ⟨rfl, f, a1, a2, a3, a4⟩ hn
      obtain ⟨oM, rM0, rM1, rM2, rM3, rM4, aM1, aM2, aM3, aM4, aM5, sM1, sM2, sM3, sM4, sM5⟩ := M_facts hm (f.bs hB)
      obtain ⟨oP, rP0, rP1, rP2, rP3, rP4, aP1, aP2, aP3, aP4, aP5, sP1, sP2, sP3, sP4, sP5⟩ := M_facts hp (f.bs hB)
      have e1 := f.i (o := p + 1) (by unfold Sm; omega)
      have e2 := f.i (o := p + 2) (by unfold Sm; omega)
      have e3 := f.i (o := p + 3) (by unfold Sm; omega)
      have e4 := f.i (o := p + 4) (by unfold Sm; omega)
      (refine wp_go 600 ks_21_0.2.2.1 ?_; simp (disch := first | assumption | (simp only [ob_si, ar_si, ob_sl, ar_sl]; assumption) | omega) only [ci_0, ci_1, ci_6, inc_i, ldA_a, ldI_i, p_0, p_2, p_3, p_30, p_44, p_6, p_60, p_62, p_63, p_76, p_81_2, p_81_3, p_9, p_94, wpn_succ, wpn_zero, stp_h, lk_0, lk_s, st1_0, st1_1, st1_2, st2_0, st2_1, st2_2, kj_i, kj_a, kj_l, kj_n, cat_n, cat_i, cat_a, cat_u, cat_l, vc_i, vc_a, rv_s, tl_n, tl_s, Cal'_s, List.length_cons, List.length_nil, i0, i1, iNd, iN_lt, iN_le, iN_eq, iN_add, iN_mul, iN_mod, iN_sub, iN_div, iN_clamp, iN_inb, zle_N, zlt_N, zN_le, zN_lt, zN_eq, Nz_eq, mI_t, mI_f, bI_0, bI_1, bI_t, bI_f, dltT, dltF, dleT, dleF, deqT, deqF, Nat.not_lt_zero, not_true_eq_false, not_false_eq_true, true_and, and_true, false_and, and_false, or_true, true_or, false_or, or_false, and_self, if_true, if_false, Classical.not_not, Nat.add_assoc, Nat.zero_add, Nat.add_zero, bI_or, bI_True, bI_False, Bool.false_eq_true, reduceCtorEq, eq_self, gi_si, gl_si, gr_si, hn_si, hL_si, hX_si, gi_sl, gl_sl, gr_sl, hn_sl, ob_si, ar_si, ob_sl, ar_sl, ks_21_0, ks_21_1, ks_21_2, oM, rM0, rM1, rM2, rM3, rM4, aM1, aM2, aM3, aM4, aM5, oP, rP0, rP1, rP2, rP3, rP4, c_cell_q, c_set_q, up_t, up_f, e1, e2, e3, e4])
      refine hn _ _ ⟨rfl, ?_, ?_, ?_, ?_, ?_⟩
      · refine ((((f.si ?_ _ _).si ?_ _ _).si ?_ _ _).si ?_ _ _) <;> unfold Sm <;> omega
      · intro k hk
        simp (disch := omega) only [gi_si, up_f, up_s]
        by_cases e : k = i
        · rw [up_t e, e]
        · rw [up_f e]; exact a1 k (by omega)
      · intro k hk
        simp (disch := omega) only [gi_si, up_f, up_s]
        by_cases e : k = i
        · rw [up_t e, e]
        · rw [up_f e]; exact a2 k (by omega)
      · intro k hk
        simp (disch := omega) only [gi_si, up_f, up_s]
        by_cases e : k = i
        · rw [up_t e, e]
        · rw [up_f e]; exact a3 k (by omega)
      · intro k hk
        simp (disch := omega) only [gi_si, up_f, up_s]
        by_cases e : k = i
        · rw [up_t e, e]
        · rw [up_f e]; exact a4 k (by omega)
    · rintro L h' ⟨rfl, f, a1, a2, a3, a4⟩
      (refine wp_go 600 ks_21_0.2.2.1 ?_; simp (disch := first | assumption | (simp only [ob_si, ar_si, ob_sl, ar_sl]; assumption) | omega) only [ci_0, ci_1, ci_6, inc_i, ldA_a, ldI_i, p_0, p_2, p_3, p_30, p_44, p_6, p_60, p_62, p_63, p_76, p_81_2, p_81_3, p_9, p_94, wpn_succ, wpn_zero, stp_h, lk_0, lk_s, st1_0, st1_1, st1_2, st2_0, st2_1, st2_2, kj_i, kj_a, kj_l, kj_n, cat_n, cat_i, cat_a, cat_u, cat_l, vc_i, vc_a, rv_s, tl_n, tl_s, Cal'_s, List.length_cons, List.length_nil, i0, i1, iNd, iN_lt, iN_le, iN_eq, iN_add, iN_mul, iN_mod, iN_sub, iN_div, iN_clamp, iN_inb, zle_N, zlt_N, zN_le, zN_lt, zN_eq, Nz_eq, mI_t, mI_f, bI_0, bI_1, bI_t, bI_f, dltT, dltF, dleT, dleF, deqT, deqF, Nat.not_lt_zero, not_true_eq_false, not_false_eq_true, true_and, and_true, false_and, and_false, or_true, true_or, false_or, or_false, and_self, if_true, if_false, Classical.not_not, Nat.add_assoc, Nat.zero_add, Nat.add_zero, bI_or, bI_True, bI_False, Bool.false_eq_true, reduceCtorEq, eq_self, gi_si, gl_si, gr_si, hn_si, hL_si, hX_si, gi_sl, gl_sl, gr_sl, hn_sl, ob_si, ar_si, ob_sl, ar_sl, ks_21_0, ks_21_1, ks_21_2])
      refine wp_loop (fun i L h' => L = [some (.ref m), some (.ref p), some (.int (iN i))] ∧ Fr (Sm m) h h' ∧ (∀ k, k < 6 → gi h' (m + 1) k = gi h (p + 1) k) ∧ (∀ k, k < 6 → gi h' (m + 2) k = gi h (p + 2) k) ∧ (∀ k, k < 6 → gi h' (m + 3) k = gi h (p + 3) k) ∧ (∀ k, k < 6 → gi h' (m + 4) k = gi h (p + 4) k) ∧ (∀ k, k < i → gi h' (m + 5) k = gi h (p + 5) k)) 36 ?_ ?_ 36 0 _ h' (by omega) ⟨rfl, f, a1, a2, a3, a4, by intro k hk; omega⟩
      · rintro i L h' hi ⟨rfl, f, a1, a2, a3, a4, a5⟩ hn
        obtain ⟨oM, rM0, rM1, rM2, rM3, rM4, aM1, aM2, aM3, aM4, aM5, sM1, sM2, sM3, sM4, sM5⟩ := M_facts hm (f.bs hB)
        obtain ⟨oP, rP0, rP1, rP2, rP3, rP4, aP1, aP2, aP3, aP4, aP5, sP1, sP2, sP3, sP4, sP5⟩ := M_facts hp (f.bs hB)
        have e5 := f.i (o := p + 5) (by unfold Sm; omega)
        (refine wp_go 600 ks_21_1.2.2.2.2.2.2.2.2.2.2.2.2.2.2.2.2.2.1 ?_; simp (disch := first | assumption | (simp only [ob_si, ar_si, ob_sl, ar_sl]; assumption) | omega) only [ci_0, ci_1, ci_6, inc_i, ldA_a, ldI_i, p_0, p_2, p_3, p_30, p_44, p_6, p_60, p_62, p_63, p_76, p_81_2, p_81_3, p_9, p_94, wpn_succ, wpn_zero, stp_h, lk_0, lk_s, st1_0, st1_1, st1_2, st2_0, st2_1, st2_2, kj_i, kj_a, kj_l, kj_n, cat_n, cat_i, cat_a, cat_u, cat_l, vc_i, vc_a, rv_s, tl_n, tl_s, Cal'_s, List.length_cons, List.length_nil, i0, i1, iNd, iN_lt, iN_le, iN_eq, iN_add, iN_mul, iN_mod, iN_sub, iN_div, iN_clamp, iN_inb, zle_N, zlt_N, zN_le, zN_lt, zN_eq, Nz_eq, mI_t, mI_f, bI_0, bI_1, bI_t, bI_f, dltT, dltF, dleT, dleF, deqT, deqF, Nat.not_lt_zero, not_true_eq_false, not_false_eq_true, true_and, and_true, false_and, and_false, or_true, true_or, false_or, or_false, and_self, if_true, if_false, Classical.not_not, Nat.add_assoc, Nat.zero_add, Nat.add_zero, bI_or, bI_True, bI_False, Bool.false_eq_true, reduceCtorEq, eq_self, gi_si, gl_si, gr_si, hn_si, hL_si, hX_si, gi_sl, gl_sl, gr_sl, hn_sl, ob_si, ar_si, ob_sl, ar_sl, ks_21_0, ks_21_1, ks_21_2, oM, rM0, rM1, rM2, rM3, rM4, aM1, aM2, aM3, aM4, aM5, oP, rP0, rP1, rP2, rP3, rP4, c_cell_q, c_set_q, up_t, up_f, e5, aM5.1, aM5.2, sM5])
        refine hn _ _ ⟨rfl, f.si (by unfold Sm; omega) _ _, ?_, ?_, ?_, ?_, ?_⟩
        · simpa (disch := omega) only [gi_si, up_f] using a1
        · simpa (disch := omega) only [gi_si, up_f] using a2
        · simpa (disch := omega) only [gi_si, up_f] using a3
        · simpa (disch := omega) only [gi_si, up_f] using a4
        · intro k hk
          simp (disch := omega) only [gi_si, up_f, up_s]
          by_cases e : k = i
          · rw [up_t e, e]
          · rw [up_f e]; exact a5 k (by omega)
      · rintro L h' ⟨rfl, f, a1, a2, a3, a4, a5⟩
        obtain ⟨oM, rM0, rM1, rM2, rM3, rM4, aM1, aM2, aM3, aM4, aM5, sM1, sM2, sM3, sM4, sM5⟩ := M_facts hm (f.bs hB)
        obtain ⟨oP, rP0, rP1, rP2, rP3, rP4, aP1, aP2, aP3, aP4, aP5, sP1, sP2, sP3, sP4, sP5⟩ := M_facts hp (f.bs hB)
        obtain ⟨b1, b2, b3, b4, b5, b6, b7⟩ := hA
        have e0 := f.i (o := p) (by unfold Sm; omega)
        (refine wp_go 600 ks_21_1.2.2.2.2.2.2.2.2.2.2.2.2.2.2.2.2.2.1 ?_; simp (disch := first | assumption | (simp only [ob_si, ar_si, ob_sl, ar_sl]; assumption) | omega) only [ci_0, ci_1, ci_6, inc_i, ldA_a, ldI_i, p_0, p_2, p_3, p_30, p_44, p_6, p_60, p_62, p_63, p_76, p_81_2, p_81_3, p_9, p_94, wpn_succ, wpn_zero, stp_h, lk_0, lk_s, st1_0, st1_1, st1_2, st2_0, st2_1, st2_2, kj_i, kj_a, kj_l, kj_n, cat_n, cat_i, cat_a, cat_u, cat_l, vc_i, vc_a, rv_s, tl_n, tl_s, Cal'_s, List.length_cons, List.length_nil, i0, i1, iNd, iN_lt, iN_le, iN_eq, iN_add, iN_mul, iN_mod, iN_sub, iN_div, iN_clamp, iN_inb, zle_N, zlt_N, zN_le, zN_lt, zN_eq, Nz_eq, mI_t, mI_f, bI_0, bI_1, bI_t, bI_f, dltT, dltF, dleT, dleF, deqT, deqF, Nat.not_lt_zero, not_true_eq_false, not_false_eq_true, true_and, and_true, false_and, and_false, or_true, true_or, false_or, or_false, and_self, if_true, if_false, Classical.not_not, Nat.add_assoc, Nat.zero_add, Nat.add_zero, bI_or, bI_True, bI_False, Bool.false_eq_true, reduceCtorEq, eq_self, gi_si, gl_si, gr_si, hn_si, hL_si, hX_si, gi_sl, gl_sl, gr_sl, hn_sl, ob_si, ar_si, ob_sl, ar_sl, ks_21_0, ks_21_1, ks_21_2, oM, rM0, rM1, rM2, rM3, rM4, aM1, aM2, aM3, aM4, aM5, oP, rP0, rP1, rP2, rP3, rP4, aM5.1, aM5.2, sM5, e0, up_t, up_f])
        refine hQ _ ⟨?_, ?_, ?_, ?_, ?_, ?_, ?_⟩ ((f.si (by unfold Sm; omega) _ _).si (by unfold Sm; omega) _ _)
        · simpa (disch := omega) only [gi_si, up_f, up_s] using b1
        · simpa (disch := omega) only [gi_si, up_f, up_s] using b2
        · intro k hk; simp (disch := omega) only [gi_si, up_f]; rw [a1 k hk]; exact b3 k hk
        · intro k hk; simp (disch := omega) only [gi_si, up_f]; rw [a2 k hk]; exact b4 k hk
        · intro k hk; simp (disch := omega) only [gi_si, up_f]; rw [a3 k hk]; exact b5 k hk
        · intro k hk; simp (disch := omega) only [gi_si, up_f]; rw [a4 k hk]; exact b6 k hk
        · intro i j hi hj; simp (disch := omega) only [gi_si, up_f]; rw [a5 _ (by omega)]; exact b7 i j hi hj
  obtain ⟨v, h', r, rfl, A, f⟩ := Ret_ex (d := 1) (y := 21) (as := [.ref m, .ref p]) [some (.ref m), some (.ref p), none] rfl rfl (key (fun v h' => v = none ∧ At h' m x ∧ Fr (Sm m) h h') fun h' a b => ⟨rfl, a, b⟩)
  exact ⟨h', r, A, f⟩
