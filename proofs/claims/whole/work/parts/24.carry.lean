/-! the model's frame; what it puts by and takes again -/
theorem gi_sr (h : Hp) (o k : Nat) (v : Option Nat) : gi (sr h o k v) = gi h := rfl
theorem gl_sr (h : Hp) (o k : Nat) (v : Option Nat) : gl (sr h o k v) = gl h := rfl
theorem gr_sr (h : Hp) (o k : Nat) (v : Option Nat) : gr (sr h o k v) = up (gr h) o (up (gr h o) k v) := rfl
theorem ob_sr (h : Hp) (o k : Nat) (v : Option Nat) (a b : Nat) : ob (sr h o k v) a b = ob h a b := rfl
theorem ar_sr (h : Hp) (o k : Nat) (v : Option Nat) (a b : Nat) : ar (sr h o k v) a b = ar h a b := rfl
noncomputable def Fo (S F : Nat → Prop) (h h' : Hp) : Prop := Fr (fun o => S o ∨ o = 87) h h' ∧ ∀ k, ¬ F k → gi h' 87 k = gi h 87 k
theorem Fo.rf (S F : Nat → Prop) (h : Hp) : Fo S F h h := ⟨Fr.rf _ h, fun _ _ => rfl⟩
theorem Fo.tr {S F : Nat → Prop} {h h1 h2 : Hp} (f : Fo S F h h1) (g : Fo S F h1 h2) : Fo S F h h2 := ⟨f.1.tr g.1, fun k hk => (g.2 k hk).trans (f.2 k hk)⟩
theorem Fo.mono {S F S' F' : Nat → Prop} {h h' : Hp} (f : Fo S F h h') (hs : ∀ o, S o → S' o) (hf : ∀ k, F k → F' k) : Fo S' F' h h' := ⟨f.1.mono fun o ho => ho.imp (hs o) id, fun k hk => f.2 k fun e => hk (hf k e)⟩
theorem Fo.sa {S F : Nat → Prop} {h h' : Hp} (f : Fo S F h h') {o : Nat} (ho : S o) (h7 : ¬ o = 87) (k : Nat) (v : Int32) : Fo S F h (si h' o k v) := ⟨f.1.si (Or.inl ho) k v, fun j hj => by rw [gi_si, up_f (fun e => h7 e.symm)]; exact f.2 j hj⟩
theorem Fo.sf {S F : Nat → Prop} {h h' : Hp} (f : Fo S F h h') {k : Nat} (hk : F k) (v : Int32) : Fo S F h (si h' 87 k v) := ⟨f.1.si (Or.inr rfl) k v, fun j hj => by rw [gi_si, up_s, up_f (fun e : j = k => hj (by rw [e]; exact hk))]; exact f.2 j hj⟩
theorem Fo.bs {S F : Nat → Prop} {h h' : Hp} (f : Fo S F h h') (hB : Bs h) : Bs h' := f.1.bs hB
theorem Fo.i {S F : Nat → Prop} {h h' : Hp} (f : Fo S F h h') {o : Nat} (ho : ¬ S o) (h7 : ¬ o = 87) : gi h' o = gi h o := f.1.i fun e => e.elim ho h7
theorem Fo.l {S F : Nat → Prop} {h h' : Hp} (f : Fo S F h h') {o : Nat} (ho : ¬ S o) (h7 : ¬ o = 87) : gl h' o = gl h o := f.1.l fun e => e.elim ho h7
theorem Ao.fr {h h' : Hp} {x : Mt} {S F : Nat → Prop} (hA : Ao h x) (f : Fo S F h h') (hs : ∀ o, 88 ≤ o → o ≤ 92 → ¬ S o) (h0 : ¬ F 0) (h6 : ¬ F 6) : Ao h' x := by
  obtain ⟨a1, a2, a3, a4, a5, a6, a7⟩ := hA
  have e1 := f.i (hs 88 (by omega) (by omega)) (by omega)
  have e2 := f.i (hs 89 (by omega) (by omega)) (by omega)
  have e3 := f.i (hs 90 (by omega) (by omega)) (by omega)
  have e4 := f.i (hs 91 (by omega) (by omega)) (by omega)
  have e5 := f.i (hs 92 (by omega) (by omega)) (by omega)
  exact ⟨by rw [f.2 0 h0]; exact a1, by rw [f.2 6 h6]; exact a2, by rw [e1]; exact a3, by rw [e2]; exact a4, by rw [e3]; exact a5, by rw [e4]; exact a6, by rw [e5]; exact a7⟩
theorem Ao_f {h : Hp} {x : Mt} (hA : Ao h x) {k : Nat} (h0 : ¬ k = 0) (h6 : ¬ k = 6) (v : Int32) : Ao (si h 87 k v) x := by
  obtain ⟨a1, a2, a3, a4, a5, a6, a7⟩ := hA
  refine ⟨?_, ?_, ?_, ?_, ?_, ?_, ?_⟩ <;> simp (disch := omega) only [gi_si, up_f, up_s] <;> assumption
theorem Ao_N {h : Hp} {x : Mt} (hA : Ao h x) (v : Nat) : Ao (si h 87 0 (iN v)) (uN x v) := by
  obtain ⟨a1, a2, a3, a4, a5, a6, a7⟩ := hA
  refine ⟨by rw [gi_si, up_s, up_s]; rfl, ?_, ?_, ?_, ?_, ?_, ?_⟩ <;> simp (disch := omega) only [gi_si, up_f, up_s] <;> assumption
theorem Ao_D {h : Hp} {x : Mt} (hA : Ao h x) (v : Int32) : Ao (si h 87 6 v) (uD x v) := by
  obtain ⟨a1, a2, a3, a4, a5, a6, a7⟩ := hA
  refine ⟨?_, by rw [gi_si, up_s, up_s]; rfl, ?_, ?_, ?_, ?_, ?_⟩ <;> simp (disch := omega) only [gi_si, up_f, up_s] <;> assumption
theorem Ao_K {h : Hp} {i v : Nat} {x : Mt} (hA : Ao h x) : Ao (si h 88 i (iN v)) (uK x i v) := by
  obtain ⟨a1, a2, a3, a4, a5, a6, a7⟩ := hA
  refine ⟨?_, ?_, ?_, ?_, ?_, ?_, ?_⟩ <;> simp (disch := omega) only [gi_si, up_f, up_s] <;> (try assumption)
  intro k hk
  by_cases e : k = i
  · rw [up_t e]; show _ = iN (up (xK x) i v k); rw [up_t e]
  · rw [up_f e]; show _ = iN (up (xK x) i v k); rw [up_f e]; exact a3 k hk
theorem Ao_F {h : Hp} {i v : Nat} {x : Mt} (hA : Ao h x) : Ao (si h 89 i (iN v)) (uF x i v) := by
  obtain ⟨a1, a2, a3, a4, a5, a6, a7⟩ := hA
  refine ⟨?_, ?_, ?_, ?_, ?_, ?_, ?_⟩ <;> simp (disch := omega) only [gi_si, up_f, up_s] <;> (try assumption)
  intro k hk
  by_cases e : k = i
  · rw [up_t e]; show _ = iN (up (xF x) i v k); rw [up_t e]
  · rw [up_f e]; show _ = iN (up (xF x) i v k); rw [up_f e]; exact a4 k hk
theorem Ao_H {h : Hp} {i v : Nat} {x : Mt} (hA : Ao h x) : Ao (si h 90 i (iN v)) (uH x i v) := by
  obtain ⟨a1, a2, a3, a4, a5, a6, a7⟩ := hA
  refine ⟨?_, ?_, ?_, ?_, ?_, ?_, ?_⟩ <;> simp (disch := omega) only [gi_si, up_f, up_s] <;> (try assumption)
  intro k hk
  by_cases e : k = i
  · rw [up_t e]; show _ = iN (up (xH x) i v k); rw [up_t e]
  · rw [up_f e]; show _ = iN (up (xH x) i v k); rw [up_f e]; exact a5 k hk
theorem Ao_M {h : Hp} {i v : Nat} {x : Mt} (hA : Ao h x) : Ao (si h 91 i (mI v)) (uM x i v) := by
  obtain ⟨a1, a2, a3, a4, a5, a6, a7⟩ := hA
  refine ⟨?_, ?_, ?_, ?_, ?_, ?_, ?_⟩ <;> simp (disch := omega) only [gi_si, up_f, up_s] <;> (try assumption)
  intro k hk
  by_cases e : k = i
  · rw [up_t e]; show _ = mI (up (xM x) i v k); rw [up_t e]
  · rw [up_f e]; show _ = mI (up (xM x) i v k); rw [up_f e]; exact a6 k hk
theorem Ao_Q {h : Hp} {i j v : Nat} {x : Mt} (hi : i < 6) (hj : j < 6) (hA : Ao h x) : Ao (si (si h 92 (6 * i + j) (iN v)) 92 (6 * j + i) (iN v)) (uQ x i j v) := by
  obtain ⟨a1, a2, a3, a4, a5, a6, a7⟩ := hA
  refine ⟨?_, ?_, ?_, ?_, ?_, ?_, ?_⟩ <;> simp (disch := omega) only [gi_si, up_f, up_s] <;> (try assumption)
  intro a b ha hb
  show _ = iN (up2 (xQ x) i j v a b)
  unfold up2
  by_cases e1 : a = j ∧ b = i
  · rw [up_t (by obtain ⟨rfl, rfl⟩ := e1; rfl), if_pos (Or.inr e1)]
  · rw [up_f (by omega)]
    by_cases e2 : a = i ∧ b = j
    · rw [up_t (by obtain ⟨rfl, rfl⟩ := e2; rfl), if_pos (Or.inl e2)]
    · rw [up_f (by omega), if_neg (by omega)]
      exact a7 a b ha hb
/-- all that there is in one row -/
noncomputable def lay (x : Mt) (k : Nat) : Int32 := if k = 0 then iN (xN x) else if k = 1 then xD x else if k < 26 then (if (k - 2) % 4 = 0 then iN (xK x ((k - 2) / 4)) else if (k - 2) % 4 = 1 then iN (xF x ((k - 2) / 4)) else if (k - 2) % 4 = 2 then iN (xH x ((k - 2) / 4)) else mI (xM x ((k - 2) / 4))) else iN (xQ x ((k - 26) / 6) ((k - 26) % 6))
theorem lay_0 (x : Mt) : lay x 0 = iN (xN x) := rfl
theorem lay_1 (x : Mt) : lay x 1 = xD x := rfl
theorem lay_K (x : Mt) {p : Nat} (hp : p < 6) : lay x (2 + 4 * p) = iN (xK x p) := by
  unfold lay
  rw [if_neg (by omega), if_neg (by omega), if_pos (by omega), if_pos (by omega), show (2 + 4 * p - 2) / 4 = p by omega]
theorem lay_F (x : Mt) {p : Nat} (hp : p < 6) : lay x (2 + 4 * p + 1) = iN (xF x p) := by
  unfold lay
  rw [if_neg (by omega), if_neg (by omega), if_pos (by omega), if_neg (by omega), if_pos (by omega), show (2 + 4 * p + 1 - 2) / 4 = p by omega]
theorem lay_H (x : Mt) {p : Nat} (hp : p < 6) : lay x (2 + 4 * p + 1 + 1) = iN (xH x p) := by
  unfold lay
  rw [if_neg (by omega), if_neg (by omega), if_pos (by omega), if_neg (by omega), if_neg (by omega), if_pos (by omega), show (2 + 4 * p + 1 + 1 - 2) / 4 = p by omega]
theorem lay_M (x : Mt) {p : Nat} (hp : p < 6) : lay x (2 + 4 * p + 1 + 1 + 1) = mI (xM x p) := by
  unfold lay
  rw [if_neg (by omega), if_neg (by omega), if_pos (by omega), if_neg (by omega), if_neg (by omega), if_neg (by omega), show (2 + 4 * p + 1 + 1 + 1 - 2) / 4 = p by omega]
theorem lay_Q (x : Mt) {i j : Nat} (hi : i < 6) (hj : j < 6) : lay x (26 + (6 * i + j)) = iN (xQ x i j) := by
  unfold lay
  rw [if_neg (by omega), if_neg (by omega), if_neg (by omega), show (26 + (6 * i + j) - 26) / 6 = i by omega, show (26 + (6 * i + j) - 26) % 6 = j by omega]
noncomputable def Kx (h : Hp) (a : Nat) (x : Mt) : Prop := ∀ k, k < 62 → gi h a k = lay x k
noncomputable def isA (a : Nat) : Prop := a = 98 ∨ a = 99 ∨ a = 101
noncomputable def Sc (a : Nat) : Nat → Prop := fun o => (88 ≤ o ∧ o ≤ 92) ∨ o = a
noncomputable def Fc : Nat → Prop := fun k => k = 0 ∨ k = 6 ∨ k = 20 ∨ k = 21
/-- midway: c of them are through -/
noncomputable def Ci (h : Hp) (a : Nat) (b : Bool) (x : Mt) (c : Nat) (h' : Hp) : Prop := gr h' 87 22 = some a ∧ gi h' 87 20 = iN c ∧ gi h' 87 21 = bI (b = true) ∧ (∀ k, k < 62 → (k < c ∨ b = false) → gi h' a k = lay x k) ∧ (b = true → Ao h' x) ∧ Fo (Sc a) Fc h h'
theorem A_facts {h : Hp} {a : Nat} (ha : isA a) (hB : Bs h) : ar h 1 a ∧ (SH a).2 = 62 ∧ 98 ≤ a ∧ a ≤ 101 := by
  unfold isA at ha
  rcases ha with rfl | rfl | rfl <;> exact ⟨hB.ar (by decide) (by decide), by decide, by decide, by decide⟩
theorem w_cy {h h1 : Hp} {a c : Nat} {b : Bool} {x : Mt} {v : Int32} (hB : Bs h) (ha : isA a) (hC : Ci h a b x c h1) (hc : c < 62) (hv : b = true → v = lay x c) : ∃ h2, Ret 0 234 [.ref 87, .int v] h1 (some (.int (lay x c))) h2 ∧ Ci h a b x (c + 1) h2 ∧ (∀ o, 88 ≤ o → o ≤ 92 → gi h2 o = gi h1 o) ∧ gi h2 87 0 = gi h1 87 0 ∧ gi h2 87 6 = gi h1 87 6 := by
  obtain ⟨c1, c2, c3, c4, c5, c6⟩ := hC
  have hB1 := c6.bs hB
  obtain ⟨aA, sA, gA, gA2⟩ := A_facts ha hB1
  have oO := (O_facts hB1).1
  have hsc : Sc a a := Or.inr rfl
  have hf : Fc 20 := by unfold Fc; omega
  cases b with
  | true =>
    have hv := hv rfl
    subst hv
    rw [bI_t rfl] at c3
    refine ⟨si (si h1 a c (lay x c)) 87 20 (iN (c + 1)), ?_, ⟨c1, ?_, ?_, ?_, ?_, (c6.sa hsc (by omega) _ _).sf hf _⟩, ?_, ?_, ?_⟩
    · refine Ret_L [some (.ref 87), some (.int (lay x c))] rfl rfl fun Q hQ => ?_
      (refine wp_go 600 ks_234_0.1 ?_; simp (disch := first | assumption | (simp only [ob_si, ar_si, ob_sl, ar_sl]; assumption) | omega) only [ci_1, ldA_a, ldI_i, p_0, p_10, p_11, p_2, p_31, p_50, p_6, p_60, p_62, p_63, p_70, p_71, p_90, wpn_succ, wpn_zero, stp_h, lk_0, lk_s, st1_0, st1_1, st1_2, st2_0, st2_1, st2_2, kj_i, kj_a, kj_l, kj_n, cat_n, cat_i, cat_a, cat_u, cat_l, vc_i, vc_a, rv_s, tl_n, tl_s, Cal'_s, List.length_cons, List.length_nil, i0, i1, iNd, iN_lt, iN_le, iN_eq, iN_add, iN_mul, iN_mod, iN_sub, iN_div, iN_clamp, iN_inb, zle_N, zlt_N, zN_le, zN_lt, zN_eq, Nz_eq, mI_t, mI_f, bI_0, bI_1, bI_t, bI_f, dltT, dltF, dleT, dleF, deqT, deqF, Nat.not_lt_zero, not_true_eq_false, not_false_eq_true, true_and, and_true, false_and, and_false, or_true, true_or, false_or, or_false, and_self, if_true, if_false, Classical.not_not, Nat.add_assoc, Nat.zero_add, Nat.add_zero, bI_or, bI_True, bI_False, Bool.false_eq_true, reduceCtorEq, eq_self, gi_si, gl_si, gr_si, hn_si, hL_si, hX_si, gi_sl, gl_sl, gr_sl, hn_sl, ob_si, ar_si, ob_sl, ar_sl, ks_234_0, oO, c1, c2, c3, aA, up_t, up_f])
      exact hQ
    · rw [gi_si, up_s, up_s]
    · rw [bI_t rfl]; simp (disch := omega) only [gi_si, up_f, up_s]; exact c3
    · intro k hk hk2
      simp (disch := omega) only [gi_si, up_f, up_s]
      by_cases e : k = c
      · rw [up_t e, e]
      · rw [up_f e]; exact c4 k hk (hk2.imp (fun q => by omega) id)
    · intro _
      refine Ao_f (Ao.fr (c5 rfl) ((Fo.rf (fun o => o = a) (fun _ => False) h1).sa rfl (by omega) c (lay x c)) ?_ id id) (by omega) (by omega) _
      intro o _ _; omega
    · intro o h3 h4; simp (disch := omega) only [gi_si, up_f]
    · simp (disch := omega) only [gi_si, up_f, up_s]
    · simp (disch := omega) only [gi_si, up_f, up_s]
  | false =>
    have hk := c4 c hc (Or.inr rfl)
    rw [bI_f (by decide)] at c3
    refine ⟨si h1 87 20 (iN (c + 1)), ?_, ⟨c1, ?_, ?_, ?_, (fun e => by cases e), c6.sf hf _⟩, ?_, ?_, ?_⟩
    · refine Ret_L [some (.ref 87), some (.int v)] rfl rfl fun Q hQ => ?_
      (refine wp_go 600 ks_234_0.1 ?_; simp (disch := first | assumption | (simp only [ob_si, ar_si, ob_sl, ar_sl]; assumption) | omega) only [ci_1, ldA_a, ldI_i, p_0, p_10, p_11, p_2, p_31, p_50, p_6, p_60, p_62, p_63, p_70, p_71, p_90, wpn_succ, wpn_zero, stp_h, lk_0, lk_s, st1_0, st1_1, st1_2, st2_0, st2_1, st2_2, kj_i, kj_a, kj_l, kj_n, cat_n, cat_i, cat_a, cat_u, cat_l, vc_i, vc_a, rv_s, tl_n, tl_s, Cal'_s, List.length_cons, List.length_nil, i0, i1, iNd, iN_lt, iN_le, iN_eq, iN_add, iN_mul, iN_mod, iN_sub, iN_div, iN_clamp, iN_inb, zle_N, zlt_N, zN_le, zN_lt, zN_eq, Nz_eq, mI_t, mI_f, bI_0, bI_1, bI_t, bI_f, dltT, dltF, dleT, dleF, deqT, deqF, Nat.not_lt_zero, not_true_eq_false, not_false_eq_true, true_and, and_true, false_and, and_false, or_true, true_or, false_or, or_false, and_self, if_true, if_false, Classical.not_not, Nat.add_assoc, Nat.zero_add, Nat.add_zero, bI_or, bI_True, bI_False, Bool.false_eq_true, reduceCtorEq, eq_self, gi_si, gl_si, gr_si, hn_si, hL_si, hX_si, gi_sl, gl_sl, gr_sl, hn_sl, ob_si, ar_si, ob_sl, ar_sl, ks_234_0, oO, c1, c2, c3, aA, hk, up_t, up_f, Nat.add_sub_cancel])
      exact hQ
    · rw [gi_si, up_s, up_s]
    · rw [bI_f (by decide)]; simp (disch := omega) only [gi_si, up_f, up_s]; exact c3
    · intro k hk hk2
      simp (disch := omega) only [gi_si, up_f, up_s]
      exact c4 k hk (Or.inr rfl)
    · intro o h3 h4; simp (disch := omega) only [gi_si, up_f]
    · simp (disch := omega) only [gi_si, up_f, up_s]
    · simp (disch := omega) only [gi_si, up_f, up_s]
theorem Ao_K' {h : Hp} {p : Nat} {x : Mt} (hA : Ao h x) : Ao (si h 88 p (iN (xK x p))) x := by
  have := Ao_K (i := p) (v := xK x p) hA
  rwa [show uK x p (xK x p) = x from by unfold uK; rw [show up (xK x) p (xK x p) = xK x from funext fun k => by unfold up; split; (rename_i e; rw [e]); rfl]; rfl] at this
theorem Ao_F' {h : Hp} {p : Nat} {x : Mt} (hA : Ao h x) : Ao (si h 89 p (iN (xF x p))) x := by
  have := Ao_F (i := p) (v := xF x p) hA
  rwa [show uF x p (xF x p) = x from by unfold uF; rw [show up (xF x) p (xF x p) = xF x from funext fun k => by unfold up; split; (rename_i e; rw [e]); rfl]; rfl] at this
theorem Ao_H' {h : Hp} {p : Nat} {x : Mt} (hA : Ao h x) : Ao (si h 90 p (iN (xH x p))) x := by
  have := Ao_H (i := p) (v := xH x p) hA
  rwa [show uH x p (xH x p) = x from by unfold uH; rw [show up (xH x) p (xH x p) = xH x from funext fun k => by unfold up; split; (rename_i e; rw [e]); rfl]; rfl] at this
theorem Ao_M' {h : Hp} {p : Nat} {x : Mt} (hA : Ao h x) : Ao (si h 91 p (mI (xM x p))) x := by
  have := Ao_M (i := p) (v := xM x p) hA
  rwa [show uM x p (xM x p) = x from by unfold uM; rw [show up (xM x) p (xM x p) = xM x from funext fun k => by unfold up; split; (rename_i e; rw [e]); rfl]; rfl] at this
theorem Ao_N' {h : Hp} {x : Mt} (hA : Ao h x) : Ao (si h 87 0 (iN (xN x))) x := Ao_N hA (xN x)
theorem Ao_D' {h : Hp} {x : Mt} (hA : Ao h x) : Ao (si h 87 6 (xD x)) x := Ao_D hA (xD x)
theorem Ao_Q' {h : Hp} {i j : Nat} {x : Mt} (hA : Ao h x) (hi : i < 6) (hj : j < 6) : Ao (si h 92 (6 * i + j) (iN (xQ x i j))) x := by
  obtain ⟨a1, a2, a3, a4, a5, a6, a7⟩ := hA
  refine ⟨?_, ?_, ?_, ?_, ?_, ?_, ?_⟩ <;> simp (disch := omega) only [gi_si, up_f, up_s] <;> (try assumption)
  intro a b ha hb
  by_cases e : 6 * a + b = 6 * i + j
  · rw [up_t e]
    have e1 : a = i := by omega
    have e2 : b = j := by omega
    rw [e1, e2]
  · rw [up_f e]; exact a7 a b ha hb
/-- storing what was carried keeps the way -/
theorem Ci.st {h h1 : Hp} {a c : Nat} {b : Bool} {x : Mt} {o k : Nat} {v : Int32} (hC : Ci h a b x c h1) (h3 : 88 ≤ o) (h4 : o ≤ 92) (hn : ¬ o = a) (hv : b = true → Ao (si h1 o k v) x) : Ci h a b x c (si h1 o k v) := by
  obtain ⟨c1, c2, c3, c4, c5, c6⟩ := hC
  refine ⟨c1, ?_, ?_, ?_, hv, c6.sa (Or.inl ⟨h3, h4⟩) (by omega) _ _⟩
  · simp (disch := omega) only [gi_si, up_f]; exact c2
  · simp (disch := omega) only [gi_si, up_f]; exact c3
  · intro k hk hk2; rw [gi_si, up_f (by omega)]; exact c4 k hk hk2
theorem Ci.sf {h h1 : Hp} {a c : Nat} {b : Bool} {x : Mt} {k : Nat} {v : Int32} (hC : Ci h a b x c h1) (ha : ¬ a = 87) (hk : k = 0 ∨ k = 6) (hv : b = true → Ao (si h1 87 k v) x) : Ci h a b x c (si h1 87 k v) := by
  obtain ⟨c1, c2, c3, c4, c5, c6⟩ := hC
  refine ⟨c1, ?_, ?_, ?_, hv, c6.sf (by unfold Fc; omega) _⟩
  · simp (disch := omega) only [gi_si, up_f, up_s]; exact c2
  · simp (disch := omega) only [gi_si, up_f, up_s]; exact c3
  · intro k hk hk2; rw [gi_si, up_f (by omega)]; exact c4 k hk hk2
noncomputable def Pw (h' : Hp) (x : Mt) (p : Nat) : Prop := gi h' 87 0 = iN (xN x) ∧ gi h' 87 6 = xD x ∧ (∀ i, i < p → gi h' 88 i = iN (xK x i)) ∧ (∀ i, i < p → gi h' 89 i = iN (xF x i)) ∧ (∀ i, i < p → gi h' 90 i = iN (xH x i)) ∧ ∀ i, i < p → gi h' 91 i = mI (xM x i)
theorem w_carry {h : Hp} {a : Nat} {b : Bool} {x : Mt} (hB : Bs h) (ha : isA a) (h0 : b = true → Ao h x) (h1 : b = false → Kx h a x) : ∃ h', Ret 1 235 [.ref 87, .ref a, .int (bI (b = true))] h none h' ∧ Ao h' x ∧ Kx h' a x ∧ Fo (Sc a) Fc h h' := by
  obtain ⟨aA, sA, gA, gA2⟩ := A_facts ha hB
  have key : ∀ Q : Option Value → Hp → Prop, (∀ h', Ao h' x → Kx h' a x → Fo (Sc a) Fc h h' → Q none h') → wp 1 235 0 [some (.ref 87), some (.ref a), some (.int (bI (b = true))), none] [] h Q := by
    intro Q hQ
    have oO := (O_facts hB).1
    -- at the start
    have C0 : Ci h a b x 0 (si (si (sr h 87 22 (some a)) 87 21 (bI (b = true))) 87 20 (iN 0)) := by
      refine ⟨?_, ?_, ?_, ?_, ?_, ?_⟩
      · simp only [gr_si, gr_sr, up_s]
      · simp (disch := omega) only [gi_si, up_f, up_s]
      · simp (disch := omega) only [gi_si, up_f, up_s]
      · intro k hk hk2
        simp (disch := omega) only [gi_si, gi_sr, up_f]
        exact h1 (hk2.resolve_left (by omega)) k hk
      · intro e
        exact Ao_f (Ao_f (show Ao (sr h 87 22 (some a)) x from h0 e) (by omega) (by omega) _) (by omega) (by omega) _
      · refine Fo.sf (Fo.sf ?_ (by unfold Fc; omega) _) (by unfold Fc; omega) _
        refine ⟨⟨rfl, rfl, rfl, fun _ _ => ⟨rfl, rfl⟩, ?_⟩, fun _ _ => rfl⟩
        intro o k hk
        rw [gr_sr]
        by_cases e : o = 87
        · rw [up_t e]
          by_cases e2 : k = 22
          · exact absurd ⟨e, e2⟩ hk
          · rw [up_f e2, e]
        · rw [up_f e]
    obtain ⟨g1, r1, C1, s1, n1, d1⟩ := w_cy hB ha C0 (v := gi h 87 0) (by omega) (fun e => (h0 e).1)
    have C1' := C1.sf (k := 0) (v := iN (xN x)) (by omega) (Or.inl rfl) (fun e => Ao_N' (C1.2.2.2.2.1 e))
    rw [lay_0] at r1
    obtain ⟨g2, r2, C2, s2, n2, d2⟩ := w_cy hB ha C1' (v := gi (si g1 87 0 (iN (xN x))) 87 6) (by omega) (fun e => (C1'.2.2.2.2.1 e).2.1)
    have C2' := C2.sf (k := 6) (v := xD x) (by omega) (Or.inr rfl) (fun e => Ao_D' (C2.2.2.2.2.1 e))
    rw [lay_1] at r2
    have o1 := (O_facts (C1.2.2.2.2.2.bs hB)).1
    have o2 := (O_facts (C2.2.2.2.2.2.bs hB)).1
    have d1' : gi g1 87 6 = gi h 87 6 := by rw [d1]; simp (disch := omega) only [gi_si, gi_sr, up_f, up_s]
    simp (disch := omega) only [gi_si, up_f, up_s, d1'] at r2
    have hor : (bI (b = true) = iN 0 ∨ bI (b = true) = iN 1) := by rw [bI_0, bI_1, bI_or]; trivial
    (refine wp_go 600 ks_235_0.1 ?_; simp (disch := first | assumption | (simp only [ob_si, ar_si, ob_sl, ar_sl]; assumption) | omega) only [ci_0, ci_1, ci_36, ci_6, inc_i, ldA_a, ldI_i, oc_234, p_0, p_2, p_3, p_30, p_44, p_6, p_60, p_62, p_63, p_64, p_66, p_70, p_71, p_80_2, p_9, p_94, wpn_succ, wpn_zero, stp_h, lk_0, lk_s, st1_0, st1_1, st1_2, st2_0, st2_1, st2_2, kj_i, kj_a, kj_l, kj_n, cat_n, cat_i, cat_a, cat_u, cat_l, vc_i, vc_a, rv_s, tl_n, tl_s, Cal'_s, List.length_cons, List.length_nil, i0, i1, iNd, iN_lt, iN_le, iN_eq, iN_add, iN_mul, iN_mod, iN_sub, iN_div, iN_clamp, iN_inb, zle_N, zlt_N, zN_le, zN_lt, zN_eq, Nz_eq, mI_t, mI_f, bI_0, bI_1, bI_t, bI_f, dltT, dltF, dleT, dleF, deqT, deqF, Nat.not_lt_zero, not_true_eq_false, not_false_eq_true, true_and, and_true, false_and, and_false, or_true, true_or, false_or, or_false, and_self, if_true, if_false, Classical.not_not, Nat.add_assoc, Nat.zero_add, Nat.add_zero, bI_or, bI_True, bI_False, Bool.false_eq_true, reduceCtorEq, eq_self, gi_si, gl_si, gr_si, hn_si, hL_si, hX_si, gi_sl, gl_sl, gr_sl, hn_sl, ob_si, ar_si, ob_sl, ar_sl, ks_235_0, ks_235_1, ks_235_2, ks_235_3, oO, o1, o2, hor, ob_sr, gi_sr, up_t, up_f, Cal_eq r1, Cal_eq r2, d1'])
    refine wp_loop (fun p L h' => (∃ w, L = [some (.ref 87), some (.ref a), some (.int (bI (b = true))), w] ∧ w = some (.int (iN p))) ∧ Ci h a b x (2 + 4 * p) h' ∧ Pw h' x p) 6 ?_ ?_ 6 0 _ _ (by omega) ⟨⟨_, rfl, rfl⟩, C2', ?_⟩
    · rintro p L h3 hp ⟨⟨w, rfl, rfl⟩, C3, P3⟩ hn
      obtain ⟨p1, p2, p3, p4, p5, p6⟩ := P3
      have B3 := C3.2.2.2.2.2.bs hB
      obtain ⟨oO, rO1, rO2, rO3, rO4, rO5, rO8, aO1, aO2, aO3, aO4, aO5, aO8, sO1, sO2, sO3, sO4, sO5, sO8⟩ := O_facts B3
      obtain ⟨g4, r4, C4, s4, n4, d4⟩ := w_cy hB ha C3 (v := gi h3 88 p) (by omega) (fun e => by rw [lay_K x hp]; exact (C3.2.2.2.2.1 e).2.2.1 p hp)
      rw [lay_K x hp] at r4
      have C4' := C4.st (o := 88) (k := p) (v := iN (xK x p)) (by omega) (by omega) (by omega) (fun e => Ao_K' (C4.2.2.2.2.1 e))
      have B4 := C4.2.2.2.2.2.bs hB
      have F4 := O_facts B4
      obtain ⟨g5, r5, C5, s5, n5, d5⟩ := w_cy hB ha C4' (v := gi g4 89 p) (by omega) (fun e => by rw [lay_F x hp]; exact (C4.2.2.2.2.1 e).2.2.2.1 p hp)
      rw [lay_F x hp] at r5
      have C5' := C5.st (o := 89) (k := p) (v := iN (xF x p)) (by omega) (by omega) (by omega) (fun e => Ao_F' (C5.2.2.2.2.1 e))
      have B5 := C5.2.2.2.2.2.bs hB
      have F5 := O_facts B5
      obtain ⟨g6, r6, C6, s6, n6, d6⟩ := w_cy hB ha C5' (v := gi g5 90 p) (by omega) (fun e => by rw [lay_H x hp]; exact (C5.2.2.2.2.1 e).2.2.2.2.1 p hp)
      rw [lay_H x hp] at r6
      have C6' := C6.st (o := 90) (k := p) (v := iN (xH x p)) (by omega) (by omega) (by omega) (fun e => Ao_H' (C6.2.2.2.2.1 e))
      have B6 := C6.2.2.2.2.2.bs hB
      have F6 := O_facts B6
      obtain ⟨g7, r7, C7, s7, n7, d7⟩ := w_cy hB ha C6' (v := gi g6 91 p) (by omega) (fun e => by rw [lay_M x hp]; exact (C6.2.2.2.2.1 e).2.2.2.2.2.1 p hp)
      rw [lay_M x hp] at r7
      have C7' := C7.st (o := 91) (k := p) (v := mI (xM x p)) (by omega) (by omega) (by omega) (fun e => Ao_M' (C7.2.2.2.2.1 e))
      have B7 := C7.2.2.2.2.2.bs hB
      have F7 := O_facts B7
      have q4 := F4.1
      have q5 := F5.1
      have q6 := F6.1
      have u41 := F4.2.1
      have u42 := F4.2.2.1
      have u53 := F5.2.2.2.1
      have u52 := F5.2.2.1
      have u63 := F6.2.2.2.1
      have u64 := F6.2.2.2.2.1
      have a4 : ar g4 1 88 := F4.2.2.2.2.2.2.2.1
      have a42 : ar g4 1 89 := F4.2.2.2.2.2.2.2.2.1
      have a52 : ar g5 1 89 := F5.2.2.2.2.2.2.2.2.1
      have a53 : ar g5 1 90 := F5.2.2.2.2.2.2.2.2.2.1
      have a63 : ar g6 1 90 := F6.2.2.2.2.2.2.2.2.2.1
      have a64 : ar g6 1 91 := F6.2.2.2.2.2.2.2.2.2.2.1
      have a74 : ar g7 1 91 := F7.2.2.2.2.2.2.2.2.2.2.1
      (refine wp_go 600 ks_235_0.2.2.2.2.2.2.2.2.2.2.2.2.2.2.2.2.2.2.2.2.2.2.2 ?_; simp (disch := first | assumption | (simp only [ob_si, ar_si, ob_sl, ar_sl]; assumption) | omega) only [ci_0, ci_1, ci_36, ci_6, inc_i, ldA_a, ldI_i, oc_234, p_0, p_2, p_3, p_30, p_44, p_6, p_60, p_62, p_63, p_64, p_66, p_70, p_71, p_80_2, p_9, p_94, wpn_succ, wpn_zero, stp_h, lk_0, lk_s, st1_0, st1_1, st1_2, st2_0, st2_1, st2_2, kj_i, kj_a, kj_l, kj_n, cat_n, cat_i, cat_a, cat_u, cat_l, vc_i, vc_a, rv_s, tl_n, tl_s, Cal'_s, List.length_cons, List.length_nil, i0, i1, iNd, iN_lt, iN_le, iN_eq, iN_add, iN_mul, iN_mod, iN_sub, iN_div, iN_clamp, iN_inb, zle_N, zlt_N, zN_le, zN_lt, zN_eq, Nz_eq, mI_t, mI_f, bI_0, bI_1, bI_t, bI_f, dltT, dltF, dleT, dleF, deqT, deqF, Nat.not_lt_zero, not_true_eq_false, not_false_eq_true, true_and, and_true, false_and, and_false, or_true, true_or, false_or, or_false, and_self, if_true, if_false, Classical.not_not, Nat.add_assoc, Nat.zero_add, Nat.add_zero, bI_or, bI_True, bI_False, Bool.false_eq_true, reduceCtorEq, eq_self, gi_si, gl_si, gr_si, hn_si, hL_si, hX_si, gi_sl, gl_sl, gr_sl, hn_sl, ob_si, ar_si, ob_sl, ar_sl, ks_235_0, ks_235_1, ks_235_2, ks_235_3, oO, rO1, rO2, rO3, rO4, aO1, aO2, aO3, aO4, q4, q5, q6, u41, u42, u52, u53, u63, u64, a4, a42, a52, a53, a63, a64, a74, Cal_eq r4, Cal_eq r5, Cal_eq r6, Cal_eq r7, up_t, up_f])
      refine hn _ _ ⟨⟨_, rfl, rfl⟩, (show Ci h a b x (2 + 4 * (p + 1)) _ from by rw [show 2 + 4 * (p + 1) = 2 + 4 * p + 1 + 1 + 1 + 1 by omega]; exact C7'), ?_, ?_, ?_, ?_, ?_, ?_⟩
      · simp (disch := omega) only [gi_si, up_f, n7, n6, n5, n4]; exact p1
      · simp (disch := omega) only [gi_si, up_f, d7, d6, d5, d4]; exact p2
      · intro i hi
        simp (disch := omega) only [gi_si, up_f, s7, s6, s5, s4, up_s]
        by_cases e : i = p
        · rw [up_t e, e]
        · rw [up_f e]; exact p3 i (by omega)
      · intro i hi
        simp (disch := omega) only [gi_si, up_f, s7, s6, s5, s4, up_s]
        by_cases e : i = p
        · rw [up_t e, e]
        · rw [up_f e]; exact p4 i (by omega)
      · intro i hi
        simp (disch := omega) only [gi_si, up_f, s7, s6, s5, s4, up_s]
        by_cases e : i = p
        · rw [up_t e, e]
        · rw [up_f e]; exact p5 i (by omega)
      · intro i hi
        simp (disch := omega) only [gi_si, up_f, s7, s6, s5, s4, up_s]
        by_cases e : i = p
        · rw [up_t e, e]
        · rw [up_f e]; exact p6 i (by omega)
    · rintro L h3 ⟨⟨w, rfl, rfl⟩, C3, P3⟩
      (refine wp_go 600 ks_235_0.2.2.2.2.2.2.2.2.2.2.2.2.2.2.2.2.2.2.2.2.2.2.2 ?_; simp (disch := first | assumption | (simp only [ob_si, ar_si, ob_sl, ar_sl]; assumption) | omega) only [ci_0, ci_1, ci_36, ci_6, inc_i, ldA_a, ldI_i, oc_234, p_0, p_2, p_3, p_30, p_44, p_6, p_60, p_62, p_63, p_64, p_66, p_70, p_71, p_80_2, p_9, p_94, wpn_succ, wpn_zero, stp_h, lk_0, lk_s, st1_0, st1_1, st1_2, st2_0, st2_1, st2_2, kj_i, kj_a, kj_l, kj_n, cat_n, cat_i, cat_a, cat_u, cat_l, vc_i, vc_a, rv_s, tl_n, tl_s, Cal'_s, List.length_cons, List.length_nil, i0, i1, iNd, iN_lt, iN_le, iN_eq, iN_add, iN_mul, iN_mod, iN_sub, iN_div, iN_clamp, iN_inb, zle_N, zlt_N, zN_le, zN_lt, zN_eq, Nz_eq, mI_t, mI_f, bI_0, bI_1, bI_t, bI_f, dltT, dltF, dleT, dleF, deqT, deqF, Nat.not_lt_zero, not_true_eq_false, not_false_eq_true, true_and, and_true, false_and, and_false, or_true, true_or, false_or, or_false, and_self, if_true, if_false, Classical.not_not, Nat.add_assoc, Nat.zero_add, Nat.add_zero, bI_or, bI_True, bI_False, Bool.false_eq_true, reduceCtorEq, eq_self, gi_si, gl_si, gr_si, hn_si, hL_si, hX_si, gi_sl, gl_sl, gr_sl, hn_sl, ob_si, ar_si, ob_sl, ar_sl, ks_235_0, ks_235_1, ks_235_2, ks_235_3])
      refine wp_loop (fun k L h' => L = [some (.ref 87), some (.ref a), some (.int (bI (b = true))), some (.int (iN k))] ∧ Ci h a b x (26 + k) h' ∧ Pw h' x 6 ∧ ∀ j, j < k → gi h' 92 j = lay x (26 + j)) 36 ?_ ?_ 36 0 _ _ (by omega) ⟨rfl, C3, P3, fun j hj => by omega⟩
      · rintro k L h4 hk ⟨rfl, C4, P4, T4⟩ hn
        have B4 := C4.2.2.2.2.2.bs hB
        obtain ⟨oO, rO1, rO2, rO3, rO4, rO5, rO8, aO1, aO2, aO3, aO4, aO5, aO8, sO1, sO2, sO3, sO4, sO5, sO8⟩ := O_facts B4
        have hkk : lay x (26 + k) = iN (xQ x (k / 6) (k % 6)) := by
          have := lay_Q x (i := k / 6) (j := k % 6) (by omega) (by omega)
          rwa [show 6 * (k / 6) + k % 6 = k by omega] at this
        have hkA : ∀ {g : Hp}, Ao g x → gi g 92 k = lay x (26 + k) := by
          intro g A
          have := A.2.2.2.2.2.2 (k / 6) (k % 6) (by omega) (by omega)
          rw [show 6 * (k / 6) + k % 6 = k by omega] at this
          rw [hkk]; exact this
        obtain ⟨g5, r5, C5, s5, n5, d5⟩ := w_cy hB ha C4 (v := gi h4 92 k) (by omega) (fun e => hkA (C4.2.2.2.2.1 e))
        have C5' := C5.st (o := 92) (k := k) (v := lay x (26 + k)) (by omega) (by omega) (by omega) (fun e => by
          have := Ao_Q' (C5.2.2.2.2.1 e) (i := k / 6) (j := k % 6) (by omega) (by omega)
          rw [show 6 * (k / 6) + k % 6 = k by omega] at this
          rw [hkk]; exact this)
        have B5 := C5.2.2.2.2.2.bs hB
        have a5 : ar g5 1 92 := (O_facts B5).2.2.2.2.2.2.2.2.2.2.2.1
        (refine wp_go 600 ks_235_2.2.2.2.2.2.2.2.2.2.2.2.2.2.2.2.2.2.2.2.2.2.2.1 ?_; simp (disch := first | assumption | (simp only [ob_si, ar_si, ob_sl, ar_sl]; assumption) | omega) only [ci_0, ci_1, ci_36, ci_6, inc_i, ldA_a, ldI_i, oc_234, p_0, p_2, p_3, p_30, p_44, p_6, p_60, p_62, p_63, p_64, p_66, p_70, p_71, p_80_2, p_9, p_94, wpn_succ, wpn_zero, stp_h, lk_0, lk_s, st1_0, st1_1, st1_2, st2_0, st2_1, st2_2, kj_i, kj_a, kj_l, kj_n, cat_n, cat_i, cat_a, cat_u, cat_l, vc_i, vc_a, rv_s, tl_n, tl_s, Cal'_s, List.length_cons, List.length_nil, i0, i1, iNd, iN_lt, iN_le, iN_eq, iN_add, iN_mul, iN_mod, iN_sub, iN_div, iN_clamp, iN_inb, zle_N, zlt_N, zN_le, zN_lt, zN_eq, Nz_eq, mI_t, mI_f, bI_0, bI_1, bI_t, bI_f, dltT, dltF, dleT, dleF, deqT, deqF, Nat.not_lt_zero, not_true_eq_false, not_false_eq_true, true_and, and_true, false_and, and_false, or_true, true_or, false_or, or_false, and_self, if_true, if_false, Classical.not_not, Nat.add_assoc, Nat.zero_add, Nat.add_zero, bI_or, bI_True, bI_False, Bool.false_eq_true, reduceCtorEq, eq_self, gi_si, gl_si, gr_si, hn_si, hL_si, hX_si, gi_sl, gl_sl, gr_sl, hn_sl, ob_si, ar_si, ob_sl, ar_sl, ks_235_0, ks_235_1, ks_235_2, ks_235_3, oO, rO5, aO5, a5, Cal_eq r5])
        obtain ⟨p1, p2, p3, p4, p5, p6⟩ := P4
        refine hn _ _ ⟨rfl, C5', ⟨?_, ?_, ?_, ?_, ?_, ?_⟩, ?_⟩
        · simp (disch := omega) only [gi_si, up_f, n5]; exact p1
        · simp (disch := omega) only [gi_si, up_f, d5]; exact p2
        · simp (disch := omega) only [gi_si, up_f, s5]; exact p3
        · simp (disch := omega) only [gi_si, up_f, s5]; exact p4
        · simp (disch := omega) only [gi_si, up_f, s5]; exact p5
        · simp (disch := omega) only [gi_si, up_f, s5]; exact p6
        · intro j hj
          simp (disch := omega) only [gi_si, up_s, s5]
          by_cases e : j = k
          · rw [up_t e, e]
          · rw [up_f e]; exact T4 j (by omega)
      · rintro L h4 ⟨rfl, C4, P4, T4⟩
        obtain ⟨p1, p2, p3, p4, p5, p6⟩ := P4
        (refine wp_go 600 ks_235_2.2.2.2.2.2.2.2.2.2.2.2.2.2.2.2.2.2.2.2.2.2.2.1 ?_; simp (disch := first | assumption | (simp only [ob_si, ar_si, ob_sl, ar_sl]; assumption) | omega) only [ci_0, ci_1, ci_36, ci_6, inc_i, ldA_a, ldI_i, oc_234, p_0, p_2, p_3, p_30, p_44, p_6, p_60, p_62, p_63, p_64, p_66, p_70, p_71, p_80_2, p_9, p_94, wpn_succ, wpn_zero, stp_h, lk_0, lk_s, st1_0, st1_1, st1_2, st2_0, st2_1, st2_2, kj_i, kj_a, kj_l, kj_n, cat_n, cat_i, cat_a, cat_u, cat_l, vc_i, vc_a, rv_s, tl_n, tl_s, Cal'_s, List.length_cons, List.length_nil, i0, i1, iNd, iN_lt, iN_le, iN_eq, iN_add, iN_mul, iN_mod, iN_sub, iN_div, iN_clamp, iN_inb, zle_N, zlt_N, zN_le, zN_lt, zN_eq, Nz_eq, mI_t, mI_f, bI_0, bI_1, bI_t, bI_f, dltT, dltF, dleT, dleF, deqT, deqF, Nat.not_lt_zero, not_true_eq_false, not_false_eq_true, true_and, and_true, false_and, and_false, or_true, true_or, false_or, or_false, and_self, if_true, if_false, Classical.not_not, Nat.add_assoc, Nat.zero_add, Nat.add_zero, bI_or, bI_True, bI_False, Bool.false_eq_true, reduceCtorEq, eq_self, gi_si, gl_si, gr_si, hn_si, hL_si, hX_si, gi_sl, gl_sl, gr_sl, hn_sl, ob_si, ar_si, ob_sl, ar_sl, ks_235_0, ks_235_1, ks_235_2, ks_235_3])
        refine hQ _ ⟨p1, p2, p3, p4, p5, p6, ?_⟩ ?_ C4.2.2.2.2.2
        · intro i j hi hj; rw [T4 _ (by omega)]; exact lay_Q x hi hj
        · intro k hk; exact C4.2.2.2.1 k hk (Or.inl (by omega))
    · refine ⟨?_, ?_, fun i hi => by omega, fun i hi => by omega, fun i hi => by omega, fun i hi => by omega⟩
      · simp (disch := omega) only [gi_si, up_f, up_s, n2]
      · simp (disch := omega) only [gi_si, up_s]
  obtain ⟨v, h', r, rfl, A, K, f⟩ := Ret_ex (d := 1) (y := 235) (as := [.ref 87, .ref a, .int (bI (b = true))]) [some (.ref 87), some (.ref a), some (.int (bI (b = true))), none] rfl rfl (key (fun v h' => v = none ∧ Ao h' x ∧ Kx h' a x ∧ Fo (Sc a) Fc h h') fun h' a b c => ⟨rfl, a, b, c⟩)
  exact ⟨h', r, A, K, f⟩
