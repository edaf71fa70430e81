/-! away by chance -/
theorem kpa_sw (x : Mt) (a i j : Nat) : dyN (kpa x a i j) = dyN (kpa x a j i) := by
  have hh : ∀ t q, hrN (kpa x a i j) t q = hrN (kpa x a j i) t q := by
    intro t q
    unfold hrN kpa kpx
    simp only
    by_cases h1 : (if i = a then 0 else xH x i).testBit t = true
    · by_cases h2 : (if j = a then 0 else xH x j).testBit t = true
      · simp only [if_pos h1, if_pos h2, Nat.add_comm]
      · simp only [if_pos h1, if_neg h2]
    · by_cases h2 : (if j = a then 0 else xH x j).testBit t = true
      · simp only [if_neg h1, if_pos h2]
      · simp only [if_neg h1, if_neg h2]
  funext q
  unfold dyN
  congr 1
  funext t q
  exact hh t q
theorem dyB_Q {x : Mt} {a i j : Nat} (hi : i < xN x) (hj : j < xN x) : xQ (dyB x a 6) i j = if xM x i = j then dyN (kpa x a i j) (xQ x i j) else xQ x i j := by
  show lyQ x (dgB x a 6) (xN x) i j = _
  unfold lyQ
  by_cases e : xM x i = j
  · rw [if_pos ⟨hi, hj, e, Or.inl hi⟩, if_pos e]
    unfold dgB
    rw [if_neg (by omega)]
    by_cases l : i ≤ j
    · rw [show min i j = i by omega, show max i j = j by omega]
    · rw [show min i j = j by omega, show max i j = i by omega, kpa_sw]
  · rw [if_neg (fun q => e q.2.2.1), if_neg e]
theorem kpa_p {x : Mt} {i j : Nat} (hij : ¬ i = j) : kpa x i i j = (0, (kpx x i j).2) := by
  unfold kpa
  rw [if_pos rfl, if_neg (fun e => hij e.symm)]
  rfl
/-- days on some of which p is away, by the bits of g -/
noncomputable def awM (x : Mt) (p g : Nat) : Nat → Mt
  | 0 => x
  | k + 1 => dyB (awM x p g k) (if g.testBit k = true then p else 6) 6
theorem aw_s (x : Mt) (p g k : Nat) : awM x p g (k + 1) = dyB (awM x p g k) (if g.testBit k = true then p else 6) 6 := rfl
theorem aw_W {x : Mt} (hW : Wf x) (p g : Nat) : ∀ k, Wf (awM x p g k)
  | 0 => hW
  | k + 1 => wf_dyB (aw_W hW p g k) _ _
theorem aw_e (x : Mt) (p g : Nat) : ∀ k, xN (awM x p g k) = xN x ∧ xM (awM x p g k) = xM x ∧ xH (awM x p g k) = xH x ∧ xK (awM x p g k) = xK x ∧ xF (awM x p g k) = xF x
  | 0 => ⟨rfl, rfl, rfl, rfl, rfl⟩
  | k + 1 => aw_e x p g k
theorem aw_k (x : Mt) (p g k a i j : Nat) : kpa (awM x p g k) a i j = kpa x a i j := by
  obtain ⟨_, _, h3, h4, h5⟩ := aw_e x p g k
  unfold kpa kpx
  rw [h3, h4, h5]
noncomputable def aSt (c c0 : Kp) (g k q : Nat) : Nat := if g.testBit k = true then dyN c0 q else dyN c q
noncomputable def aOd (t g k o : Nat) : Nat := if g.testBit k = true then o else o * (t - 1)
theorem aw_Q {x : Mt} {p q g : Nat} (hp : p < xN x) (hq : q < xN x) (hpq : ¬ p = q) (hn : xN x ≤ 6) (e : xM x p = q) : ∀ k, xQ (awM x p g k) p q = itr (aSt (kpx x p q) (0, (kpx x p q).2) g) 0 k (xQ x p q)
  | 0 => rfl
  | k + 1 => by
    obtain ⟨h1, h2, _, _, _⟩ := aw_e x p g k
    rw [aw_s, dyB_Q (by rw [h1]; exact hp) (by rw [h1]; exact hq), h2, if_pos e, aw_k, itr_last, Nat.zero_add, ← aw_Q hp hq hpq hn e k]
    unfold aSt
    by_cases hb : g.testBit k = true
    · rw [if_pos hb, if_pos hb, kpa_p hpq]
    · rw [if_neg hb, if_neg hb, kpa_6 x (by omega) (by omega)]
theorem aw_Q0 {x : Mt} {p q g : Nat} (hp : p < xN x) (hq : q < xN x) (e : ¬ xM x p = q) : ∀ k, xQ (awM x p g k) p q = xQ x p q
  | 0 => rfl
  | k + 1 => by
    obtain ⟨h1, h2, _, _, _⟩ := aw_e x p g k
    rw [aw_s, dyB_Q (by rw [h1]; exact hp) (by rw [h1]; exact hq), h2, if_neg e]
    exact aw_Q0 hp hq e k
theorem itr_sh {α : Type} (f : Nat → α → α) : ∀ (k i : Nat) (a : α), itr f (i + 1) k a = itr (fun j => f (j + 1)) i k a
  | 0, _, _ => rfl
  | k + 1, i, a => by rw [itr_s, itr_s]; exact itr_sh f k (i + 1) _
theorem tb_half (g k : Nat) : g.testBit (k + 1) = (g / 2).testBit k := Nat.testBit_succ g k
theorem aSt_sh (c c0 : Kp) (g n q : Nat) : itr (aSt c c0 g) 0 (n + 1) q = itr (aSt c c0 (g / 2)) 0 n (aSt c c0 g 0 q) := by
  rw [itr_s, itr_sh]
  congr 1
  funext k a
  unfold aSt
  rw [tb_half]
theorem aOd_sh (t g n o : Nat) : itr (aOd t g) 0 (n + 1) o = itr (aOd t (g / 2)) 0 n (aOd t g 0 o) := by
  rw [itr_s, itr_sh]
  congr 1
  funext k a
  unfold aOd
  rw [tb_half]
theorem aOd_m (t g : Nat) : ∀ (n i o w : Nat), itr (aOd t g) i n (o * w) = o * itr (aOd t g) i n w
  | 0, _, _, _ => rfl
  | n + 1, i, o, w => by
    rw [itr_s, itr_s]
    have e : aOd t g i (o * w) = o * aOd t g i w := by
      unfold aOd
      split
      · rfl
      · rw [Nat.mul_assoc]
    rw [e]; exact aOd_m t g n (i + 1) o _
noncomputable def sN2 (f : Nat → Nat) : Nat → Nat
  | 0 => 0
  | n + 1 => sN2 f n + f n
theorem sN2_cg {f g : Nat → Nat} : ∀ n, (∀ i, i < n → f i = g i) → sN2 f n = sN2 g n
  | 0, _ => rfl
  | n + 1, h => by
    show sN2 f n + f n = sN2 g n + g n
    rw [sN2_cg n (fun i hi => h i (by omega)), h n (by omega)]
theorem sN2_eo (f : Nat → Nat) : ∀ m, sN2 f (2 * m) = sN2 (fun i => f (2 * i)) m + sN2 (fun i => f (2 * i + 1)) m
  | 0 => rfl
  | m + 1 => by
    show sN2 f (2 * m + 1) + f (2 * m + 1) = _
    show sN2 f (2 * m) + f (2 * m) + f (2 * m + 1) = (sN2 (fun i => f (2 * i)) m + f (2 * m)) + (sN2 (fun i => f (2 * i + 1)) m + f (2 * m + 1))
    rw [sN2_eo f m]; omega
theorem sN2_mul (c : Nat) (f : Nat → Nat) : ∀ m, sN2 (fun i => c * f i) m = c * sN2 f m
  | 0 => rfl
  | m + 1 => by
    show sN2 (fun i => c * f i) m + c * f m = c * (sN2 f m + f m)
    rw [sN2_mul c f m, Nat.mul_add]
noncomputable def awT (c c0 : Kp) (t n q : Nat) (P : Nat → Nat) (g : Nat) : Nat := itr (aOd t g) 0 n 1 * P (itr (aSt c c0 g) 0 n q)
theorem aw_sum (c c0 : Kp) (t : Nat) (P : Nat → Nat) : ∀ (n q : Nat), sN2 (awT c c0 t n q P) (2 ^ n) = rp (bkT c c0 t) n P q
  | 0, q => by
    show 0 + 1 * P q = P q
    omega
  | n + 1, q => by
    rw [Nat.pow_succ, Nat.mul_comm, sN2_eo, rp_s]
    show _ = (t - 1) * rp (bkT c c0 t) n P (dyN c q) + rp (bkT c c0 t) n P (dyN c0 q)
    rw [← aw_sum c c0 t P n (dyN c q), ← aw_sum c c0 t P n (dyN c0 q), ← sN2_mul]
    congr 1
    · refine sN2_cg _ fun g _ => ?_
      unfold awT
      have hb : ¬ (2 * g).testBit 0 = true := by rw [Nat.testBit_zero, decide_eq_true_eq]; omega
      rw [aSt_sh, aOd_sh, show 2 * g / 2 = g by omega, show aSt c c0 (2 * g) 0 q = dyN c q from if_neg hb, show aOd t (2 * g) 0 1 = (t - 1) * 1 from (if_neg hb).trans (Nat.mul_comm _ _), aOd_m, Nat.mul_assoc]
    · refine sN2_cg _ fun g _ => ?_
      unfold awT
      have hb : (2 * g + 1).testBit 0 = true := by rw [Nat.testBit_zero, decide_eq_true_eq]; omega
      rw [aSt_sh, aOd_sh, show (2 * g + 1) / 2 = g by omega, show aSt c c0 (2 * g + 1) 0 q = dyN c0 q from if_pos hb, show aOd t (2 * g + 1) 0 1 = 1 from if_pos hb]
noncomputable def inV (v q : Nat) : Nat := if q ≤ v then 1 else 0
/-- the model's sum -/
noncomputable def awN (x : Mt) (p q v n t : Nat) : Nat := sN2 (fun g => itr (aOd t g) 0 n 1 * inV v (xQ (awM x p g n) p q)) (2 ^ n)
theorem aw_mat {x : Mt} {p q v n t : Nat} (hp : p < xN x) (hq : q < xN x) (hpq : ¬ p = q) (hn : xN x ≤ 6) (e : xM x p = q) : awN x p q v n t = rp (bkT (kpx x p q) (0, (kpx x p q).2) t) n (inV v) (xQ x p q) := by
  rw [← aw_sum]
  refine sN2_cg _ fun g _ => ?_
  rw [aw_Q hp hq hpq hn e]
  rfl
theorem od_all (c c0 : Kp) {t : Nat} (ht : 1 ≤ t) (n q : Nat) : sN2 (fun g => itr (aOd t g) 0 n 1) (2 ^ n) = t ^ n := by
  have h := aw_sum c c0 t one1 n q
  rw [bk_1 c c0 ht n q] at h
  rw [← h]
  refine sN2_cg _ fun g _ => ?_
  unfold awT one1
  omega
theorem aw_off {x : Mt} {p q v n t : Nat} (hp : p < xN x) (hq : q < xN x) (e : ¬ xM x p = q) (ht : 1 ≤ t) : awN x p q v n t = t ^ n * inV v (xQ x p q) := by
  rw [← od_all (kpx x p q) (kpx x p q) ht n 0, Nat.mul_comm, ← sN2_mul]
  refine sN2_cg _ fun g _ => ?_
  rw [aw_Q0 hp hq e, Nat.mul_comm]
theorem pr_in (W : Nat → Nat) {v : Nat} (hv : v ≤ 99) : pr W one1 (v + 1) = pr W (inV v) 100 := by
  have h : ∀ k, pr W (inV v) k = pr W one1 (min k (v + 1)) := by
    intro k
    induction k with
    | zero => rw [show min 0 (v + 1) = 0 by omega]; rfl
    | succ k ih =>
      rw [pr_s, ih]
      unfold inV
      by_cases hk : k ≤ v
      · rw [if_pos hk, show min (k + 1) (v + 1) = min k (v + 1) + 1 by omega, pr_s, show min k (v + 1) = k by omega]
        rfl
      · rw [if_neg hk, show min (k + 1) (v + 1) = min k (v + 1) by omega]
        omega
  rw [h 100, show min 100 (v + 1) = v + 1 by omega]
theorem gcd_aa {a : Nat} (ha : ¬ a = 0) : gcdN a a = a := by
  have h := eu_at (a := a) (b := a) (k := 1) (by omega) (by
    show (euS (a, a)).2 = 0
    rw [euS_s (a := (a, a)) ha]
    exact Nat.mod_self a)
  rw [← h]
  show (euS (a, a)).1 = a
  rw [euS_s (a := (a, a)) ha]
theorem wg_sum {x : Mt} (hW : Wf x) {p q v n t : Nat} (hp : p < xN x) (hq : q < xN x) (hpq : ¬ p = q) (hv : v ≤ 99) (ht : 2 ≤ t) (part : Nat) : lowT (pr (wgN x p q t n) one1 (v + 1)) (if xM x p = q then t ^ n else 1) part = lowT (awN x p q v n t) (t ^ n) part := by
  have hb := hW.2.2.2.2.2.1 p q
  by_cases e : xM x p = q
  · rw [if_pos e, aw_mat hp hq hpq hW.1 e, pr_in _ hv]
    unfold wgN wkW
    rw [if_pos e, pr_n, pr_dl, if_pos (by omega)]
  · have hpos : 0 < t ^ n := Nat.pow_pos (by omega)
    rw [if_neg e, aw_off hp hq e (by omega), pr_in _ hv]
    unfold wgN
    rw [if_neg e, pr_dl, if_pos (by omega)]
    unfold inV
    by_cases h : xQ x p q ≤ v
    · have e1 : ∀ a, ¬ a = 0 → lowT a a part = 1 := by
        intro a ha
        unfold lowT
        rw [if_neg ha, gcd_aa ha, ite_self, Nat.div_self (by omega)]
      rw [if_pos h, Nat.mul_one, e1 1 (by omega), e1 (t ^ n) (by omega)]
    · rw [if_neg h, Nat.mul_zero]
      unfold lowT
      rw [if_pos rfl, if_pos rfl]
theorem aw_le {x : Mt} {p q v n t : Nat} (ht : 1 ≤ t) : awN x p q v n t ≤ t ^ n := by
  rw [← od_all (0, 0, 0, 0, 0) (0, 0, 0, 0, 0) ht n 0]
  have h : ∀ m, sN2 (fun g => itr (aOd t g) 0 n 1 * inV v (xQ (awM x p g n) p q)) m ≤ sN2 (fun g => itr (aOd t g) 0 n 1) m := by
    intro m
    induction m with
    | zero => exact Nat.le_refl _
    | succ m ih =>
      refine Nat.add_le_add ih ?_
      show itr (aOd t m) 0 n 1 * inV v (xQ (awM x p m n) p q) ≤ itr (aOd t m) 0 n 1
      unfold inV
      split <;> omega
  exact h _
theorem sN2_le (f : Nat → Nat) {a b : Nat} (h : a ≤ b) : sN2 f a ≤ sN2 f b := by
  induction b with
  | zero => rw [show a = 0 by omega]; exact Nat.le_refl _
  | succ b ih =>
    by_cases e : a = b + 1
    · rw [e]; exact Nat.le_refl _
    · exact Nat.le_trans (ih (by omega)) (Nat.le_add_right _ _)
theorem aOd_le {t g : Nat} (ht : 1 ≤ t) : ∀ (k i o : Nat), itr (aOd t g) i k o ≤ o * t ^ k
  | 0, _, o => by rw [itr_0, Nat.pow_zero]; omega
  | k + 1, i, o => by
    rw [itr_s, Nat.pow_succ, Nat.mul_comm (t ^ k) t, ← Nat.mul_assoc]
    refine Nat.le_trans (aOd_le ht k (i + 1) _) (Nat.mul_le_mul_right _ ?_)
    unfold aOd
    split
    · exact Nat.le_mul_of_pos_right _ (by omega)
    · exact Nat.mul_le_mul_left _ (by omega)
theorem wpn_pow {t : Nat} (i : Nat) : jN (t ^ i) * jN t = jN (t ^ (i + 1)) := by rw [jN_mul, Nat.pow_succ]
theorem IC_w31 {h h' : Hp} {s : Gs} (hI : IC h s) (f : Fr (fun o => Sz o ∨ o = 31) h h') (hw : Wt h' 31 (fun _ => 0)) : IC h' s := by
  obtain ⟨a, b, ⟨nx, c⟩, d, e, g, w⟩ := hI
  refine ⟨a.fr f ?_, b.fr f ?_ ?_, ⟨nx, c.fr f ?_⟩, d.fr f ?_ ?_, e.fr f ?_ ?_, ?_, hw⟩
  · intro o h1 h2; unfold Sz; omega
  · unfold Sz; omega
  · intro o h1 h2; unfold Sz; omega
  · intro o h1 h2; unfold Sz; omega
  · unfold Sz; omega
  · unfold Sz; omega
  · unfold Sz; omega
  · unfold Sz; omega
  · rw [f.i (by unfold Sz; omega)]; exact g
theorem away_query {yc ym : Nat} {as : List Value} {s : Gs} (hs : GW s) {v : Value} (hc : ∀ h, Bs h → IC h s → ∃ h', Ret 14 yc (.ref 0 :: as) h (some v) h' ∧ Wt h' 31 (fun _ => 0) ∧ Fr (fun o => Sz o ∨ o = 31) h h') (hm : ∀ h, Bs h → IO h s → ∃ h', Ret 14 ym (.ref 87 :: as) h (some v) h' ∧ Ao h' (gX s) ∧ Fo Sy Fy h h') (hv : kdV yc v := by first | (show ∃ x, _ = Value.int x; exact ⟨_, rfl⟩) | (show ∃ x, _ = Value.long x; exact ⟨_, rfl⟩)) : OpOk yc ym as s := by
  refine ⟨v, s, hv, hs, fun h hB hI => ?_, fun h hB hI => ?_⟩
  · obtain ⟨h', r, w, f⟩ := hc h hB hI
    exact ⟨h', r, IC_w31 hI f w, f.mono fun o ho => by unfold Sz at ho; unfold Lc87; omega⟩
  · obtain ⟨h', r, A, f⟩ := hm h hB hI
    exact ⟨h', r, ⟨A, hI.2.fr f⟩, f.gc fun o ho => by unfold Sy at ho; omega⟩
theorem isP_hi {n : Nat} {p : Int32} (h : isP (n + 1) p) (hn : n < 1000000 := by omega) : ¬ iN n < p ∧ p ≤ iN n := by
  obtain ⟨i, hi, rfl⟩ := h
  have e : ¬ iN n < iN i := by rw [iN_lt (by omega) (by omega)]; omega
  exact ⟨e, Int32.not_lt.mp e⟩
theorem ex_le2 {c : Int32} {k : Nat} (h0 : ¬ c < iN 2) (h1 : ¬ iN k < c) (hk : k < 1000000) : ∃ n, 2 ≤ n ∧ n ≤ k ∧ c = iN n := by
  have h2 : ¬ c < iN 0 := by
    intro q
    apply h0
    rw [Int32.lt_iff_toInt_lt, iN_toInt (by omega)] at *
    omega
  obtain ⟨n, hn, rfl⟩ := ex_le h2 h1 (by omega)
  rw [iN_lt (by omega) (by omega)] at h0
  exact ⟨n, by omega, hn, rfl⟩
theorem r_32z (F : Nat → Lc → List Value → Hp → Prop) (d y : Nat) (Q : Option Value → Hp → Prop) (pc : Nat) (L : Lc) (h : Hp) (i np c : Nat) (v : Int) (cs : List (Int × Nat)) (st : List Value) : stp F d y Q pc L (.int (iN 0) :: st) h (some ((32, i, np, c, v, cs), false)) = F np L st h := (r_32 F d y Q pc L h i np c v cs (iN 0) st).trans (if_neg (fun e => e i0.symm))
set_option maxHeartbeats 8000000 in
theorem op_away {s : Gs} (hs : GW s) (a b c d e f : Int32) : OpOk 172 278 [.int a, .int b, .int c, .int d, .int e, .int f] s := by
  by_cases hT : isT (xN (gX s)) a b
  · obtain ⟨p, q, hi, hj, hij, rfl, rfl⟩ := hT
    by_cases c0 : c < iN 0
    · obtain ⟨c1, c2⟩ := raw_lt c0
      refine op_refuse hs (k := 4) (by decide) (v := .long (jN 4000000000000000000 - (zI (-4)).toInt64)) (fun h hB hI => Ret.up (d := 5) ?_ (by decide)) (fun h hB hI => Ret.up (d := 3) ?_ (by decide))
      · obtain ⟨oF, g0, g1, g2, g4, g5, g6, g7, g8, g9, g10, g11, g12, g13, o21, o22, o23, o28, o29, o32, o34, o36, oM⟩ := F_facts hB; obtain ⟨hA, iI, ⟨nx, hP⟩, hR, hL, hF, hT⟩ := id hI; have hW := hs.1; have hm : isM 1 := Or.inl rfl; have wN := hW.1
        refine Ret_L [some (.ref 0), some (.int (iN p)), some (.int (iN q)), some (.int c), some (.int d), some (.int e), some (.int f), none] rfl rfl fun Q hQ => ?_
        (refine wp_go 600 ks_172_0.1 ?_; simp (disch := first | with_reducible assumption | omega | (simp only [ob_si, ar_si, ob_sl, ar_sl]; with_reducible assumption)) only [ci_0, ci_1, ci_2, ci_20, ci_8, ci_99, cl_4000000000000000000, cm_1, cm_2, cm_4, cm_6, iN_l, jN_add, jN_div, jN_eq, jN_le, jN_lt, jN_mod, jN_mul, jN_sub, l0, lc_eq, lc_ge, lc_gt, lc_le, lc_lt, ldA_a, ldI_i, oc_1, oc_191, oc_2, oc_26, oc_3, r_0, r_2, r_22, r_27, r_3, r_30, r_31, r_32, r_33, r_44, r_45, r_46, r_6, r_62, r_7, r_80_1, r_80_2, r_80_3, r_80_5, r_81_3, r_92, wpn_S, wpn_zero, stp_h, lk_0, lk_s, st1_0, st1_1, st1_2, st2_0, st2_1, st2_2, kj_i, kj_a, kj_l, kj_n, cat_n, cat_i, cat_a, cat_u, cat_l, vc_i, vc_a, rv_s, tl_n, tl_s, Cal'_s, List.length_cons, List.length_nil, i0, i1, iNd, iN_lt, iN_le, iN_eq, iN_add, iN_mul, iN_mod, iN_sub, iN_div, iN_clamp, iN_inb, zle_N, zlt_N, zN_le, zN_lt, zN_eq, Nz_eq, mI_t, mI_f, bI_0, bI_1, bI_t, bI_f, dltT, dltF, dleT, dleF, deqT, deqF, Nat.not_lt_zero, not_true_eq_false, not_false_eq_true, true_and, and_true, false_and, and_false, or_true, true_or, false_or, or_false, and_self, if_true, if_false, Classical.not_not, Nat.add_assoc, Nat.zero_add, Nat.add_zero, bI_or, bI_True, bI_False, Bool.false_eq_true, reduceCtorEq, eq_self, gi_si, gl_si, gr_si, hn_si, hL_si, hX_si, gi_sl, gl_sl, gr_sl, hn_sl, ob_si, ar_si, ob_sl, ar_sl, ks_172_0, ks_172_1, ks_172_2, ks_172_3, oF, g0, g1, g2, g4, g5, g6, g7, g8, g9, g10, g11, g12, g13, o21, o22, o23, o28, o29, o32, o34, o36, oM, oM, c_areT_q hm hB hA hW, hij, c1, c2, c_ref4_q hB])
        exact hQ
      · have oO := (O_facts hB).1; obtain ⟨hA, hIr, f0⟩ := IO_0 hI; replace hB := Bs.si hB 87 7 (iN 0); have hW := hs.1; obtain ⟨oO2, rO1, rO2, rO3, rO4, rO5, rO8, aO1, aO2, aO3, aO4, aO5, aO8, sO1, sO2, sO3, sO4, sO5, sO8⟩ := O_facts hB; obtain ⟨fN, fD, fK, fF, fH, fM, fQ⟩ := id hA; obtain ⟨wN, wK, wF, wH, wM, wQ, wS, wZ, wT⟩ := id hW
        refine Ret_L [some (.ref 87), some (.int (iN p)), some (.int (iN q)), some (.int c), some (.int d), some (.int e), some (.int f), none, none, none, none, none, none, none, none, none] rfl rfl fun Q hQ => ?_
        (refine wp_go 600 ks_278_0.1 ?_; simp (disch := first | with_reducible assumption | omega | (simp only [ob_si, ar_si, ob_sl, ar_sl]; with_reducible assumption)) only [ci_0, ci_1, ci_2, ci_20, ci_8, ci_99, cl_0, cl_1, cl_4000000000000000000, cm_1, cm_4, cm_6, cm_9, iN_l, inc_i, jN_add, jN_div, jN_eq, jN_le, jN_lt, jN_mod, jN_mul, jN_sub, l0, lc_eq, lc_ge, lc_gt, lc_le, lc_lt, ldA_a, ldI_i, ldL_l, oc_201, oc_203, oc_212, oc_217, oc_236, oc_237, r_0, r_1, r_11, r_15, r_2, r_21, r_22, r_23, r_27, r_3, r_30, r_31, r_32, r_33, r_34, r_4, r_44, r_45, r_46, r_6, r_63, r_7, r_80_1, r_80_2, r_80_3, r_81_2, r_81_3, r_9, r_92, wpn_S, wpn_zero, stp_h, lk_0, lk_s, st1_0, st1_1, st1_2, st2_0, st2_1, st2_2, kj_i, kj_a, kj_l, kj_n, cat_n, cat_i, cat_a, cat_u, cat_l, vc_i, vc_a, rv_s, tl_n, tl_s, Cal'_s, List.length_cons, List.length_nil, i0, i1, iNd, iN_lt, iN_le, iN_eq, iN_add, iN_mul, iN_mod, iN_sub, iN_div, iN_clamp, iN_inb, zle_N, zlt_N, zN_le, zN_lt, zN_eq, Nz_eq, mI_t, mI_f, bI_0, bI_1, bI_t, bI_f, dltT, dltF, dleT, dleF, deqT, deqF, Nat.not_lt_zero, not_true_eq_false, not_false_eq_true, true_and, and_true, false_and, and_false, or_true, true_or, false_or, or_false, and_self, if_true, if_false, Classical.not_not, Nat.add_assoc, Nat.zero_add, Nat.add_zero, bI_or, bI_True, bI_False, Bool.false_eq_true, reduceCtorEq, eq_self, gi_si, gl_si, gr_si, hn_si, hL_si, hX_si, gi_sl, gl_sl, gr_sl, hn_sl, ob_si, ar_si, ob_sl, ar_sl, ks_278_0, ks_278_1, ks_278_2, ks_278_3, ks_278_4, ks_278_5, oO, oO, o_two_q hB hA hW, isT_N, o_wb0_q, c1, c2, o_ref4_q hB, o_wb_q])
        exact hQ
    · obtain ⟨c1, c2⟩ := raw_ge c0
      by_cases d0 : d < iN 0
      · obtain ⟨d1, d2⟩ := raw_lt d0
        refine op_refuse hs (k := 4) (by decide) (v := .long (jN 4000000000000000000 - (zI (-4)).toInt64)) (fun h hB hI => Ret.up (d := 5) ?_ (by decide)) (fun h hB hI => Ret.up (d := 3) ?_ (by decide))
        · obtain ⟨oF, g0, g1, g2, g4, g5, g6, g7, g8, g9, g10, g11, g12, g13, o21, o22, o23, o28, o29, o32, o34, o36, oM⟩ := F_facts hB; obtain ⟨hA, iI, ⟨nx, hP⟩, hR, hL, hF, hT⟩ := id hI; have hW := hs.1; have hm : isM 1 := Or.inl rfl; have wN := hW.1
          refine Ret_L [some (.ref 0), some (.int (iN p)), some (.int (iN q)), some (.int c), some (.int d), some (.int e), some (.int f), none] rfl rfl fun Q hQ => ?_
          (refine wp_go 600 ks_172_0.1 ?_; simp (disch := first | with_reducible assumption | omega | (simp only [ob_si, ar_si, ob_sl, ar_sl]; with_reducible assumption)) only [ci_0, ci_1, ci_2, ci_20, ci_8, ci_99, cl_4000000000000000000, cm_1, cm_2, cm_4, cm_6, iN_l, jN_add, jN_div, jN_eq, jN_le, jN_lt, jN_mod, jN_mul, jN_sub, l0, lc_eq, lc_ge, lc_gt, lc_le, lc_lt, ldA_a, ldI_i, oc_1, oc_191, oc_2, oc_26, oc_3, r_0, r_2, r_22, r_27, r_3, r_30, r_31, r_32, r_33, r_44, r_45, r_46, r_6, r_62, r_7, r_80_1, r_80_2, r_80_3, r_80_5, r_81_3, r_92, wpn_S, wpn_zero, stp_h, lk_0, lk_s, st1_0, st1_1, st1_2, st2_0, st2_1, st2_2, kj_i, kj_a, kj_l, kj_n, cat_n, cat_i, cat_a, cat_u, cat_l, vc_i, vc_a, rv_s, tl_n, tl_s, Cal'_s, List.length_cons, List.length_nil, i0, i1, iNd, iN_lt, iN_le, iN_eq, iN_add, iN_mul, iN_mod, iN_sub, iN_div, iN_clamp, iN_inb, zle_N, zlt_N, zN_le, zN_lt, zN_eq, Nz_eq, mI_t, mI_f, bI_0, bI_1, bI_t, bI_f, dltT, dltF, dleT, dleF, deqT, deqF, Nat.not_lt_zero, not_true_eq_false, not_false_eq_true, true_and, and_true, false_and, and_false, or_true, true_or, false_or, or_false, and_self, if_true, if_false, Classical.not_not, Nat.add_assoc, Nat.zero_add, Nat.add_zero, bI_or, bI_True, bI_False, Bool.false_eq_true, reduceCtorEq, eq_self, gi_si, gl_si, gr_si, hn_si, hL_si, hX_si, gi_sl, gl_sl, gr_sl, hn_sl, ob_si, ar_si, ob_sl, ar_sl, ks_172_0, ks_172_1, ks_172_2, ks_172_3, oF, g0, g1, g2, g4, g5, g6, g7, g8, g9, g10, g11, g12, g13, o21, o22, o23, o28, o29, o32, o34, o36, oM, oM, c_areT_q hm hB hA hW, hij, c1, c2, d1, d2, c_ref4_q hB])
          exact hQ
        · have oO := (O_facts hB).1; obtain ⟨hA, hIr, f0⟩ := IO_0 hI; replace hB := Bs.si hB 87 7 (iN 0); have hW := hs.1; obtain ⟨oO2, rO1, rO2, rO3, rO4, rO5, rO8, aO1, aO2, aO3, aO4, aO5, aO8, sO1, sO2, sO3, sO4, sO5, sO8⟩ := O_facts hB; obtain ⟨fN, fD, fK, fF, fH, fM, fQ⟩ := id hA; obtain ⟨wN, wK, wF, wH, wM, wQ, wS, wZ, wT⟩ := id hW
          refine Ret_L [some (.ref 87), some (.int (iN p)), some (.int (iN q)), some (.int c), some (.int d), some (.int e), some (.int f), none, none, none, none, none, none, none, none, none] rfl rfl fun Q hQ => ?_
          (refine wp_go 600 ks_278_0.1 ?_; simp (disch := first | with_reducible assumption | omega | (simp only [ob_si, ar_si, ob_sl, ar_sl]; with_reducible assumption)) only [ci_0, ci_1, ci_2, ci_20, ci_8, ci_99, cl_0, cl_1, cl_4000000000000000000, cm_1, cm_4, cm_6, cm_9, iN_l, inc_i, jN_add, jN_div, jN_eq, jN_le, jN_lt, jN_mod, jN_mul, jN_sub, l0, lc_eq, lc_ge, lc_gt, lc_le, lc_lt, ldA_a, ldI_i, ldL_l, oc_201, oc_203, oc_212, oc_217, oc_236, oc_237, r_0, r_1, r_11, r_15, r_2, r_21, r_22, r_23, r_27, r_3, r_30, r_31, r_32, r_33, r_34, r_4, r_44, r_45, r_46, r_6, r_63, r_7, r_80_1, r_80_2, r_80_3, r_81_2, r_81_3, r_9, r_92, wpn_S, wpn_zero, stp_h, lk_0, lk_s, st1_0, st1_1, st1_2, st2_0, st2_1, st2_2, kj_i, kj_a, kj_l, kj_n, cat_n, cat_i, cat_a, cat_u, cat_l, vc_i, vc_a, rv_s, tl_n, tl_s, Cal'_s, List.length_cons, List.length_nil, i0, i1, iNd, iN_lt, iN_le, iN_eq, iN_add, iN_mul, iN_mod, iN_sub, iN_div, iN_clamp, iN_inb, zle_N, zlt_N, zN_le, zN_lt, zN_eq, Nz_eq, mI_t, mI_f, bI_0, bI_1, bI_t, bI_f, dltT, dltF, dleT, dleF, deqT, deqF, Nat.not_lt_zero, not_true_eq_false, not_false_eq_true, true_and, and_true, false_and, and_false, or_true, true_or, false_or, or_false, and_self, if_true, if_false, Classical.not_not, Nat.add_assoc, Nat.zero_add, Nat.add_zero, bI_or, bI_True, bI_False, Bool.false_eq_true, reduceCtorEq, eq_self, gi_si, gl_si, gr_si, hn_si, hL_si, hX_si, gi_sl, gl_sl, gr_sl, hn_sl, ob_si, ar_si, ob_sl, ar_sl, ks_278_0, ks_278_1, ks_278_2, ks_278_3, ks_278_4, ks_278_5, oO, oO, o_two_q hB hA hW, isT_N, o_wb0_q, c1, c2, d1, d2, o_ref4_q hB, o_wb_q])
          exact hQ
      · obtain ⟨d1, d2⟩ := raw_ge d0
        by_cases e0 : e < iN 2
        · obtain ⟨e1, e2⟩ := raw_lt e0
          refine op_refuse hs (k := 4) (by decide) (v := .long (jN 4000000000000000000 - (zI (-4)).toInt64)) (fun h hB hI => Ret.up (d := 5) ?_ (by decide)) (fun h hB hI => Ret.up (d := 3) ?_ (by decide))
          · obtain ⟨oF, g0, g1, g2, g4, g5, g6, g7, g8, g9, g10, g11, g12, g13, o21, o22, o23, o28, o29, o32, o34, o36, oM⟩ := F_facts hB; obtain ⟨hA, iI, ⟨nx, hP⟩, hR, hL, hF, hT⟩ := id hI; have hW := hs.1; have hm : isM 1 := Or.inl rfl; have wN := hW.1
            refine Ret_L [some (.ref 0), some (.int (iN p)), some (.int (iN q)), some (.int c), some (.int d), some (.int e), some (.int f), none] rfl rfl fun Q hQ => ?_
            (refine wp_go 600 ks_172_0.1 ?_; simp (disch := first | with_reducible assumption | omega | (simp only [ob_si, ar_si, ob_sl, ar_sl]; with_reducible assumption)) only [ci_0, ci_1, ci_2, ci_20, ci_8, ci_99, cl_4000000000000000000, cm_1, cm_2, cm_4, cm_6, iN_l, jN_add, jN_div, jN_eq, jN_le, jN_lt, jN_mod, jN_mul, jN_sub, l0, lc_eq, lc_ge, lc_gt, lc_le, lc_lt, ldA_a, ldI_i, oc_1, oc_191, oc_2, oc_26, oc_3, r_0, r_2, r_22, r_27, r_3, r_30, r_31, r_32, r_33, r_44, r_45, r_46, r_6, r_62, r_7, r_80_1, r_80_2, r_80_3, r_80_5, r_81_3, r_92, wpn_S, wpn_zero, stp_h, lk_0, lk_s, st1_0, st1_1, st1_2, st2_0, st2_1, st2_2, kj_i, kj_a, kj_l, kj_n, cat_n, cat_i, cat_a, cat_u, cat_l, vc_i, vc_a, rv_s, tl_n, tl_s, Cal'_s, List.length_cons, List.length_nil, i0, i1, iNd, iN_lt, iN_le, iN_eq, iN_add, iN_mul, iN_mod, iN_sub, iN_div, iN_clamp, iN_inb, zle_N, zlt_N, zN_le, zN_lt, zN_eq, Nz_eq, mI_t, mI_f, bI_0, bI_1, bI_t, bI_f, dltT, dltF, dleT, dleF, deqT, deqF, Nat.not_lt_zero, not_true_eq_false, not_false_eq_true, true_and, and_true, false_and, and_false, or_true, true_or, false_or, or_false, and_self, if_true, if_false, Classical.not_not, Nat.add_assoc, Nat.zero_add, Nat.add_zero, bI_or, bI_True, bI_False, Bool.false_eq_true, reduceCtorEq, eq_self, gi_si, gl_si, gr_si, hn_si, hL_si, hX_si, gi_sl, gl_sl, gr_sl, hn_sl, ob_si, ar_si, ob_sl, ar_sl, ks_172_0, ks_172_1, ks_172_2, ks_172_3, oF, g0, g1, g2, g4, g5, g6, g7, g8, g9, g10, g11, g12, g13, o21, o22, o23, o28, o29, o32, o34, o36, oM, oM, c_areT_q hm hB hA hW, hij, c1, c2, d1, d2, e1, e2, c_ref4_q hB])
            exact hQ
          · have oO := (O_facts hB).1; obtain ⟨hA, hIr, f0⟩ := IO_0 hI; replace hB := Bs.si hB 87 7 (iN 0); have hW := hs.1; obtain ⟨oO2, rO1, rO2, rO3, rO4, rO5, rO8, aO1, aO2, aO3, aO4, aO5, aO8, sO1, sO2, sO3, sO4, sO5, sO8⟩ := O_facts hB; obtain ⟨fN, fD, fK, fF, fH, fM, fQ⟩ := id hA; obtain ⟨wN, wK, wF, wH, wM, wQ, wS, wZ, wT⟩ := id hW
            refine Ret_L [some (.ref 87), some (.int (iN p)), some (.int (iN q)), some (.int c), some (.int d), some (.int e), some (.int f), none, none, none, none, none, none, none, none, none] rfl rfl fun Q hQ => ?_
            (refine wp_go 600 ks_278_0.1 ?_; simp (disch := first | with_reducible assumption | omega | (simp only [ob_si, ar_si, ob_sl, ar_sl]; with_reducible assumption)) only [ci_0, ci_1, ci_2, ci_20, ci_8, ci_99, cl_0, cl_1, cl_4000000000000000000, cm_1, cm_4, cm_6, cm_9, iN_l, inc_i, jN_add, jN_div, jN_eq, jN_le, jN_lt, jN_mod, jN_mul, jN_sub, l0, lc_eq, lc_ge, lc_gt, lc_le, lc_lt, ldA_a, ldI_i, ldL_l, oc_201, oc_203, oc_212, oc_217, oc_236, oc_237, r_0, r_1, r_11, r_15, r_2, r_21, r_22, r_23, r_27, r_3, r_30, r_31, r_32, r_33, r_34, r_4, r_44, r_45, r_46, r_6, r_63, r_7, r_80_1, r_80_2, r_80_3, r_81_2, r_81_3, r_9, r_92, wpn_S, wpn_zero, stp_h, lk_0, lk_s, st1_0, st1_1, st1_2, st2_0, st2_1, st2_2, kj_i, kj_a, kj_l, kj_n, cat_n, cat_i, cat_a, cat_u, cat_l, vc_i, vc_a, rv_s, tl_n, tl_s, Cal'_s, List.length_cons, List.length_nil, i0, i1, iNd, iN_lt, iN_le, iN_eq, iN_add, iN_mul, iN_mod, iN_sub, iN_div, iN_clamp, iN_inb, zle_N, zlt_N, zN_le, zN_lt, zN_eq, Nz_eq, mI_t, mI_f, bI_0, bI_1, bI_t, bI_f, dltT, dltF, dleT, dleF, deqT, deqF, Nat.not_lt_zero, not_true_eq_false, not_false_eq_true, true_and, and_true, false_and, and_false, or_true, true_or, false_or, or_false, and_self, if_true, if_false, Classical.not_not, Nat.add_assoc, Nat.zero_add, Nat.add_zero, bI_or, bI_True, bI_False, Bool.false_eq_true, reduceCtorEq, eq_self, gi_si, gl_si, gr_si, hn_si, hL_si, hX_si, gi_sl, gl_sl, gr_sl, hn_sl, ob_si, ar_si, ob_sl, ar_sl, ks_278_0, ks_278_1, ks_278_2, ks_278_3, ks_278_4, ks_278_5, oO, oO, o_two_q hB hA hW, isT_N, o_wb0_q, c1, c2, d1, d2, e1, e2, o_ref4_q hB, o_wb_q])
            exact hQ
        · obtain ⟨e1, e2⟩ := raw_ge e0
          by_cases hc : isP 100 c
          · have c7 := isP_hi hc
            by_cases hd : isP 9 d
            · have d7 := isP_hi hd
              by_cases e8 : iN 20 < e
              · obtain ⟨e5, e6⟩ := raw_gt e8
                have k5 := c7.1
                have k6 := c7.2
                have k7 := d7.1
                have k8 := d7.2
                refine op_refuse hs (k := 6) (by decide) (v := .long (jN 4000000000000000000 - (zI (-6)).toInt64)) (fun h hB hI => Ret.up (d := 5) ?_ (by decide)) (fun h hB hI => Ret.up (d := 3) ?_ (by decide))
                · obtain ⟨oF, g0, g1, g2, g4, g5, g6, g7, g8, g9, g10, g11, g12, g13, o21, o22, o23, o28, o29, o32, o34, o36, oM⟩ := F_facts hB; obtain ⟨hA, iI, ⟨nx, hP⟩, hR, hL, hF, hT⟩ := id hI; have hW := hs.1; have hm : isM 1 := Or.inl rfl; have wN := hW.1
                  refine Ret_L [some (.ref 0), some (.int (iN p)), some (.int (iN q)), some (.int c), some (.int d), some (.int e), some (.int f), none] rfl rfl fun Q hQ => ?_
                  (refine wp_go 600 ks_172_0.1 ?_; simp (disch := first | with_reducible assumption | omega | (simp only [ob_si, ar_si, ob_sl, ar_sl]; with_reducible assumption)) only [ci_0, ci_1, ci_2, ci_20, ci_8, ci_99, cl_4000000000000000000, cm_1, cm_2, cm_4, cm_6, iN_l, jN_add, jN_div, jN_eq, jN_le, jN_lt, jN_mod, jN_mul, jN_sub, l0, lc_eq, lc_ge, lc_gt, lc_le, lc_lt, ldA_a, ldI_i, oc_1, oc_191, oc_2, oc_26, oc_3, r_0, r_2, r_22, r_27, r_3, r_30, r_31, r_32, r_33, r_44, r_45, r_46, r_6, r_62, r_7, r_80_1, r_80_2, r_80_3, r_80_5, r_81_3, r_92, wpn_S, wpn_zero, stp_h, lk_0, lk_s, st1_0, st1_1, st1_2, st2_0, st2_1, st2_2, kj_i, kj_a, kj_l, kj_n, cat_n, cat_i, cat_a, cat_u, cat_l, vc_i, vc_a, rv_s, tl_n, tl_s, Cal'_s, List.length_cons, List.length_nil, i0, i1, iNd, iN_lt, iN_le, iN_eq, iN_add, iN_mul, iN_mod, iN_sub, iN_div, iN_clamp, iN_inb, zle_N, zlt_N, zN_le, zN_lt, zN_eq, Nz_eq, mI_t, mI_f, bI_0, bI_1, bI_t, bI_f, dltT, dltF, dleT, dleF, deqT, deqF, Nat.not_lt_zero, not_true_eq_false, not_false_eq_true, true_and, and_true, false_and, and_false, or_true, true_or, false_or, or_false, and_self, if_true, if_false, Classical.not_not, Nat.add_assoc, Nat.zero_add, Nat.add_zero, bI_or, bI_True, bI_False, Bool.false_eq_true, reduceCtorEq, eq_self, gi_si, gl_si, gr_si, hn_si, hL_si, hX_si, gi_sl, gl_sl, gr_sl, hn_sl, ob_si, ar_si, ob_sl, ar_sl, ks_172_0, ks_172_1, ks_172_2, ks_172_3, oF, g0, g1, g2, g4, g5, g6, g7, g8, g9, g10, g11, g12, g13, o21, o22, o23, o28, o29, o32, o34, o36, oM, oM, c_areT_q hm hB hA hW, hij, c1, c2, d1, d2, e1, e2, k5, k6, k7, k8, e5, e6, c_ref6_q hB])
                  exact hQ
                · have oO := (O_facts hB).1; obtain ⟨hA, hIr, f0⟩ := IO_0 hI; replace hB := Bs.si hB 87 7 (iN 0); have hW := hs.1; obtain ⟨oO2, rO1, rO2, rO3, rO4, rO5, rO8, aO1, aO2, aO3, aO4, aO5, aO8, sO1, sO2, sO3, sO4, sO5, sO8⟩ := O_facts hB; obtain ⟨fN, fD, fK, fF, fH, fM, fQ⟩ := id hA; obtain ⟨wN, wK, wF, wH, wM, wQ, wS, wZ, wT⟩ := id hW
                  refine Ret_L [some (.ref 87), some (.int (iN p)), some (.int (iN q)), some (.int c), some (.int d), some (.int e), some (.int f), none, none, none, none, none, none, none, none, none] rfl rfl fun Q hQ => ?_
                  (refine wp_go 600 ks_278_0.1 ?_; simp (disch := first | with_reducible assumption | omega | (simp only [ob_si, ar_si, ob_sl, ar_sl]; with_reducible assumption)) only [ci_0, ci_1, ci_2, ci_20, ci_8, ci_99, cl_0, cl_1, cl_4000000000000000000, cm_1, cm_4, cm_6, cm_9, iN_l, inc_i, jN_add, jN_div, jN_eq, jN_le, jN_lt, jN_mod, jN_mul, jN_sub, l0, lc_eq, lc_ge, lc_gt, lc_le, lc_lt, ldA_a, ldI_i, ldL_l, oc_201, oc_203, oc_212, oc_217, oc_236, oc_237, r_0, r_1, r_11, r_15, r_2, r_21, r_22, r_23, r_27, r_3, r_30, r_31, r_32, r_33, r_34, r_4, r_44, r_45, r_46, r_6, r_63, r_7, r_80_1, r_80_2, r_80_3, r_81_2, r_81_3, r_9, r_92, wpn_S, wpn_zero, stp_h, lk_0, lk_s, st1_0, st1_1, st1_2, st2_0, st2_1, st2_2, kj_i, kj_a, kj_l, kj_n, cat_n, cat_i, cat_a, cat_u, cat_l, vc_i, vc_a, rv_s, tl_n, tl_s, Cal'_s, List.length_cons, List.length_nil, i0, i1, iNd, iN_lt, iN_le, iN_eq, iN_add, iN_mul, iN_mod, iN_sub, iN_div, iN_clamp, iN_inb, zle_N, zlt_N, zN_le, zN_lt, zN_eq, Nz_eq, mI_t, mI_f, bI_0, bI_1, bI_t, bI_f, dltT, dltF, dleT, dleF, deqT, deqF, Nat.not_lt_zero, not_true_eq_false, not_false_eq_true, true_and, and_true, false_and, and_false, or_true, true_or, false_or, or_false, and_self, if_true, if_false, Classical.not_not, Nat.add_assoc, Nat.zero_add, Nat.add_zero, bI_or, bI_True, bI_False, Bool.false_eq_true, reduceCtorEq, eq_self, gi_si, gl_si, gr_si, hn_si, hL_si, hX_si, gi_sl, gl_sl, gr_sl, hn_sl, ob_si, ar_si, ob_sl, ar_sl, ks_278_0, ks_278_1, ks_278_2, ks_278_3, ks_278_4, ks_278_5, oO, oO, o_two_q hB hA hW, isT_N, o_wb0_q, c1, c2, d1, d2, e1, e2, k5, k6, k7, k8, e5, e6, o_ref6_q hB, o_wb_q])
                  exact hQ
              · obtain ⟨v, hv, rfl⟩ := hc
                obtain ⟨n, hn, rfl⟩ := hd
                obtain ⟨t, ht1, ht2, rfl⟩ := ex_le2 e0 e8 (by omega)
                clear c0 c1 c2 d0 d1 d2 e0 e1 e2 e8 c7 d7
                by_cases hw : isP 2 f
                · obtain ⟨w, hw, rfl⟩ := hw
                  rcases (show w = 0 ∨ w = 1 by omega) with rfl | rfl
                  · refine away_query hs (v := .long (jN (lowT (awN (gX s) p q v n t) (t ^ n) 0))) (fun h hB hI => ?_) (fun h hB hI => ?_)
                    · obtain ⟨oF, g0, g1, g2, g4, g5, g6, g7, g8, g9, g10, g11, g12, g13, o21, o22, o23, o28, o29, o32, o34, o36, oM⟩ := F_facts hB; obtain ⟨hA, iI, ⟨nx, hP⟩, hR, hL, hF, hT⟩ := id hI; have hW := hs.1; have hm : isM 1 := Or.inl rfl; have wN := hW.1
                      obtain ⟨h1, r1, w30, w31, eg, f1⟩ := n_weigh (i := p) (j := q) (n := n) (t := t) hB hA hW hi (by omega) (by omega) (by omega) (by omega) hT
                      have B1 := f1.bs hB
                      obtain ⟨oF_1, k0_1, k1_1, k2_1, k4_1, k5_1, k6_1, k7_1, k8_1, k9_1, k10_1, k11_1, k12_1, k13_1, u21_1, u22_1, u23_1, u28_1, u29_1, u32_1, u34_1, u36_1, uM_1⟩ := F_facts B1
                      have hsum := wg_sum hW (v := v) (n := n) (t := t) hi hj hij (by omega) (by omega) 0
                      have hpow := pow_8 (t := t) (k := n) (by omega) (by omega)
                      have hle : pr (wgN (gX s) p q t n) one1 (v + 1) ≤ 25600000000 := by
                        have hb := hW.2.2.2.2.2.1 p q
                        rw [pr_in _ (by omega)]
                        by_cases e : xM (gX s) p = q
                        · have h1 := aw_le (x := gX s) (p := p) (q := q) (v := v) (n := n) (t := t) (by omega)
                          rw [aw_mat hi hj hij hW.1 e] at h1
                          unfold wgN wkW
                          rw [if_pos e, pr_n, pr_dl, if_pos (by omega)]
                          omega
                        · unfold wgN
                          rw [if_neg e, pr_dl, if_pos (by omega)]
                          unfold inV
                          split <;> omega
                      have hbl : (if xM (gX s) p = q then t ^ n else 1) ≤ 25600000000 := by split <;> omega
                      have r2 := n_upto B1 w30 (show v ≤ 99 by omega)
                      have r3 := n_all B1
                      rw [eg] at r3
                      generalize (if xM (gX s) p = q then t ^ n else 1) = T at *
                      generalize pr (wgN (gX s) p q t n) one1 (v + 1) = S at *
                      rw [← hsum]
                      have r4 := g_low (h := h1) (a := S) (b := T) (p := 0) (by omega) (by omega) (by omega)
                      have f2 : Fr (fun o => Sz o ∨ o = 31) h h1 := f1.mono fun o ho => by unfold Sn at ho; unfold Sz; omega
                      refine ⟨h1, Ret.up (d := 5) ?_ (by decide), w31, f2⟩
                      refine Ret_L [some (.ref 0), some (.int (iN p)), some (.int (iN q)), some (.int (iN v)), some (.int (iN n)), some (.int (iN t)), some (.int (iN 0)), none] rfl rfl fun Q hQ => ?_
                      (refine wp_go 600 ks_172_0.1 ?_; simp (disch := first | with_reducible assumption | omega | (simp only [ob_si, ar_si, ob_sl, ar_sl]; with_reducible assumption)) only [ci_0, ci_1, ci_2, ci_20, ci_8, ci_99, cl_4000000000000000000, cm_1, cm_2, cm_4, cm_6, iN_l, jN_add, jN_div, jN_eq, jN_le, jN_lt, jN_mod, jN_mul, jN_sub, l0, lc_eq, lc_ge, lc_gt, lc_le, lc_lt, ldA_a, ldI_i, oc_1, oc_191, oc_2, oc_26, oc_3, r_0, r_2, r_22, r_27, r_3, r_30, r_31, r_32, r_33, r_44, r_45, r_46, r_6, r_62, r_7, r_80_1, r_80_2, r_80_3, r_80_5, r_81_3, r_92, wpn_S, wpn_zero, stp_h, lk_0, lk_s, st1_0, st1_1, st1_2, st2_0, st2_1, st2_2, kj_i, kj_a, kj_l, kj_n, cat_n, cat_i, cat_a, cat_u, cat_l, vc_i, vc_a, rv_s, tl_n, tl_s, Cal'_s, List.length_cons, List.length_nil, i0, i1, iNd, iN_lt, iN_le, iN_eq, iN_add, iN_mul, iN_mod, iN_sub, iN_div, iN_clamp, iN_inb, zle_N, zlt_N, zN_le, zN_lt, zN_eq, Nz_eq, mI_t, mI_f, bI_0, bI_1, bI_t, bI_f, dltT, dltF, dleT, dleF, deqT, deqF, Nat.not_lt_zero, not_true_eq_false, not_false_eq_true, true_and, and_true, false_and, and_false, or_true, true_or, false_or, or_false, and_self, if_true, if_false, Classical.not_not, Nat.add_assoc, Nat.zero_add, Nat.add_zero, bI_or, bI_True, bI_False, Bool.false_eq_true, reduceCtorEq, eq_self, gi_si, gl_si, gr_si, hn_si, hL_si, hX_si, gi_sl, gl_sl, gr_sl, hn_sl, ob_si, ar_si, ob_sl, ar_sl, ks_172_0, ks_172_1, ks_172_2, ks_172_3, oF, g0, g1, g2, g4, g5, g6, g7, g8, g9, g10, g11, g12, g13, o21, o22, o23, o28, o29, o32, o34, o36, oM, oF_1, k0_1, k1_1, k2_1, k4_1, k5_1, k6_1, k7_1, k8_1, k9_1, k10_1, k11_1, k12_1, k13_1, u21_1, u22_1, u23_1, u28_1, u29_1, u32_1, u34_1, u36_1, uM_1, oM, c_areT_q hm hB hA hW, hij, Cal_eq r1, Cal_eq r2, Cal_eq r3, Cal_eq r4])
                      exact hQ
                    · have oO := (O_facts hB).1; obtain ⟨hA, hIr, f0⟩ := IO_0 hI; replace hB := Bs.si hB 87 7 (iN 0); have hW := hs.1; obtain ⟨oO2, rO1, rO2, rO3, rO4, rO5, rO8, aO1, aO2, aO3, aO4, aO5, aO8, sO1, sO2, sO3, sO4, sO5, sO8⟩ := O_facts hB; obtain ⟨fN, fD, fK, fF, fH, fM, fQ⟩ := id hA; obtain ⟨wN, wK, wF, wH, wM, wQ, wS, wZ, wT⟩ := id hW
                      generalize gX s = x at *
                      have key : ∀ Q : Option Value → Hp → Prop, (∀ h', Ao h' x → Fo Sy Fy h h' → Q (some (.long (jN (lowT (awN x p q v n t) (t ^ n) 0)))) h') → wp 3 278 0 [some (.ref 87), some (.int (iN p)), some (.int (iN q)), some (.int (iN v)), some (.int (iN n)), some (.int (iN t)), some (.int (iN 0)), none, none, none, none, none, none, none, none, none] [] h Q := by
                        intro Q hQ
                        have hpow := pow_8 (t := t) (k := n) (by omega) (by omega)
                        have hpos : 0 < t ^ n := Nat.pow_pos (by omega)
                        (refine wp_go 600 ks_278_0.1 ?_; simp (disch := first | with_reducible assumption | omega | (simp only [ob_si, ar_si, ob_sl, ar_sl]; with_reducible assumption)) only [ci_0, ci_1, ci_2, ci_20, ci_8, ci_99, cl_0, cl_1, cl_4000000000000000000, cm_1, cm_4, cm_6, cm_9, iN_l, inc_i, jN_add, jN_div, jN_eq, jN_le, jN_lt, jN_mod, jN_mul, jN_sub, l0, lc_eq, lc_ge, lc_gt, lc_le, lc_lt, ldA_a, ldI_i, ldL_l, oc_201, oc_203, oc_212, oc_217, oc_236, oc_237, r_0, r_1, r_11, r_15, r_2, r_21, r_22, r_23, r_27, r_3, r_30, r_31, r_32, r_33, r_34, r_4, r_44, r_45, r_46, r_6, r_63, r_7, r_80_1, r_80_2, r_80_3, r_81_2, r_81_3, r_9, r_92, wpn_S, wpn_zero, stp_h, lk_0, lk_s, st1_0, st1_1, st1_2, st2_0, st2_1, st2_2, kj_i, kj_a, kj_l, kj_n, cat_n, cat_i, cat_a, cat_u, cat_l, vc_i, vc_a, rv_s, tl_n, tl_s, Cal'_s, List.length_cons, List.length_nil, i0, i1, iNd, iN_lt, iN_le, iN_eq, iN_add, iN_mul, iN_mod, iN_sub, iN_div, iN_clamp, iN_inb, zle_N, zlt_N, zN_le, zN_lt, zN_eq, Nz_eq, mI_t, mI_f, bI_0, bI_1, bI_t, bI_f, dltT, dltF, dleT, dleF, deqT, deqF, Nat.not_lt_zero, not_true_eq_false, not_false_eq_true, true_and, and_true, false_and, and_false, or_true, true_or, false_or, or_false, and_self, if_true, if_false, Classical.not_not, Nat.add_assoc, Nat.zero_add, Nat.add_zero, bI_or, bI_True, bI_False, Bool.false_eq_true, reduceCtorEq, eq_self, gi_si, gl_si, gr_si, hn_si, hL_si, hX_si, gi_sl, gl_sl, gr_sl, hn_sl, ob_si, ar_si, ob_sl, ar_sl, ks_278_0, ks_278_1, ks_278_2, ks_278_3, ks_278_4, ks_278_5, oO, oO2, rO1, rO2, rO3, rO4, rO5, rO8, aO1, aO2, aO3, aO4, aO5, aO8, fN, fD, fK, fF, fH, fM, fQ, oO, o_two_q hB hA hW, isT_N, o_wb0_q, isP_N])
                        refine wp_fold (fun k (_ : Nat) (_ : Unit) => [some (.ref 87), some (.int (iN p)), some (.int (iN q)), some (.int (iN v)), some (.int (iN n)), some (.int (iN t)), some (.int (iN 0)), some (.int (iN 0)), some (.long (jN 0)), none, some (.long (jN (t ^ k))), none, some (.int (iN k)), none, none, none]) (fun _ a => a) n ?_ n 0 0 () (by omega) ?_
                        · intro k a w hk hn
                          have hn := hn ()
                          rw [← wpn_pow] at hn
                          (refine wp_go 600 ks_278_2.2.2.2.2.2.2.1 ?_; simp (disch := first | with_reducible assumption | omega | (simp only [ob_si, ar_si, ob_sl, ar_sl]; with_reducible assumption)) only [ci_0, ci_1, ci_2, ci_20, ci_8, ci_99, cl_0, cl_1, cl_4000000000000000000, cm_1, cm_4, cm_6, cm_9, iN_l, inc_i, jN_add, jN_div, jN_eq, jN_le, jN_lt, jN_mod, jN_sub, l0, lc_eq, lc_ge, lc_gt, lc_le, lc_lt, ldA_a, ldI_i, ldL_l, oc_201, oc_203, oc_212, oc_217, oc_236, oc_237, r_0, r_1, r_11, r_15, r_2, r_21, r_22, r_23, r_27, r_3, r_30, r_31, r_32, r_33, r_34, r_4, r_44, r_45, r_46, r_6, r_63, r_7, r_80_1, r_80_2, r_80_3, r_81_2, r_81_3, r_9, r_92, wpn_S, wpn_zero, stp_h, lk_0, lk_s, st1_0, st1_1, st1_2, st2_0, st2_1, st2_2, kj_i, kj_a, kj_l, kj_n, cat_n, cat_i, cat_a, cat_u, cat_l, vc_i, vc_a, rv_s, tl_n, tl_s, Cal'_s, List.length_cons, List.length_nil, i0, i1, iNd, iN_lt, iN_le, iN_eq, iN_add, iN_mul, iN_mod, iN_sub, iN_div, iN_clamp, iN_inb, zle_N, zlt_N, zN_le, zN_lt, zN_eq, Nz_eq, mI_t, mI_f, bI_0, bI_1, bI_t, bI_f, dltT, dltF, dleT, dleF, deqT, deqF, Nat.not_lt_zero, not_true_eq_false, not_false_eq_true, true_and, and_true, false_and, and_false, or_true, true_or, false_or, or_false, and_self, if_true, if_false, Classical.not_not, Nat.add_assoc, Nat.zero_add, Nat.add_zero, bI_or, bI_True, bI_False, Bool.false_eq_true, reduceCtorEq, eq_self, gi_si, gl_si, gr_si, hn_si, hL_si, hX_si, gi_sl, gl_sl, gr_sl, hn_sl, ob_si, ar_si, ob_sl, ar_sl, ks_278_0, ks_278_1, ks_278_2, ks_278_3, ks_278_4, ks_278_5, iN_l])
                          exact hn
                        · intro w
                          obtain ⟨h1, r1, A1, K1, f1⟩ := wo_think hB hA
                          have B1 := f1.bs hB
                          (refine wp_go 600 ks_278_2.2.2.2.2.2.2.1 ?_; simp (disch := first | with_reducible assumption | omega | (simp only [ob_si, ar_si, ob_sl, ar_sl]; with_reducible assumption)) only [ci_0, ci_1, ci_2, ci_20, ci_8, ci_99, cl_0, cl_1, cl_4000000000000000000, cm_1, cm_4, cm_6, cm_9, iN_l, inc_i, jN_add, jN_div, jN_eq, jN_le, jN_lt, jN_mod, jN_mul, jN_sub, l0, lc_eq, lc_ge, lc_gt, lc_le, lc_lt, ldA_a, ldI_i, ldL_l, oc_201, oc_203, oc_212, oc_217, oc_236, oc_237, r_0, r_1, r_11, r_15, r_2, r_21, r_22, r_23, r_27, r_3, r_30, r_31, r_32, r_33, r_34, r_4, r_44, r_45, r_46, r_6, r_63, r_7, r_80_1, r_80_2, r_80_3, r_81_2, r_81_3, r_9, r_92, wpn_S, wpn_zero, stp_h, lk_0, lk_s, st1_0, st1_1, st1_2, st2_0, st2_1, st2_2, kj_i, kj_a, kj_l, kj_n, cat_n, cat_i, cat_a, cat_u, cat_l, vc_i, vc_a, rv_s, tl_n, tl_s, Cal'_s, List.length_cons, List.length_nil, i0, i1, iNd, iN_lt, iN_le, iN_eq, iN_add, iN_mul, iN_mod, iN_sub, iN_div, iN_clamp, iN_inb, zle_N, zlt_N, zN_le, zN_lt, zN_eq, Nz_eq, mI_t, mI_f, bI_0, bI_1, bI_t, bI_f, dltT, dltF, dleT, dleF, deqT, deqF, Nat.not_lt_zero, not_true_eq_false, not_false_eq_true, true_and, and_true, false_and, and_false, or_true, true_or, false_or, or_false, and_self, if_true, if_false, Classical.not_not, Nat.add_assoc, Nat.zero_add, Nat.add_zero, bI_or, bI_True, bI_False, Bool.false_eq_true, reduceCtorEq, eq_self, gi_si, gl_si, gr_si, hn_si, hL_si, hX_si, gi_sl, gl_sl, gr_sl, hn_sl, ob_si, ar_si, ob_sl, ar_sl, ks_278_0, ks_278_1, ks_278_2, ks_278_3, ks_278_4, ks_278_5, oO2, Cal_eq r1])
                          have h2n : 2 ^ n ≤ 256 := Nat.le_trans (Nat.pow_le_pow_right (by decide) (show n ≤ 8 by omega)) (by decide)
                          refine wp_loop (fun g L h' => ∃ r1 r2 r3, Ao h' x ∧ Kx h' 98 x ∧ Fo Sy Fy h h' ∧ L = [some (.ref 87), some (.int (iN p)), some (.int (iN q)), some (.int (iN v)), some (.int (iN n)), some (.int (iN t)), some (.int (iN 0)), some (.int (iN 0)), some (.long (jN (sN2 (fun g => itr (aOd t g) 0 n 1 * inV v (xQ (awM x p g n) p q)) g))), none, some (.long (jN (t ^ n))), none, some (.int (iN g)), r1, r2, r3]) (2 ^ n) ?_ ?_ (2 ^ n) 0 _ h1 (by omega) ⟨none, none, none, A1, K1, f0.tr (Fo_y98 f1), rfl⟩
                          · rintro g L h2 hg ⟨r1, r2, r3, A2, K2, F2, rfl⟩ hnx
                            have B2 := F2.bs hB
                            have oO_2 := (O_facts B2).1
                            have ew : iN 1 <<< (iN n &&& 31) = iN (2 ^ n) := shl_eq32 (by omega)
                            (refine wp_go 600 ks_278_2.2.2.2.2.2.2.2.2.2.2.2.2.2.2.2.2.2.2.2.2.1 ?_; simp (disch := first | with_reducible assumption | omega | (simp only [ob_si, ar_si, ob_sl, ar_sl]; with_reducible assumption)) only [ci_0, ci_1, ci_2, ci_20, ci_8, ci_99, cl_0, cl_1, cl_4000000000000000000, cm_1, cm_4, cm_6, cm_9, iN_l, inc_i, jN_add, jN_div, jN_eq, jN_le, jN_lt, jN_mod, jN_mul, jN_sub, l0, lc_eq, lc_ge, lc_gt, lc_le, lc_lt, ldA_a, ldI_i, ldL_l, oc_201, oc_203, oc_212, oc_217, oc_236, oc_237, r_0, r_1, r_11, r_15, r_2, r_21, r_22, r_23, r_27, r_3, r_30, r_31, r_32, r_33, r_34, r_4, r_44, r_45, r_46, r_6, r_63, r_7, r_80_1, r_80_2, r_80_3, r_81_2, r_81_3, r_9, r_92, wpn_S, wpn_zero, stp_h, lk_0, lk_s, st1_0, st1_1, st1_2, st2_0, st2_1, st2_2, kj_i, kj_a, kj_l, kj_n, cat_n, cat_i, cat_a, cat_u, cat_l, vc_i, vc_a, rv_s, tl_n, tl_s, Cal'_s, List.length_cons, List.length_nil, i0, i1, iNd, iN_lt, iN_le, iN_eq, iN_add, iN_mul, iN_mod, iN_sub, iN_div, iN_clamp, iN_inb, zle_N, zlt_N, zN_le, zN_lt, zN_eq, Nz_eq, mI_t, mI_f, bI_0, bI_1, bI_t, bI_f, dltT, dltF, dleT, dleF, deqT, deqF, Nat.not_lt_zero, not_true_eq_false, not_false_eq_true, true_and, and_true, false_and, and_false, or_true, true_or, false_or, or_false, and_self, if_true, if_false, Classical.not_not, Nat.add_assoc, Nat.zero_add, Nat.add_zero, bI_or, bI_True, bI_False, Bool.false_eq_true, reduceCtorEq, eq_self, gi_si, gl_si, gr_si, hn_si, hL_si, hX_si, gi_sl, gl_sl, gr_sl, hn_sl, ob_si, ar_si, ob_sl, ar_sl, ks_278_0, ks_278_1, ks_278_2, ks_278_3, ks_278_4, ks_278_5, ew])
                            refine wp_loop (fun k L h' => Ao h' (awM x p g k) ∧ Kx h' 98 x ∧ Fo Sy Fy h h' ∧ L = [some (.ref 87), some (.int (iN p)), some (.int (iN q)), some (.int (iN v)), some (.int (iN n)), some (.int (iN t)), some (.int (iN 0)), some (.int (iN 0)), some (.long (jN (sN2 (fun g => itr (aOd t g) 0 n 1 * inV v (xQ (awM x p g n) p q)) g))), none, some (.long (jN (t ^ n))), none, some (.int (iN g)), some (.long (jN (itr (aOd t g) 0 k 1))), none, some (.int (iN k))]) n ?_ ?_ n 0 _ h2 (by omega) ⟨A2, K2, F2, rfl⟩
                            · rintro k L h3 hk ⟨A3, K3, F3, rfl⟩ hny
                              have B3 := F3.bs hB
                              have oO_3 := (O_facts B3).1
                              have W3 := aw_W hW p g k
                              by_cases hb : g.testBit k = true
                              · obtain ⟨h4, r4, A4, f4⟩ := wo_day (a := p) (b := 6) (va := iN p) (vb := zI (-9)) B3 A3 W3 (by omega) (Or.inr rfl) (mI_t (by omega)).symm mI_6.symm
                                have hny := hny _ h4 ⟨by rw [aw_s, if_pos hb]; exact A4, K3.fr f4 (by unfold Sq; omega) (by omega), F3.tr (Fo_yq f4), rfl⟩
                                rw [itr_last, Nat.zero_add, show aOd t g k (itr (aOd t g) 0 k 1) = itr (aOd t g) 0 k 1 * 1 from (if_pos hb).trans (Nat.mul_one _).symm] at hny
                                (refine wp_go 600 ks_278_3.2.2.2.2.2.1 ?_; simp (disch := first | with_reducible assumption | omega | (simp only [ob_si, ar_si, ob_sl, ar_sl]; with_reducible assumption)) only [ci_0, ci_1, ci_2, ci_20, ci_8, ci_99, cl_0, cl_1, cl_4000000000000000000, cm_1, cm_4, cm_6, cm_9, iN_l, inc_i, jN_add, jN_div, jN_eq, jN_le, jN_lt, jN_mod, jN_mul, jN_sub, l0, lc_eq, lc_ge, lc_gt, lc_le, lc_lt, ldA_a, ldI_i, ldL_l, oc_201, oc_203, oc_212, oc_217, oc_236, oc_237, r_0, r_1, r_11, r_15, r_2, r_21, r_22, r_23, r_27, r_3, r_30, r_31, r_32, r_33, r_34, r_4, r_44, r_45, r_46, r_6, r_63, r_7, r_80_1, r_80_2, r_80_3, r_81_2, r_81_3, r_9, r_92, wpn_S, wpn_zero, stp_h, lk_0, lk_s, st1_0, st1_1, st1_2, st2_0, st2_1, st2_2, kj_i, kj_a, kj_l, kj_n, cat_n, cat_i, cat_a, cat_u, cat_l, vc_i, vc_a, rv_s, tl_n, tl_s, Cal'_s, List.length_cons, List.length_nil, i0, i1, iNd, iN_lt, iN_le, iN_eq, iN_add, iN_mul, iN_mod, iN_sub, iN_div, iN_clamp, iN_inb, zle_N, zlt_N, zN_le, zN_lt, zN_eq, Nz_eq, mI_t, mI_f, bI_0, bI_1, bI_t, bI_f, dltT, dltF, dleT, dleF, deqT, deqF, Nat.not_lt_zero, not_true_eq_false, not_false_eq_true, true_and, and_true, false_and, and_false, or_true, true_or, false_or, or_false, and_self, if_true, if_false, Classical.not_not, Nat.add_assoc, Nat.zero_add, Nat.add_zero, bI_or, bI_True, bI_False, Bool.false_eq_true, reduceCtorEq, eq_self, gi_si, gl_si, gr_si, hn_si, hL_si, hX_si, gi_sl, gl_sl, gr_sl, hn_sl, ob_si, ar_si, ob_sl, ar_sl, ks_278_0, ks_278_1, ks_278_2, ks_278_3, ks_278_4, ks_278_5, oO_3, o_bit_q, hb, Cal_eq r4])
                                exact hny
                              · obtain ⟨h4, r4, A4, f4⟩ := wo_day (a := 6) (b := 6) (va := zI (-9)) (vb := zI (-9)) B3 A3 W3 (by omega) (Or.inr rfl) mI_6.symm mI_6.symm
                                have hny := hny _ h4 ⟨by rw [aw_s, if_neg hb]; exact A4, K3.fr f4 (by unfold Sq; omega) (by omega), F3.tr (Fo_yq f4), rfl⟩
                                rw [itr_last, Nat.zero_add, show aOd t g k (itr (aOd t g) 0 k 1) = itr (aOd t g) 0 k 1 * (t - 1) from if_neg hb] at hny
                                (refine wp_go 600 ks_278_3.2.2.2.2.2.1 ?_; simp (disch := first | with_reducible assumption | omega | (simp only [ob_si, ar_si, ob_sl, ar_sl]; with_reducible assumption)) only [ci_0, ci_1, ci_2, ci_20, ci_8, ci_99, cl_0, cl_1, cl_4000000000000000000, cm_1, cm_4, cm_6, cm_9, iN_l, inc_i, jN_add, jN_div, jN_eq, jN_le, jN_lt, jN_mod, jN_mul, jN_sub, l0, lc_eq, lc_ge, lc_gt, lc_le, lc_lt, ldA_a, ldI_i, ldL_l, oc_201, oc_203, oc_212, oc_217, oc_236, oc_237, r_0, r_1, r_11, r_15, r_2, r_21, r_22, r_23, r_27, r_3, r_30, r_31, r_32, r_33, r_34, r_4, r_44, r_45, r_46, r_6, r_63, r_7, r_80_1, r_80_2, r_80_3, r_81_2, r_81_3, r_9, r_92, wpn_S, wpn_zero, stp_h, lk_0, lk_s, st1_0, st1_1, st1_2, st2_0, st2_1, st2_2, kj_i, kj_a, kj_l, kj_n, cat_n, cat_i, cat_a, cat_u, cat_l, vc_i, vc_a, rv_s, tl_n, tl_s, Cal'_s, List.length_cons, List.length_nil, i0, i1, iNd, iN_lt, iN_le, iN_eq, iN_add, iN_mul, iN_mod, iN_sub, iN_div, iN_clamp, iN_inb, zle_N, zlt_N, zN_le, zN_lt, zN_eq, Nz_eq, mI_t, mI_f, bI_0, bI_1, bI_t, bI_f, dltT, dltF, dleT, dleF, deqT, deqF, Nat.not_lt_zero, not_true_eq_false, not_false_eq_true, true_and, and_true, false_and, and_false, or_true, true_or, false_or, or_false, and_self, if_true, if_false, Classical.not_not, Nat.add_assoc, Nat.zero_add, Nat.add_zero, bI_or, bI_True, bI_False, Bool.false_eq_true, reduceCtorEq, eq_self, gi_si, gl_si, gr_si, hn_si, hL_si, hX_si, gi_sl, gl_sl, gr_sl, hn_sl, ob_si, ar_si, ob_sl, ar_sl, ks_278_0, ks_278_1, ks_278_2, ks_278_3, ks_278_4, ks_278_5, oO_3, o_bit_q, hb, iN_l, Cal_eq r4])
                                exact hny
                            · rintro L h3 ⟨A3, K3, F3, rfl⟩
                              have B3 := F3.bs hB
                              have oO_3 := (O_facts B3).1
                              have W3 := aw_W hW p g n
                              have hN : xN (awM x p g n) = xN x := (aw_e x p g n).1
                              have rq := o_quar (i := p) (j := q) B3 A3 W3 (by omega) (by omega)
                              have hq := W3.2.2.2.2.2.1 p q
                              obtain ⟨h4, r4, A4, K4, f4⟩ := wo_again B3 K3
                              have oO_4 := (O_facts (f4.bs B3)).1
                              have hnx := hnx _ h4 ⟨some (.long (jN (itr (aOd t g) 0 n 1))), none, some (.int (iN n)), A4, K4, F3.tr (Fo_y98 f4), rfl⟩
                              rw [show sN2 (fun g => itr (aOd t g) 0 n 1 * inV v (xQ (awM x p g n) p q)) (g + 1) = sN2 (fun g => itr (aOd t g) 0 n 1 * inV v (xQ (awM x p g n) p q)) g + itr (aOd t g) 0 n 1 * inV v (xQ (awM x p g n) p q) from rfl] at hnx
                              by_cases hc : xQ (awM x p g n) p q ≤ v
                              · rw [show inV v (xQ (awM x p g n) p q) = 1 from if_pos hc, Nat.mul_one] at hnx
                                (refine wp_go 600 ks_278_3.2.2.2.2.2.1 ?_; simp (disch := first | with_reducible assumption | omega | (simp only [ob_si, ar_si, ob_sl, ar_sl]; with_reducible assumption)) only [ci_0, ci_1, ci_2, ci_20, ci_8, ci_99, cl_0, cl_1, cl_4000000000000000000, cm_1, cm_4, cm_6, cm_9, iN_l, inc_i, jN_add, jN_div, jN_eq, jN_le, jN_lt, jN_mod, jN_mul, jN_sub, l0, lc_eq, lc_ge, lc_gt, lc_le, lc_lt, ldA_a, ldI_i, ldL_l, oc_201, oc_203, oc_212, oc_217, oc_236, oc_237, r_0, r_1, r_11, r_15, r_2, r_21, r_22, r_23, r_27, r_3, r_30, r_31, r_32, r_33, r_34, r_4, r_44, r_45, r_46, r_6, r_63, r_7, r_80_1, r_80_2, r_80_3, r_81_2, r_81_3, r_9, r_92, wpn_S, wpn_zero, stp_h, lk_0, lk_s, st1_0, st1_1, st1_2, st2_0, st2_1, st2_2, kj_i, kj_a, kj_l, kj_n, cat_n, cat_i, cat_a, cat_u, cat_l, vc_i, vc_a, rv_s, tl_n, tl_s, Cal'_s, List.length_cons, List.length_nil, i0, i1, iNd, iN_lt, iN_le, iN_eq, iN_add, iN_mul, iN_mod, iN_sub, iN_div, iN_clamp, iN_inb, zle_N, zlt_N, zN_le, zN_lt, zN_eq, Nz_eq, mI_t, mI_f, bI_0, bI_1, bI_t, bI_f, dltT, dltF, dleT, dleF, deqT, deqF, Nat.not_lt_zero, not_true_eq_false, not_false_eq_true, true_and, and_true, false_and, and_false, or_true, true_or, false_or, or_false, and_self, if_true, if_false, Classical.not_not, Nat.add_assoc, Nat.zero_add, Nat.add_zero, bI_or, bI_True, bI_False, Bool.false_eq_true, reduceCtorEq, eq_self, gi_si, gl_si, gr_si, hn_si, hL_si, hX_si, gi_sl, gl_sl, gr_sl, hn_sl, ob_si, ar_si, ob_sl, ar_sl, ks_278_0, ks_278_1, ks_278_2, ks_278_3, ks_278_4, ks_278_5, oO_3, Cal_eq rq, Cal_eq r4])
                                exact hnx
                              · rw [show inV v (xQ (awM x p g n) p q) = 0 from if_neg hc, Nat.mul_zero] at hnx
                                (refine wp_go 600 ks_278_3.2.2.2.2.2.1 ?_; simp (disch := first | with_reducible assumption | omega | (simp only [ob_si, ar_si, ob_sl, ar_sl]; with_reducible assumption)) only [ci_0, ci_1, ci_2, ci_20, ci_8, ci_99, cl_0, cl_1, cl_4000000000000000000, cm_1, cm_4, cm_6, cm_9, iN_l, inc_i, jN_add, jN_div, jN_eq, jN_le, jN_lt, jN_mod, jN_mul, jN_sub, l0, lc_eq, lc_ge, lc_gt, lc_le, lc_lt, ldA_a, ldI_i, ldL_l, oc_201, oc_203, oc_212, oc_217, oc_236, oc_237, r_0, r_1, r_11, r_15, r_2, r_21, r_22, r_23, r_27, r_3, r_30, r_31, r_32, r_33, r_34, r_4, r_44, r_45, r_46, r_6, r_63, r_7, r_80_1, r_80_2, r_80_3, r_81_2, r_81_3, r_9, r_92, wpn_S, wpn_zero, stp_h, lk_0, lk_s, st1_0, st1_1, st1_2, st2_0, st2_1, st2_2, kj_i, kj_a, kj_l, kj_n, cat_n, cat_i, cat_a, cat_u, cat_l, vc_i, vc_a, rv_s, tl_n, tl_s, Cal'_s, List.length_cons, List.length_nil, i0, i1, iNd, iN_lt, iN_le, iN_eq, iN_add, iN_mul, iN_mod, iN_sub, iN_div, iN_clamp, iN_inb, zle_N, zlt_N, zN_le, zN_lt, zN_eq, Nz_eq, mI_t, mI_f, bI_0, bI_1, bI_t, bI_f, dltT, dltF, dleT, dleF, deqT, deqF, Nat.not_lt_zero, not_true_eq_false, not_false_eq_true, true_and, and_true, false_and, and_false, or_true, true_or, false_or, or_false, and_self, if_true, if_false, Classical.not_not, Nat.add_assoc, Nat.zero_add, Nat.add_zero, bI_or, bI_True, bI_False, Bool.false_eq_true, reduceCtorEq, eq_self, gi_si, gl_si, gr_si, hn_si, hL_si, hX_si, gi_sl, gl_sl, gr_sl, hn_sl, ob_si, ar_si, ob_sl, ar_sl, ks_278_0, ks_278_1, ks_278_2, ks_278_3, ks_278_4, ks_278_5, oO_3, Cal_eq rq, Cal_eq r4])
                                exact hnx
                          · rintro L h2 ⟨r1, r2, r3, A2, K2, F2, rfl⟩
                            have hQ := hQ h2 A2 F2
                            have hle := aw_le (x := x) (p := p) (q := q) (v := v) (n := n) (t := t) (by omega)
                            have ew : iN 1 <<< (iN n &&& 31) = iN (2 ^ n) := shl_eq32 (by omega)
                            change Q (some (.long (jN (lowT (sN2 (fun g => itr (aOd t g) 0 n 1 * inV v (xQ (awM x p g n) p q)) (2 ^ n)) (t ^ n) 0)))) h2 at hQ
                            change sN2 (fun g => itr (aOd t g) 0 n 1 * inV v (xQ (awM x p g n) p q)) (2 ^ n) ≤ t ^ n at hle
                            generalize sN2 (fun g => itr (aOd t g) 0 n 1 * inV v (xQ (awM x p g n) p q)) (2 ^ n) = S at *
                            generalize t ^ n = T at *
                            (refine wp_go 600 ks_278_2.2.2.2.2.2.2.2.2.2.2.2.2.2.2.2.2.2.2.2.2.1 ?_; simp (disch := first | with_reducible assumption | omega | (simp only [ob_si, ar_si, ob_sl, ar_sl]; with_reducible assumption)) only [ci_0, ci_1, ci_2, ci_20, ci_8, ci_99, cl_0, cl_1, cl_4000000000000000000, cm_1, cm_4, cm_6, cm_9, iN_l, inc_i, jN_add, jN_div, jN_eq, jN_le, jN_lt, jN_mod, jN_mul, jN_sub, l0, lc_eq, lc_ge, lc_gt, lc_le, lc_lt, ldA_a, ldI_i, ldL_l, oc_201, oc_203, oc_212, oc_217, oc_236, oc_237, r_0, r_1, r_11, r_15, r_2, r_21, r_22, r_23, r_27, r_3, r_30, r_31, r_32, r_33, r_34, r_4, r_44, r_45, r_46, r_6, r_63, r_7, r_80_1, r_80_2, r_80_3, r_81_2, r_81_3, r_9, r_92, wpn_S, wpn_zero, stp_h, lk_0, lk_s, st1_0, st1_1, st1_2, st2_0, st2_1, st2_2, kj_i, kj_a, kj_l, kj_n, cat_n, cat_i, cat_a, cat_u, cat_l, vc_i, vc_a, rv_s, tl_n, tl_s, Cal'_s, List.length_cons, List.length_nil, i0, i1, iNd, iN_lt, iN_le, iN_eq, iN_add, iN_mul, iN_mod, iN_sub, iN_div, iN_clamp, iN_inb, zle_N, zlt_N, zN_le, zN_lt, zN_eq, Nz_eq, mI_t, mI_f, bI_0, bI_1, bI_t, bI_f, dltT, dltF, dleT, dleF, deqT, deqF, Nat.not_lt_zero, not_true_eq_false, not_false_eq_true, true_and, and_true, false_and, and_false, or_true, true_or, false_or, or_false, and_self, if_true, if_false, Classical.not_not, Nat.add_assoc, Nat.zero_add, Nat.add_zero, bI_or, bI_True, bI_False, Bool.false_eq_true, reduceCtorEq, eq_self, gi_si, gl_si, gr_si, hn_si, hL_si, hX_si, gi_sl, gl_sl, gr_sl, hn_sl, ob_si, ar_si, ob_sl, ar_sl, ks_278_0, ks_278_1, ks_278_2, ks_278_3, ks_278_4, ks_278_5, ew, o_low_q])
                            exact hQ
                      obtain ⟨v', h', r, rfl, A, f⟩ := Ret_ex (d := 3) (y := 278) (as := [.ref 87, .int (iN p), .int (iN q), .int (iN v), .int (iN n), .int (iN t), .int (iN 0)]) [some (.ref 87), some (.int (iN p)), some (.int (iN q)), some (.int (iN v)), some (.int (iN n)), some (.int (iN t)), some (.int (iN 0)), none, none, none, none, none, none, none, none, none] rfl rfl (key (fun u h' => u = some (.long (jN (lowT (awN x p q v n t) (t ^ n) 0))) ∧ Ao h' x ∧ Fo Sy Fy h h') fun h' a b => ⟨rfl, a, b⟩)
                      exact ⟨h', Ret.up (d := 3) r (by decide), A, f⟩
                  · refine away_query hs (v := .long (jN (lowT (awN (gX s) p q v n t) (t ^ n) 1))) (fun h hB hI => ?_) (fun h hB hI => ?_)
                    · obtain ⟨oF, g0, g1, g2, g4, g5, g6, g7, g8, g9, g10, g11, g12, g13, o21, o22, o23, o28, o29, o32, o34, o36, oM⟩ := F_facts hB; obtain ⟨hA, iI, ⟨nx, hP⟩, hR, hL, hF, hT⟩ := id hI; have hW := hs.1; have hm : isM 1 := Or.inl rfl; have wN := hW.1
                      obtain ⟨h1, r1, w30, w31, eg, f1⟩ := n_weigh (i := p) (j := q) (n := n) (t := t) hB hA hW hi (by omega) (by omega) (by omega) (by omega) hT
                      have B1 := f1.bs hB
                      obtain ⟨oF_1, k0_1, k1_1, k2_1, k4_1, k5_1, k6_1, k7_1, k8_1, k9_1, k10_1, k11_1, k12_1, k13_1, u21_1, u22_1, u23_1, u28_1, u29_1, u32_1, u34_1, u36_1, uM_1⟩ := F_facts B1
                      have hsum := wg_sum hW (v := v) (n := n) (t := t) hi hj hij (by omega) (by omega) 1
                      have hpow := pow_8 (t := t) (k := n) (by omega) (by omega)
                      have hle : pr (wgN (gX s) p q t n) one1 (v + 1) ≤ 25600000000 := by
                        have hb := hW.2.2.2.2.2.1 p q
                        rw [pr_in _ (by omega)]
                        by_cases e : xM (gX s) p = q
                        · have h1 := aw_le (x := gX s) (p := p) (q := q) (v := v) (n := n) (t := t) (by omega)
                          rw [aw_mat hi hj hij hW.1 e] at h1
                          unfold wgN wkW
                          rw [if_pos e, pr_n, pr_dl, if_pos (by omega)]
                          omega
                        · unfold wgN
                          rw [if_neg e, pr_dl, if_pos (by omega)]
                          unfold inV
                          split <;> omega
                      have hbl : (if xM (gX s) p = q then t ^ n else 1) ≤ 25600000000 := by split <;> omega
                      have r2 := n_upto B1 w30 (show v ≤ 99 by omega)
                      have r3 := n_all B1
                      rw [eg] at r3
                      generalize (if xM (gX s) p = q then t ^ n else 1) = T at *
                      generalize pr (wgN (gX s) p q t n) one1 (v + 1) = S at *
                      rw [← hsum]
                      have r4 := g_low (h := h1) (a := S) (b := T) (p := 1) (by omega) (by omega) (by omega)
                      have f2 : Fr (fun o => Sz o ∨ o = 31) h h1 := f1.mono fun o ho => by unfold Sn at ho; unfold Sz; omega
                      refine ⟨h1, Ret.up (d := 5) ?_ (by decide), w31, f2⟩
                      refine Ret_L [some (.ref 0), some (.int (iN p)), some (.int (iN q)), some (.int (iN v)), some (.int (iN n)), some (.int (iN t)), some (.int (iN 1)), none] rfl rfl fun Q hQ => ?_
                      (refine wp_go 600 ks_172_0.1 ?_; simp (disch := first | with_reducible assumption | omega | (simp only [ob_si, ar_si, ob_sl, ar_sl]; with_reducible assumption)) only [ci_0, ci_1, ci_2, ci_20, ci_8, ci_99, cl_4000000000000000000, cm_1, cm_2, cm_4, cm_6, iN_l, jN_add, jN_div, jN_eq, jN_le, jN_lt, jN_mod, jN_mul, jN_sub, l0, lc_eq, lc_ge, lc_gt, lc_le, lc_lt, ldA_a, ldI_i, oc_1, oc_191, oc_2, oc_26, oc_3, r_0, r_2, r_22, r_27, r_3, r_30, r_31, r_32, r_33, r_44, r_45, r_46, r_6, r_62, r_7, r_80_1, r_80_2, r_80_3, r_80_5, r_81_3, r_92, wpn_S, wpn_zero, stp_h, lk_0, lk_s, st1_0, st1_1, st1_2, st2_0, st2_1, st2_2, kj_i, kj_a, kj_l, kj_n, cat_n, cat_i, cat_a, cat_u, cat_l, vc_i, vc_a, rv_s, tl_n, tl_s, Cal'_s, List.length_cons, List.length_nil, i0, i1, iNd, iN_lt, iN_le, iN_eq, iN_add, iN_mul, iN_mod, iN_sub, iN_div, iN_clamp, iN_inb, zle_N, zlt_N, zN_le, zN_lt, zN_eq, Nz_eq, mI_t, mI_f, bI_0, bI_1, bI_t, bI_f, dltT, dltF, dleT, dleF, deqT, deqF, Nat.not_lt_zero, not_true_eq_false, not_false_eq_true, true_and, and_true, false_and, and_false, or_true, true_or, false_or, or_false, and_self, if_true, if_false, Classical.not_not, Nat.add_assoc, Nat.zero_add, Nat.add_zero, bI_or, bI_True, bI_False, Bool.false_eq_true, reduceCtorEq, eq_self, gi_si, gl_si, gr_si, hn_si, hL_si, hX_si, gi_sl, gl_sl, gr_sl, hn_sl, ob_si, ar_si, ob_sl, ar_sl, ks_172_0, ks_172_1, ks_172_2, ks_172_3, oF, g0, g1, g2, g4, g5, g6, g7, g8, g9, g10, g11, g12, g13, o21, o22, o23, o28, o29, o32, o34, o36, oM, oF_1, k0_1, k1_1, k2_1, k4_1, k5_1, k6_1, k7_1, k8_1, k9_1, k10_1, k11_1, k12_1, k13_1, u21_1, u22_1, u23_1, u28_1, u29_1, u32_1, u34_1, u36_1, uM_1, oM, c_areT_q hm hB hA hW, hij, Cal_eq r1, Cal_eq r2, Cal_eq r3, Cal_eq r4])
                      exact hQ
                    · have oO := (O_facts hB).1; obtain ⟨hA, hIr, f0⟩ := IO_0 hI; replace hB := Bs.si hB 87 7 (iN 0); have hW := hs.1; obtain ⟨oO2, rO1, rO2, rO3, rO4, rO5, rO8, aO1, aO2, aO3, aO4, aO5, aO8, sO1, sO2, sO3, sO4, sO5, sO8⟩ := O_facts hB; obtain ⟨fN, fD, fK, fF, fH, fM, fQ⟩ := id hA; obtain ⟨wN, wK, wF, wH, wM, wQ, wS, wZ, wT⟩ := id hW
                      generalize gX s = x at *
                      have key : ∀ Q : Option Value → Hp → Prop, (∀ h', Ao h' x → Fo Sy Fy h h' → Q (some (.long (jN (lowT (awN x p q v n t) (t ^ n) 1)))) h') → wp 3 278 0 [some (.ref 87), some (.int (iN p)), some (.int (iN q)), some (.int (iN v)), some (.int (iN n)), some (.int (iN t)), some (.int (iN 1)), none, none, none, none, none, none, none, none, none] [] h Q := by
                        intro Q hQ
                        have hpow := pow_8 (t := t) (k := n) (by omega) (by omega)
                        have hpos : 0 < t ^ n := Nat.pow_pos (by omega)
                        (refine wp_go 600 ks_278_0.1 ?_; simp (disch := first | with_reducible assumption | omega | (simp only [ob_si, ar_si, ob_sl, ar_sl]; with_reducible assumption)) only [ci_0, ci_1, ci_2, ci_20, ci_8, ci_99, cl_0, cl_1, cl_4000000000000000000, cm_1, cm_4, cm_6, cm_9, iN_l, inc_i, jN_add, jN_div, jN_eq, jN_le, jN_lt, jN_mod, jN_mul, jN_sub, l0, lc_eq, lc_ge, lc_gt, lc_le, lc_lt, ldA_a, ldI_i, ldL_l, oc_201, oc_203, oc_212, oc_217, oc_236, oc_237, r_0, r_1, r_11, r_15, r_2, r_21, r_22, r_23, r_27, r_3, r_30, r_31, r_32, r_33, r_34, r_4, r_44, r_45, r_46, r_6, r_63, r_7, r_80_1, r_80_2, r_80_3, r_81_2, r_81_3, r_9, r_92, wpn_S, wpn_zero, stp_h, lk_0, lk_s, st1_0, st1_1, st1_2, st2_0, st2_1, st2_2, kj_i, kj_a, kj_l, kj_n, cat_n, cat_i, cat_a, cat_u, cat_l, vc_i, vc_a, rv_s, tl_n, tl_s, Cal'_s, List.length_cons, List.length_nil, i0, i1, iNd, iN_lt, iN_le, iN_eq, iN_add, iN_mul, iN_mod, iN_sub, iN_div, iN_clamp, iN_inb, zle_N, zlt_N, zN_le, zN_lt, zN_eq, Nz_eq, mI_t, mI_f, bI_0, bI_1, bI_t, bI_f, dltT, dltF, dleT, dleF, deqT, deqF, Nat.not_lt_zero, not_true_eq_false, not_false_eq_true, true_and, and_true, false_and, and_false, or_true, true_or, false_or, or_false, and_self, if_true, if_false, Classical.not_not, Nat.add_assoc, Nat.zero_add, Nat.add_zero, bI_or, bI_True, bI_False, Bool.false_eq_true, reduceCtorEq, eq_self, gi_si, gl_si, gr_si, hn_si, hL_si, hX_si, gi_sl, gl_sl, gr_sl, hn_sl, ob_si, ar_si, ob_sl, ar_sl, ks_278_0, ks_278_1, ks_278_2, ks_278_3, ks_278_4, ks_278_5, oO, oO2, rO1, rO2, rO3, rO4, rO5, rO8, aO1, aO2, aO3, aO4, aO5, aO8, fN, fD, fK, fF, fH, fM, fQ, oO, o_two_q hB hA hW, isT_N, o_wb0_q, isP_N])
                        refine wp_fold (fun k (_ : Nat) (_ : Unit) => [some (.ref 87), some (.int (iN p)), some (.int (iN q)), some (.int (iN v)), some (.int (iN n)), some (.int (iN t)), some (.int (iN 1)), some (.int (iN 0)), some (.long (jN 0)), none, some (.long (jN (t ^ k))), none, some (.int (iN k)), none, none, none]) (fun _ a => a) n ?_ n 0 0 () (by omega) ?_
                        · intro k a w hk hn
                          have hn := hn ()
                          rw [← wpn_pow] at hn
                          (refine wp_go 600 ks_278_2.2.2.2.2.2.2.1 ?_; simp (disch := first | with_reducible assumption | omega | (simp only [ob_si, ar_si, ob_sl, ar_sl]; with_reducible assumption)) only [ci_0, ci_1, ci_2, ci_20, ci_8, ci_99, cl_0, cl_1, cl_4000000000000000000, cm_1, cm_4, cm_6, cm_9, iN_l, inc_i, jN_add, jN_div, jN_eq, jN_le, jN_lt, jN_mod, jN_sub, l0, lc_eq, lc_ge, lc_gt, lc_le, lc_lt, ldA_a, ldI_i, ldL_l, oc_201, oc_203, oc_212, oc_217, oc_236, oc_237, r_0, r_1, r_11, r_15, r_2, r_21, r_22, r_23, r_27, r_3, r_30, r_31, r_32, r_33, r_34, r_4, r_44, r_45, r_46, r_6, r_63, r_7, r_80_1, r_80_2, r_80_3, r_81_2, r_81_3, r_9, r_92, wpn_S, wpn_zero, stp_h, lk_0, lk_s, st1_0, st1_1, st1_2, st2_0, st2_1, st2_2, kj_i, kj_a, kj_l, kj_n, cat_n, cat_i, cat_a, cat_u, cat_l, vc_i, vc_a, rv_s, tl_n, tl_s, Cal'_s, List.length_cons, List.length_nil, i0, i1, iNd, iN_lt, iN_le, iN_eq, iN_add, iN_mul, iN_mod, iN_sub, iN_div, iN_clamp, iN_inb, zle_N, zlt_N, zN_le, zN_lt, zN_eq, Nz_eq, mI_t, mI_f, bI_0, bI_1, bI_t, bI_f, dltT, dltF, dleT, dleF, deqT, deqF, Nat.not_lt_zero, not_true_eq_false, not_false_eq_true, true_and, and_true, false_and, and_false, or_true, true_or, false_or, or_false, and_self, if_true, if_false, Classical.not_not, Nat.add_assoc, Nat.zero_add, Nat.add_zero, bI_or, bI_True, bI_False, Bool.false_eq_true, reduceCtorEq, eq_self, gi_si, gl_si, gr_si, hn_si, hL_si, hX_si, gi_sl, gl_sl, gr_sl, hn_sl, ob_si, ar_si, ob_sl, ar_sl, ks_278_0, ks_278_1, ks_278_2, ks_278_3, ks_278_4, ks_278_5, iN_l])
                          exact hn
                        · intro w
                          obtain ⟨h1, r1, A1, K1, f1⟩ := wo_think hB hA
                          have B1 := f1.bs hB
                          (refine wp_go 600 ks_278_2.2.2.2.2.2.2.1 ?_; simp (disch := first | with_reducible assumption | omega | (simp only [ob_si, ar_si, ob_sl, ar_sl]; with_reducible assumption)) only [ci_0, ci_1, ci_2, ci_20, ci_8, ci_99, cl_0, cl_1, cl_4000000000000000000, cm_1, cm_4, cm_6, cm_9, iN_l, inc_i, jN_add, jN_div, jN_eq, jN_le, jN_lt, jN_mod, jN_mul, jN_sub, l0, lc_eq, lc_ge, lc_gt, lc_le, lc_lt, ldA_a, ldI_i, ldL_l, oc_201, oc_203, oc_212, oc_217, oc_236, oc_237, r_0, r_1, r_11, r_15, r_2, r_21, r_22, r_23, r_27, r_3, r_30, r_31, r_32, r_33, r_34, r_4, r_44, r_45, r_46, r_6, r_63, r_7, r_80_1, r_80_2, r_80_3, r_81_2, r_81_3, r_9, r_92, wpn_S, wpn_zero, stp_h, lk_0, lk_s, st1_0, st1_1, st1_2, st2_0, st2_1, st2_2, kj_i, kj_a, kj_l, kj_n, cat_n, cat_i, cat_a, cat_u, cat_l, vc_i, vc_a, rv_s, tl_n, tl_s, Cal'_s, List.length_cons, List.length_nil, i0, i1, iNd, iN_lt, iN_le, iN_eq, iN_add, iN_mul, iN_mod, iN_sub, iN_div, iN_clamp, iN_inb, zle_N, zlt_N, zN_le, zN_lt, zN_eq, Nz_eq, mI_t, mI_f, bI_0, bI_1, bI_t, bI_f, dltT, dltF, dleT, dleF, deqT, deqF, Nat.not_lt_zero, not_true_eq_false, not_false_eq_true, true_and, and_true, false_and, and_false, or_true, true_or, false_or, or_false, and_self, if_true, if_false, Classical.not_not, Nat.add_assoc, Nat.zero_add, Nat.add_zero, bI_or, bI_True, bI_False, Bool.false_eq_true, reduceCtorEq, eq_self, gi_si, gl_si, gr_si, hn_si, hL_si, hX_si, gi_sl, gl_sl, gr_sl, hn_sl, ob_si, ar_si, ob_sl, ar_sl, ks_278_0, ks_278_1, ks_278_2, ks_278_3, ks_278_4, ks_278_5, oO2, Cal_eq r1])
                          have h2n : 2 ^ n ≤ 256 := Nat.le_trans (Nat.pow_le_pow_right (by decide) (show n ≤ 8 by omega)) (by decide)
                          refine wp_loop (fun g L h' => ∃ r1 r2 r3, Ao h' x ∧ Kx h' 98 x ∧ Fo Sy Fy h h' ∧ L = [some (.ref 87), some (.int (iN p)), some (.int (iN q)), some (.int (iN v)), some (.int (iN n)), some (.int (iN t)), some (.int (iN 1)), some (.int (iN 0)), some (.long (jN (sN2 (fun g => itr (aOd t g) 0 n 1 * inV v (xQ (awM x p g n) p q)) g))), none, some (.long (jN (t ^ n))), none, some (.int (iN g)), r1, r2, r3]) (2 ^ n) ?_ ?_ (2 ^ n) 0 _ h1 (by omega) ⟨none, none, none, A1, K1, f0.tr (Fo_y98 f1), rfl⟩
                          · rintro g L h2 hg ⟨r1, r2, r3, A2, K2, F2, rfl⟩ hnx
                            have B2 := F2.bs hB
                            have oO_2 := (O_facts B2).1
                            have ew : iN 1 <<< (iN n &&& 31) = iN (2 ^ n) := shl_eq32 (by omega)
                            (refine wp_go 600 ks_278_2.2.2.2.2.2.2.2.2.2.2.2.2.2.2.2.2.2.2.2.2.1 ?_; simp (disch := first | with_reducible assumption | omega | (simp only [ob_si, ar_si, ob_sl, ar_sl]; with_reducible assumption)) only [ci_0, ci_1, ci_2, ci_20, ci_8, ci_99, cl_0, cl_1, cl_4000000000000000000, cm_1, cm_4, cm_6, cm_9, iN_l, inc_i, jN_add, jN_div, jN_eq, jN_le, jN_lt, jN_mod, jN_mul, jN_sub, l0, lc_eq, lc_ge, lc_gt, lc_le, lc_lt, ldA_a, ldI_i, ldL_l, oc_201, oc_203, oc_212, oc_217, oc_236, oc_237, r_0, r_1, r_11, r_15, r_2, r_21, r_22, r_23, r_27, r_3, r_30, r_31, r_32, r_33, r_34, r_4, r_44, r_45, r_46, r_6, r_63, r_7, r_80_1, r_80_2, r_80_3, r_81_2, r_81_3, r_9, r_92, wpn_S, wpn_zero, stp_h, lk_0, lk_s, st1_0, st1_1, st1_2, st2_0, st2_1, st2_2, kj_i, kj_a, kj_l, kj_n, cat_n, cat_i, cat_a, cat_u, cat_l, vc_i, vc_a, rv_s, tl_n, tl_s, Cal'_s, List.length_cons, List.length_nil, i0, i1, iNd, iN_lt, iN_le, iN_eq, iN_add, iN_mul, iN_mod, iN_sub, iN_div, iN_clamp, iN_inb, zle_N, zlt_N, zN_le, zN_lt, zN_eq, Nz_eq, mI_t, mI_f, bI_0, bI_1, bI_t, bI_f, dltT, dltF, dleT, dleF, deqT, deqF, Nat.not_lt_zero, not_true_eq_false, not_false_eq_true, true_and, and_true, false_and, and_false, or_true, true_or, false_or, or_false, and_self, if_true, if_false, Classical.not_not, Nat.add_assoc, Nat.zero_add, Nat.add_zero, bI_or, bI_True, bI_False, Bool.false_eq_true, reduceCtorEq, eq_self, gi_si, gl_si, gr_si, hn_si, hL_si, hX_si, gi_sl, gl_sl, gr_sl, hn_sl, ob_si, ar_si, ob_sl, ar_sl, ks_278_0, ks_278_1, ks_278_2, ks_278_3, ks_278_4, ks_278_5, ew])
                            refine wp_loop (fun k L h' => Ao h' (awM x p g k) ∧ Kx h' 98 x ∧ Fo Sy Fy h h' ∧ L = [some (.ref 87), some (.int (iN p)), some (.int (iN q)), some (.int (iN v)), some (.int (iN n)), some (.int (iN t)), some (.int (iN 1)), some (.int (iN 0)), some (.long (jN (sN2 (fun g => itr (aOd t g) 0 n 1 * inV v (xQ (awM x p g n) p q)) g))), none, some (.long (jN (t ^ n))), none, some (.int (iN g)), some (.long (jN (itr (aOd t g) 0 k 1))), none, some (.int (iN k))]) n ?_ ?_ n 0 _ h2 (by omega) ⟨A2, K2, F2, rfl⟩
                            · rintro k L h3 hk ⟨A3, K3, F3, rfl⟩ hny
                              have B3 := F3.bs hB
                              have oO_3 := (O_facts B3).1
                              have W3 := aw_W hW p g k
                              by_cases hb : g.testBit k = true
                              · obtain ⟨h4, r4, A4, f4⟩ := wo_day (a := p) (b := 6) (va := iN p) (vb := zI (-9)) B3 A3 W3 (by omega) (Or.inr rfl) (mI_t (by omega)).symm mI_6.symm
                                have hny := hny _ h4 ⟨by rw [aw_s, if_pos hb]; exact A4, K3.fr f4 (by unfold Sq; omega) (by omega), F3.tr (Fo_yq f4), rfl⟩
                                rw [itr_last, Nat.zero_add, show aOd t g k (itr (aOd t g) 0 k 1) = itr (aOd t g) 0 k 1 * 1 from (if_pos hb).trans (Nat.mul_one _).symm] at hny
                                (refine wp_go 600 ks_278_3.2.2.2.2.2.1 ?_; simp (disch := first | with_reducible assumption | omega | (simp only [ob_si, ar_si, ob_sl, ar_sl]; with_reducible assumption)) only [ci_0, ci_1, ci_2, ci_20, ci_8, ci_99, cl_0, cl_1, cl_4000000000000000000, cm_1, cm_4, cm_6, cm_9, iN_l, inc_i, jN_add, jN_div, jN_eq, jN_le, jN_lt, jN_mod, jN_mul, jN_sub, l0, lc_eq, lc_ge, lc_gt, lc_le, lc_lt, ldA_a, ldI_i, ldL_l, oc_201, oc_203, oc_212, oc_217, oc_236, oc_237, r_0, r_1, r_11, r_15, r_2, r_21, r_22, r_23, r_27, r_3, r_30, r_31, r_32, r_33, r_34, r_4, r_44, r_45, r_46, r_6, r_63, r_7, r_80_1, r_80_2, r_80_3, r_81_2, r_81_3, r_9, r_92, wpn_S, wpn_zero, stp_h, lk_0, lk_s, st1_0, st1_1, st1_2, st2_0, st2_1, st2_2, kj_i, kj_a, kj_l, kj_n, cat_n, cat_i, cat_a, cat_u, cat_l, vc_i, vc_a, rv_s, tl_n, tl_s, Cal'_s, List.length_cons, List.length_nil, i0, i1, iNd, iN_lt, iN_le, iN_eq, iN_add, iN_mul, iN_mod, iN_sub, iN_div, iN_clamp, iN_inb, zle_N, zlt_N, zN_le, zN_lt, zN_eq, Nz_eq, mI_t, mI_f, bI_0, bI_1, bI_t, bI_f, dltT, dltF, dleT, dleF, deqT, deqF, Nat.not_lt_zero, not_true_eq_false, not_false_eq_true, true_and, and_true, false_and, and_false, or_true, true_or, false_or, or_false, and_self, if_true, if_false, Classical.not_not, Nat.add_assoc, Nat.zero_add, Nat.add_zero, bI_or, bI_True, bI_False, Bool.false_eq_true, reduceCtorEq, eq_self, gi_si, gl_si, gr_si, hn_si, hL_si, hX_si, gi_sl, gl_sl, gr_sl, hn_sl, ob_si, ar_si, ob_sl, ar_sl, ks_278_0, ks_278_1, ks_278_2, ks_278_3, ks_278_4, ks_278_5, oO_3, o_bit_q, hb, Cal_eq r4])
                                exact hny
                              · obtain ⟨h4, r4, A4, f4⟩ := wo_day (a := 6) (b := 6) (va := zI (-9)) (vb := zI (-9)) B3 A3 W3 (by omega) (Or.inr rfl) mI_6.symm mI_6.symm
                                have hny := hny _ h4 ⟨by rw [aw_s, if_neg hb]; exact A4, K3.fr f4 (by unfold Sq; omega) (by omega), F3.tr (Fo_yq f4), rfl⟩
                                rw [itr_last, Nat.zero_add, show aOd t g k (itr (aOd t g) 0 k 1) = itr (aOd t g) 0 k 1 * (t - 1) from if_neg hb] at hny
                                (refine wp_go 600 ks_278_3.2.2.2.2.2.1 ?_; simp (disch := first | with_reducible assumption | omega | (simp only [ob_si, ar_si, ob_sl, ar_sl]; with_reducible assumption)) only [ci_0, ci_1, ci_2, ci_20, ci_8, ci_99, cl_0, cl_1, cl_4000000000000000000, cm_1, cm_4, cm_6, cm_9, iN_l, inc_i, jN_add, jN_div, jN_eq, jN_le, jN_lt, jN_mod, jN_mul, jN_sub, l0, lc_eq, lc_ge, lc_gt, lc_le, lc_lt, ldA_a, ldI_i, ldL_l, oc_201, oc_203, oc_212, oc_217, oc_236, oc_237, r_0, r_1, r_11, r_15, r_2, r_21, r_22, r_23, r_27, r_3, r_30, r_31, r_32, r_33, r_34, r_4, r_44, r_45, r_46, r_6, r_63, r_7, r_80_1, r_80_2, r_80_3, r_81_2, r_81_3, r_9, r_92, wpn_S, wpn_zero, stp_h, lk_0, lk_s, st1_0, st1_1, st1_2, st2_0, st2_1, st2_2, kj_i, kj_a, kj_l, kj_n, cat_n, cat_i, cat_a, cat_u, cat_l, vc_i, vc_a, rv_s, tl_n, tl_s, Cal'_s, List.length_cons, List.length_nil, i0, i1, iNd, iN_lt, iN_le, iN_eq, iN_add, iN_mul, iN_mod, iN_sub, iN_div, iN_clamp, iN_inb, zle_N, zlt_N, zN_le, zN_lt, zN_eq, Nz_eq, mI_t, mI_f, bI_0, bI_1, bI_t, bI_f, dltT, dltF, dleT, dleF, deqT, deqF, Nat.not_lt_zero, not_true_eq_false, not_false_eq_true, true_and, and_true, false_and, and_false, or_true, true_or, false_or, or_false, and_self, if_true, if_false, Classical.not_not, Nat.add_assoc, Nat.zero_add, Nat.add_zero, bI_or, bI_True, bI_False, Bool.false_eq_true, reduceCtorEq, eq_self, gi_si, gl_si, gr_si, hn_si, hL_si, hX_si, gi_sl, gl_sl, gr_sl, hn_sl, ob_si, ar_si, ob_sl, ar_sl, ks_278_0, ks_278_1, ks_278_2, ks_278_3, ks_278_4, ks_278_5, oO_3, o_bit_q, hb, iN_l, Cal_eq r4])
                                exact hny
                            · rintro L h3 ⟨A3, K3, F3, rfl⟩
                              have B3 := F3.bs hB
                              have oO_3 := (O_facts B3).1
                              have W3 := aw_W hW p g n
                              have hN : xN (awM x p g n) = xN x := (aw_e x p g n).1
                              have rq := o_quar (i := p) (j := q) B3 A3 W3 (by omega) (by omega)
                              have hq := W3.2.2.2.2.2.1 p q
                              obtain ⟨h4, r4, A4, K4, f4⟩ := wo_again B3 K3
                              have oO_4 := (O_facts (f4.bs B3)).1
                              have hnx := hnx _ h4 ⟨some (.long (jN (itr (aOd t g) 0 n 1))), none, some (.int (iN n)), A4, K4, F3.tr (Fo_y98 f4), rfl⟩
                              rw [show sN2 (fun g => itr (aOd t g) 0 n 1 * inV v (xQ (awM x p g n) p q)) (g + 1) = sN2 (fun g => itr (aOd t g) 0 n 1 * inV v (xQ (awM x p g n) p q)) g + itr (aOd t g) 0 n 1 * inV v (xQ (awM x p g n) p q) from rfl] at hnx
                              by_cases hc : xQ (awM x p g n) p q ≤ v
                              · rw [show inV v (xQ (awM x p g n) p q) = 1 from if_pos hc, Nat.mul_one] at hnx
                                (refine wp_go 600 ks_278_3.2.2.2.2.2.1 ?_; simp (disch := first | with_reducible assumption | omega | (simp only [ob_si, ar_si, ob_sl, ar_sl]; with_reducible assumption)) only [ci_0, ci_1, ci_2, ci_20, ci_8, ci_99, cl_0, cl_1, cl_4000000000000000000, cm_1, cm_4, cm_6, cm_9, iN_l, inc_i, jN_add, jN_div, jN_eq, jN_le, jN_lt, jN_mod, jN_mul, jN_sub, l0, lc_eq, lc_ge, lc_gt, lc_le, lc_lt, ldA_a, ldI_i, ldL_l, oc_201, oc_203, oc_212, oc_217, oc_236, oc_237, r_0, r_1, r_11, r_15, r_2, r_21, r_22, r_23, r_27, r_3, r_30, r_31, r_32, r_33, r_34, r_4, r_44, r_45, r_46, r_6, r_63, r_7, r_80_1, r_80_2, r_80_3, r_81_2, r_81_3, r_9, r_92, wpn_S, wpn_zero, stp_h, lk_0, lk_s, st1_0, st1_1, st1_2, st2_0, st2_1, st2_2, kj_i, kj_a, kj_l, kj_n, cat_n, cat_i, cat_a, cat_u, cat_l, vc_i, vc_a, rv_s, tl_n, tl_s, Cal'_s, List.length_cons, List.length_nil, i0, i1, iNd, iN_lt, iN_le, iN_eq, iN_add, iN_mul, iN_mod, iN_sub, iN_div, iN_clamp, iN_inb, zle_N, zlt_N, zN_le, zN_lt, zN_eq, Nz_eq, mI_t, mI_f, bI_0, bI_1, bI_t, bI_f, dltT, dltF, dleT, dleF, deqT, deqF, Nat.not_lt_zero, not_true_eq_false, not_false_eq_true, true_and, and_true, false_and, and_false, or_true, true_or, false_or, or_false, and_self, if_true, if_false, Classical.not_not, Nat.add_assoc, Nat.zero_add, Nat.add_zero, bI_or, bI_True, bI_False, Bool.false_eq_true, reduceCtorEq, eq_self, gi_si, gl_si, gr_si, hn_si, hL_si, hX_si, gi_sl, gl_sl, gr_sl, hn_sl, ob_si, ar_si, ob_sl, ar_sl, ks_278_0, ks_278_1, ks_278_2, ks_278_3, ks_278_4, ks_278_5, oO_3, Cal_eq rq, Cal_eq r4])
                                exact hnx
                              · rw [show inV v (xQ (awM x p g n) p q) = 0 from if_neg hc, Nat.mul_zero] at hnx
                                (refine wp_go 600 ks_278_3.2.2.2.2.2.1 ?_; simp (disch := first | with_reducible assumption | omega | (simp only [ob_si, ar_si, ob_sl, ar_sl]; with_reducible assumption)) only [ci_0, ci_1, ci_2, ci_20, ci_8, ci_99, cl_0, cl_1, cl_4000000000000000000, cm_1, cm_4, cm_6, cm_9, iN_l, inc_i, jN_add, jN_div, jN_eq, jN_le, jN_lt, jN_mod, jN_mul, jN_sub, l0, lc_eq, lc_ge, lc_gt, lc_le, lc_lt, ldA_a, ldI_i, ldL_l, oc_201, oc_203, oc_212, oc_217, oc_236, oc_237, r_0, r_1, r_11, r_15, r_2, r_21, r_22, r_23, r_27, r_3, r_30, r_31, r_32, r_33, r_34, r_4, r_44, r_45, r_46, r_6, r_63, r_7, r_80_1, r_80_2, r_80_3, r_81_2, r_81_3, r_9, r_92, wpn_S, wpn_zero, stp_h, lk_0, lk_s, st1_0, st1_1, st1_2, st2_0, st2_1, st2_2, kj_i, kj_a, kj_l, kj_n, cat_n, cat_i, cat_a, cat_u, cat_l, vc_i, vc_a, rv_s, tl_n, tl_s, Cal'_s, List.length_cons, List.length_nil, i0, i1, iNd, iN_lt, iN_le, iN_eq, iN_add, iN_mul, iN_mod, iN_sub, iN_div, iN_clamp, iN_inb, zle_N, zlt_N, zN_le, zN_lt, zN_eq, Nz_eq, mI_t, mI_f, bI_0, bI_1, bI_t, bI_f, dltT, dltF, dleT, dleF, deqT, deqF, Nat.not_lt_zero, not_true_eq_false, not_false_eq_true, true_and, and_true, false_and, and_false, or_true, true_or, false_or, or_false, and_self, if_true, if_false, Classical.not_not, Nat.add_assoc, Nat.zero_add, Nat.add_zero, bI_or, bI_True, bI_False, Bool.false_eq_true, reduceCtorEq, eq_self, gi_si, gl_si, gr_si, hn_si, hL_si, hX_si, gi_sl, gl_sl, gr_sl, hn_sl, ob_si, ar_si, ob_sl, ar_sl, ks_278_0, ks_278_1, ks_278_2, ks_278_3, ks_278_4, ks_278_5, oO_3, Cal_eq rq, Cal_eq r4])
                                exact hnx
                          · rintro L h2 ⟨r1, r2, r3, A2, K2, F2, rfl⟩
                            have hQ := hQ h2 A2 F2
                            have hle := aw_le (x := x) (p := p) (q := q) (v := v) (n := n) (t := t) (by omega)
                            have ew : iN 1 <<< (iN n &&& 31) = iN (2 ^ n) := shl_eq32 (by omega)
                            change Q (some (.long (jN (lowT (sN2 (fun g => itr (aOd t g) 0 n 1 * inV v (xQ (awM x p g n) p q)) (2 ^ n)) (t ^ n) 1)))) h2 at hQ
                            change sN2 (fun g => itr (aOd t g) 0 n 1 * inV v (xQ (awM x p g n) p q)) (2 ^ n) ≤ t ^ n at hle
                            generalize sN2 (fun g => itr (aOd t g) 0 n 1 * inV v (xQ (awM x p g n) p q)) (2 ^ n) = S at *
                            generalize t ^ n = T at *
                            (refine wp_go 600 ks_278_2.2.2.2.2.2.2.2.2.2.2.2.2.2.2.2.2.2.2.2.2.1 ?_; simp (disch := first | with_reducible assumption | omega | (simp only [ob_si, ar_si, ob_sl, ar_sl]; with_reducible assumption)) only [ci_0, ci_1, ci_2, ci_20, ci_8, ci_99, cl_0, cl_1, cl_4000000000000000000, cm_1, cm_4, cm_6, cm_9, iN_l, inc_i, jN_add, jN_div, jN_eq, jN_le, jN_lt, jN_mod, jN_mul, jN_sub, l0, lc_eq, lc_ge, lc_gt, lc_le, lc_lt, ldA_a, ldI_i, ldL_l, oc_201, oc_203, oc_212, oc_217, oc_236, oc_237, r_0, r_1, r_11, r_15, r_2, r_21, r_22, r_23, r_27, r_3, r_30, r_31, r_32, r_33, r_34, r_4, r_44, r_45, r_46, r_6, r_63, r_7, r_80_1, r_80_2, r_80_3, r_81_2, r_81_3, r_9, r_92, wpn_S, wpn_zero, stp_h, lk_0, lk_s, st1_0, st1_1, st1_2, st2_0, st2_1, st2_2, kj_i, kj_a, kj_l, kj_n, cat_n, cat_i, cat_a, cat_u, cat_l, vc_i, vc_a, rv_s, tl_n, tl_s, Cal'_s, List.length_cons, List.length_nil, i0, i1, iNd, iN_lt, iN_le, iN_eq, iN_add, iN_mul, iN_mod, iN_sub, iN_div, iN_clamp, iN_inb, zle_N, zlt_N, zN_le, zN_lt, zN_eq, Nz_eq, mI_t, mI_f, bI_0, bI_1, bI_t, bI_f, dltT, dltF, dleT, dleF, deqT, deqF, Nat.not_lt_zero, not_true_eq_false, not_false_eq_true, true_and, and_true, false_and, and_false, or_true, true_or, false_or, or_false, and_self, if_true, if_false, Classical.not_not, Nat.add_assoc, Nat.zero_add, Nat.add_zero, bI_or, bI_True, bI_False, Bool.false_eq_true, reduceCtorEq, eq_self, gi_si, gl_si, gr_si, hn_si, hL_si, hX_si, gi_sl, gl_sl, gr_sl, hn_sl, ob_si, ar_si, ob_sl, ar_sl, ks_278_0, ks_278_1, ks_278_2, ks_278_3, ks_278_4, ks_278_5, ew, o_low_q])
                            exact hQ
                      obtain ⟨v', h', r, rfl, A, f⟩ := Ret_ex (d := 3) (y := 278) (as := [.ref 87, .int (iN p), .int (iN q), .int (iN v), .int (iN n), .int (iN t), .int (iN 1)]) [some (.ref 87), some (.int (iN p)), some (.int (iN q)), some (.int (iN v)), some (.int (iN n)), some (.int (iN t)), some (.int (iN 1)), none, none, none, none, none, none, none, none, none] rfl rfl (key (fun u h' => u = some (.long (jN (lowT (awN x p q v n t) (t ^ n) 1))) ∧ Ao h' x ∧ Fo Sy Fy h h') fun h' a b => ⟨rfl, a, b⟩)
                      exact ⟨h', Ret.up (d := 3) r (by decide), A, f⟩
                · by_cases f0 : f < iN 0
                  · obtain ⟨f1, f2⟩ := raw_lt f0
                    refine op_refuse hs (k := 2) (by decide) (v := .long (jN 4000000000000000000 - (zI (-2)).toInt64)) (fun h hB hI => Ret.up (d := 5) ?_ (by decide)) (fun h hB hI => Ret.up (d := 3) ?_ (by decide))
                    · obtain ⟨oF, g0, g1, g2, g4, g5, g6, g7, g8, g9, g10, g11, g12, g13, o21, o22, o23, o28, o29, o32, o34, o36, oM⟩ := F_facts hB; obtain ⟨hA, iI, ⟨nx, hP⟩, hR, hL, hF, hT⟩ := id hI; have hW := hs.1; have hm : isM 1 := Or.inl rfl; have wN := hW.1
                      refine Ret_L [some (.ref 0), some (.int (iN p)), some (.int (iN q)), some (.int (iN v)), some (.int (iN n)), some (.int (iN t)), some (.int f), none] rfl rfl fun Q hQ => ?_
                      (refine wp_go 600 ks_172_0.1 ?_; simp (disch := first | with_reducible assumption | omega | (simp only [ob_si, ar_si, ob_sl, ar_sl]; with_reducible assumption)) only [ci_0, ci_1, ci_2, ci_20, ci_8, ci_99, cl_4000000000000000000, cm_1, cm_2, cm_4, cm_6, iN_l, jN_add, jN_div, jN_eq, jN_le, jN_lt, jN_mod, jN_mul, jN_sub, l0, lc_eq, lc_ge, lc_gt, lc_le, lc_lt, ldA_a, ldI_i, oc_1, oc_191, oc_2, oc_26, oc_3, r_0, r_2, r_22, r_27, r_3, r_30, r_31, r_32, r_33, r_44, r_45, r_46, r_6, r_62, r_7, r_80_1, r_80_2, r_80_3, r_80_5, r_81_3, r_92, wpn_S, wpn_zero, stp_h, lk_0, lk_s, st1_0, st1_1, st1_2, st2_0, st2_1, st2_2, kj_i, kj_a, kj_l, kj_n, cat_n, cat_i, cat_a, cat_u, cat_l, vc_i, vc_a, rv_s, tl_n, tl_s, Cal'_s, List.length_cons, List.length_nil, i0, i1, iNd, iN_lt, iN_le, iN_eq, iN_add, iN_mul, iN_mod, iN_sub, iN_div, iN_clamp, iN_inb, zle_N, zlt_N, zN_le, zN_lt, zN_eq, Nz_eq, mI_t, mI_f, bI_0, bI_1, bI_t, bI_f, dltT, dltF, dleT, dleF, deqT, deqF, Nat.not_lt_zero, not_true_eq_false, not_false_eq_true, true_and, and_true, false_and, and_false, or_true, true_or, false_or, or_false, and_self, if_true, if_false, Classical.not_not, Nat.add_assoc, Nat.zero_add, Nat.add_zero, bI_or, bI_True, bI_False, Bool.false_eq_true, reduceCtorEq, eq_self, gi_si, gl_si, gr_si, hn_si, hL_si, hX_si, gi_sl, gl_sl, gr_sl, hn_sl, ob_si, ar_si, ob_sl, ar_sl, ks_172_0, ks_172_1, ks_172_2, ks_172_3, oF, g0, g1, g2, g4, g5, g6, g7, g8, g9, g10, g11, g12, g13, o21, o22, o23, o28, o29, o32, o34, o36, oM, oM, c_areT_q hm hB hA hW, hij, f1, f2, c_ref2_q hB])
                      exact hQ
                    · have oO := (O_facts hB).1; obtain ⟨hA, hIr, f0⟩ := IO_0 hI; replace hB := Bs.si hB 87 7 (iN 0); have hW := hs.1; obtain ⟨oO2, rO1, rO2, rO3, rO4, rO5, rO8, aO1, aO2, aO3, aO4, aO5, aO8, sO1, sO2, sO3, sO4, sO5, sO8⟩ := O_facts hB; obtain ⟨fN, fD, fK, fF, fH, fM, fQ⟩ := id hA; obtain ⟨wN, wK, wF, wH, wM, wQ, wS, wZ, wT⟩ := id hW
                      refine Ret_L [some (.ref 87), some (.int (iN p)), some (.int (iN q)), some (.int (iN v)), some (.int (iN n)), some (.int (iN t)), some (.int f), none, none, none, none, none, none, none, none, none] rfl rfl fun Q hQ => ?_
                      (refine wp_go 600 ks_278_0.1 ?_; simp (disch := first | with_reducible assumption | omega | (simp only [ob_si, ar_si, ob_sl, ar_sl]; with_reducible assumption)) only [ci_0, ci_1, ci_2, ci_20, ci_8, ci_99, cl_0, cl_1, cl_4000000000000000000, cm_1, cm_4, cm_6, cm_9, iN_l, inc_i, jN_add, jN_div, jN_eq, jN_le, jN_lt, jN_mod, jN_mul, jN_sub, l0, lc_eq, lc_ge, lc_gt, lc_le, lc_lt, ldA_a, ldI_i, ldL_l, oc_201, oc_203, oc_212, oc_217, oc_236, oc_237, r_0, r_1, r_11, r_15, r_2, r_21, r_22, r_23, r_27, r_3, r_30, r_31, r_32, r_33, r_34, r_4, r_44, r_45, r_46, r_6, r_63, r_7, r_80_1, r_80_2, r_80_3, r_81_2, r_81_3, r_9, r_92, wpn_S, wpn_zero, stp_h, lk_0, lk_s, st1_0, st1_1, st1_2, st2_0, st2_1, st2_2, kj_i, kj_a, kj_l, kj_n, cat_n, cat_i, cat_a, cat_u, cat_l, vc_i, vc_a, rv_s, tl_n, tl_s, Cal'_s, List.length_cons, List.length_nil, i0, i1, iNd, iN_lt, iN_le, iN_eq, iN_add, iN_mul, iN_mod, iN_sub, iN_div, iN_clamp, iN_inb, zle_N, zlt_N, zN_le, zN_lt, zN_eq, Nz_eq, mI_t, mI_f, bI_0, bI_1, bI_t, bI_f, dltT, dltF, dleT, dleF, deqT, deqF, Nat.not_lt_zero, not_true_eq_false, not_false_eq_true, true_and, and_true, false_and, and_false, or_true, true_or, false_or, or_false, and_self, if_true, if_false, Classical.not_not, Nat.add_assoc, Nat.zero_add, Nat.add_zero, bI_or, bI_True, bI_False, Bool.false_eq_true, reduceCtorEq, eq_self, gi_si, gl_si, gr_si, hn_si, hL_si, hX_si, gi_sl, gl_sl, gr_sl, hn_sl, ob_si, ar_si, ob_sl, ar_sl, ks_278_0, ks_278_1, ks_278_2, ks_278_3, ks_278_4, ks_278_5, oO, oO, o_two_q hB hA hW, isT_N, o_wb0_q, hw, o_ref2_q hB, o_wb_q])
                      exact hQ
                  · obtain ⟨f1, f2⟩ := raw_ge f0
                    obtain ⟨f3, f4, f5, f6⟩ := notP_f f0 hw (by omega)
                    refine op_refuse hs (k := 2) (by decide) (v := .long (jN 4000000000000000000 - (zI (-2)).toInt64)) (fun h hB hI => Ret.up (d := 5) ?_ (by decide)) (fun h hB hI => Ret.up (d := 3) ?_ (by decide))
                    · obtain ⟨oF, g0, g1, g2, g4, g5, g6, g7, g8, g9, g10, g11, g12, g13, o21, o22, o23, o28, o29, o32, o34, o36, oM⟩ := F_facts hB; obtain ⟨hA, iI, ⟨nx, hP⟩, hR, hL, hF, hT⟩ := id hI; have hW := hs.1; have hm : isM 1 := Or.inl rfl; have wN := hW.1
                      refine Ret_L [some (.ref 0), some (.int (iN p)), some (.int (iN q)), some (.int (iN v)), some (.int (iN n)), some (.int (iN t)), some (.int f), none] rfl rfl fun Q hQ => ?_
                      (refine wp_go 600 ks_172_0.1 ?_; simp (disch := first | with_reducible assumption | omega | (simp only [ob_si, ar_si, ob_sl, ar_sl]; with_reducible assumption)) only [ci_0, ci_1, ci_2, ci_20, ci_8, ci_99, cl_4000000000000000000, cm_1, cm_2, cm_4, cm_6, iN_l, jN_add, jN_div, jN_eq, jN_le, jN_lt, jN_mod, jN_mul, jN_sub, l0, lc_eq, lc_ge, lc_gt, lc_le, lc_lt, ldA_a, ldI_i, oc_1, oc_191, oc_2, oc_26, oc_3, r_0, r_2, r_22, r_27, r_3, r_30, r_31, r_32, r_33, r_44, r_45, r_46, r_6, r_62, r_7, r_80_1, r_80_2, r_80_3, r_80_5, r_81_3, r_92, wpn_S, wpn_zero, stp_h, lk_0, lk_s, st1_0, st1_1, st1_2, st2_0, st2_1, st2_2, kj_i, kj_a, kj_l, kj_n, cat_n, cat_i, cat_a, cat_u, cat_l, vc_i, vc_a, rv_s, tl_n, tl_s, Cal'_s, List.length_cons, List.length_nil, i0, i1, iNd, iN_lt, iN_le, iN_eq, iN_add, iN_mul, iN_mod, iN_sub, iN_div, iN_clamp, iN_inb, zle_N, zlt_N, zN_le, zN_lt, zN_eq, Nz_eq, mI_t, mI_f, bI_0, bI_1, bI_t, bI_f, dltT, dltF, dleT, dleF, deqT, deqF, Nat.not_lt_zero, not_true_eq_false, not_false_eq_true, true_and, and_true, false_and, and_false, or_true, true_or, false_or, or_false, and_self, if_true, if_false, Classical.not_not, Nat.add_assoc, Nat.zero_add, Nat.add_zero, bI_or, bI_True, bI_False, Bool.false_eq_true, reduceCtorEq, eq_self, gi_si, gl_si, gr_si, hn_si, hL_si, hX_si, gi_sl, gl_sl, gr_sl, hn_sl, ob_si, ar_si, ob_sl, ar_sl, ks_172_0, ks_172_1, ks_172_2, ks_172_3, oF, g0, g1, g2, g4, g5, g6, g7, g8, g9, g10, g11, g12, g13, o21, o22, o23, o28, o29, o32, o34, o36, oM, oM, c_areT_q hm hB hA hW, hij, f1, f2, f3, f4, f5, f6, c_ref2_q hB])
                      exact hQ
                    · have oO := (O_facts hB).1; obtain ⟨hA, hIr, f0⟩ := IO_0 hI; replace hB := Bs.si hB 87 7 (iN 0); have hW := hs.1; obtain ⟨oO2, rO1, rO2, rO3, rO4, rO5, rO8, aO1, aO2, aO3, aO4, aO5, aO8, sO1, sO2, sO3, sO4, sO5, sO8⟩ := O_facts hB; obtain ⟨fN, fD, fK, fF, fH, fM, fQ⟩ := id hA; obtain ⟨wN, wK, wF, wH, wM, wQ, wS, wZ, wT⟩ := id hW
                      refine Ret_L [some (.ref 87), some (.int (iN p)), some (.int (iN q)), some (.int (iN v)), some (.int (iN n)), some (.int (iN t)), some (.int f), none, none, none, none, none, none, none, none, none] rfl rfl fun Q hQ => ?_
                      (refine wp_go 600 ks_278_0.1 ?_; simp (disch := first | with_reducible assumption | omega | (simp only [ob_si, ar_si, ob_sl, ar_sl]; with_reducible assumption)) only [ci_0, ci_1, ci_2, ci_20, ci_8, ci_99, cl_0, cl_1, cl_4000000000000000000, cm_1, cm_4, cm_6, cm_9, iN_l, inc_i, jN_add, jN_div, jN_eq, jN_le, jN_lt, jN_mod, jN_mul, jN_sub, l0, lc_eq, lc_ge, lc_gt, lc_le, lc_lt, ldA_a, ldI_i, ldL_l, oc_201, oc_203, oc_212, oc_217, oc_236, oc_237, r_0, r_1, r_11, r_15, r_2, r_21, r_22, r_23, r_27, r_3, r_30, r_31, r_32, r_33, r_34, r_4, r_44, r_45, r_46, r_6, r_63, r_7, r_80_1, r_80_2, r_80_3, r_81_2, r_81_3, r_9, r_92, wpn_S, wpn_zero, stp_h, lk_0, lk_s, st1_0, st1_1, st1_2, st2_0, st2_1, st2_2, kj_i, kj_a, kj_l, kj_n, cat_n, cat_i, cat_a, cat_u, cat_l, vc_i, vc_a, rv_s, tl_n, tl_s, Cal'_s, List.length_cons, List.length_nil, i0, i1, iNd, iN_lt, iN_le, iN_eq, iN_add, iN_mul, iN_mod, iN_sub, iN_div, iN_clamp, iN_inb, zle_N, zlt_N, zN_le, zN_lt, zN_eq, Nz_eq, mI_t, mI_f, bI_0, bI_1, bI_t, bI_f, dltT, dltF, dleT, dleF, deqT, deqF, Nat.not_lt_zero, not_true_eq_false, not_false_eq_true, true_and, and_true, false_and, and_false, or_true, true_or, false_or, or_false, and_self, if_true, if_false, Classical.not_not, Nat.add_assoc, Nat.zero_add, Nat.add_zero, bI_or, bI_True, bI_False, Bool.false_eq_true, reduceCtorEq, eq_self, gi_si, gl_si, gr_si, hn_si, hL_si, hX_si, gi_sl, gl_sl, gr_sl, hn_sl, ob_si, ar_si, ob_sl, ar_sl, ks_278_0, ks_278_1, ks_278_2, ks_278_3, ks_278_4, ks_278_5, oO, oO, o_two_q hB hA hW, isT_N, o_wb0_q, hw, o_ref2_q hB, o_wb_q])
                      exact hQ
            · obtain ⟨d3, d4, d5, d6⟩ := notP_f d0 hd (by omega)
              have k5 := c7.1
              have k6 := c7.2
              refine op_refuse hs (k := 6) (by decide) (v := .long (jN 4000000000000000000 - (zI (-6)).toInt64)) (fun h hB hI => Ret.up (d := 5) ?_ (by decide)) (fun h hB hI => Ret.up (d := 3) ?_ (by decide))
              · obtain ⟨oF, g0, g1, g2, g4, g5, g6, g7, g8, g9, g10, g11, g12, g13, o21, o22, o23, o28, o29, o32, o34, o36, oM⟩ := F_facts hB; obtain ⟨hA, iI, ⟨nx, hP⟩, hR, hL, hF, hT⟩ := id hI; have hW := hs.1; have hm : isM 1 := Or.inl rfl; have wN := hW.1
                refine Ret_L [some (.ref 0), some (.int (iN p)), some (.int (iN q)), some (.int c), some (.int d), some (.int e), some (.int f), none] rfl rfl fun Q hQ => ?_
                (refine wp_go 600 ks_172_0.1 ?_; simp (disch := first | with_reducible assumption | omega | (simp only [ob_si, ar_si, ob_sl, ar_sl]; with_reducible assumption)) only [ci_0, ci_1, ci_2, ci_20, ci_8, ci_99, cl_4000000000000000000, cm_1, cm_2, cm_4, cm_6, iN_l, jN_add, jN_div, jN_eq, jN_le, jN_lt, jN_mod, jN_mul, jN_sub, l0, lc_eq, lc_ge, lc_gt, lc_le, lc_lt, ldA_a, ldI_i, oc_1, oc_191, oc_2, oc_26, oc_3, r_0, r_2, r_22, r_27, r_3, r_30, r_31, r_32, r_33, r_44, r_45, r_46, r_6, r_62, r_7, r_80_1, r_80_2, r_80_3, r_80_5, r_81_3, r_92, wpn_S, wpn_zero, stp_h, lk_0, lk_s, st1_0, st1_1, st1_2, st2_0, st2_1, st2_2, kj_i, kj_a, kj_l, kj_n, cat_n, cat_i, cat_a, cat_u, cat_l, vc_i, vc_a, rv_s, tl_n, tl_s, Cal'_s, List.length_cons, List.length_nil, i0, i1, iNd, iN_lt, iN_le, iN_eq, iN_add, iN_mul, iN_mod, iN_sub, iN_div, iN_clamp, iN_inb, zle_N, zlt_N, zN_le, zN_lt, zN_eq, Nz_eq, mI_t, mI_f, bI_0, bI_1, bI_t, bI_f, dltT, dltF, dleT, dleF, deqT, deqF, Nat.not_lt_zero, not_true_eq_false, not_false_eq_true, true_and, and_true, false_and, and_false, or_true, true_or, false_or, or_false, and_self, if_true, if_false, Classical.not_not, Nat.add_assoc, Nat.zero_add, Nat.add_zero, bI_or, bI_True, bI_False, Bool.false_eq_true, reduceCtorEq, eq_self, gi_si, gl_si, gr_si, hn_si, hL_si, hX_si, gi_sl, gl_sl, gr_sl, hn_sl, ob_si, ar_si, ob_sl, ar_sl, ks_172_0, ks_172_1, ks_172_2, ks_172_3, oF, g0, g1, g2, g4, g5, g6, g7, g8, g9, g10, g11, g12, g13, o21, o22, o23, o28, o29, o32, o34, o36, oM, oM, c_areT_q hm hB hA hW, hij, c1, c2, d1, d2, e1, e2, k5, k6, d5, d6, c_ref6_q hB])
                exact hQ
              · have oO := (O_facts hB).1; obtain ⟨hA, hIr, f0⟩ := IO_0 hI; replace hB := Bs.si hB 87 7 (iN 0); have hW := hs.1; obtain ⟨oO2, rO1, rO2, rO3, rO4, rO5, rO8, aO1, aO2, aO3, aO4, aO5, aO8, sO1, sO2, sO3, sO4, sO5, sO8⟩ := O_facts hB; obtain ⟨fN, fD, fK, fF, fH, fM, fQ⟩ := id hA; obtain ⟨wN, wK, wF, wH, wM, wQ, wS, wZ, wT⟩ := id hW
                refine Ret_L [some (.ref 87), some (.int (iN p)), some (.int (iN q)), some (.int c), some (.int d), some (.int e), some (.int f), none, none, none, none, none, none, none, none, none] rfl rfl fun Q hQ => ?_
                (refine wp_go 600 ks_278_0.1 ?_; simp (disch := first | with_reducible assumption | omega | (simp only [ob_si, ar_si, ob_sl, ar_sl]; with_reducible assumption)) only [ci_0, ci_1, ci_2, ci_20, ci_8, ci_99, cl_0, cl_1, cl_4000000000000000000, cm_1, cm_4, cm_6, cm_9, iN_l, inc_i, jN_add, jN_div, jN_eq, jN_le, jN_lt, jN_mod, jN_mul, jN_sub, l0, lc_eq, lc_ge, lc_gt, lc_le, lc_lt, ldA_a, ldI_i, ldL_l, oc_201, oc_203, oc_212, oc_217, oc_236, oc_237, r_0, r_1, r_11, r_15, r_2, r_21, r_22, r_23, r_27, r_3, r_30, r_31, r_32, r_33, r_34, r_4, r_44, r_45, r_46, r_6, r_63, r_7, r_80_1, r_80_2, r_80_3, r_81_2, r_81_3, r_9, r_92, wpn_S, wpn_zero, stp_h, lk_0, lk_s, st1_0, st1_1, st1_2, st2_0, st2_1, st2_2, kj_i, kj_a, kj_l, kj_n, cat_n, cat_i, cat_a, cat_u, cat_l, vc_i, vc_a, rv_s, tl_n, tl_s, Cal'_s, List.length_cons, List.length_nil, i0, i1, iNd, iN_lt, iN_le, iN_eq, iN_add, iN_mul, iN_mod, iN_sub, iN_div, iN_clamp, iN_inb, zle_N, zlt_N, zN_le, zN_lt, zN_eq, Nz_eq, mI_t, mI_f, bI_0, bI_1, bI_t, bI_f, dltT, dltF, dleT, dleF, deqT, deqF, Nat.not_lt_zero, not_true_eq_false, not_false_eq_true, true_and, and_true, false_and, and_false, or_true, true_or, false_or, or_false, and_self, if_true, if_false, Classical.not_not, Nat.add_assoc, Nat.zero_add, Nat.add_zero, bI_or, bI_True, bI_False, Bool.false_eq_true, reduceCtorEq, eq_self, gi_si, gl_si, gr_si, hn_si, hL_si, hX_si, gi_sl, gl_sl, gr_sl, hn_sl, ob_si, ar_si, ob_sl, ar_sl, ks_278_0, ks_278_1, ks_278_2, ks_278_3, ks_278_4, ks_278_5, oO, oO, o_two_q hB hA hW, isT_N, o_wb0_q, c1, c2, d1, d2, e1, e2, k5, k6, d5, d6, o_ref6_q hB, o_wb_q])
                exact hQ
          · obtain ⟨c3, c4, c5, c6⟩ := notP_f c0 hc (by omega)
            refine op_refuse hs (k := 6) (by decide) (v := .long (jN 4000000000000000000 - (zI (-6)).toInt64)) (fun h hB hI => Ret.up (d := 5) ?_ (by decide)) (fun h hB hI => Ret.up (d := 3) ?_ (by decide))
            · obtain ⟨oF, g0, g1, g2, g4, g5, g6, g7, g8, g9, g10, g11, g12, g13, o21, o22, o23, o28, o29, o32, o34, o36, oM⟩ := F_facts hB; obtain ⟨hA, iI, ⟨nx, hP⟩, hR, hL, hF, hT⟩ := id hI; have hW := hs.1; have hm : isM 1 := Or.inl rfl; have wN := hW.1
              refine Ret_L [some (.ref 0), some (.int (iN p)), some (.int (iN q)), some (.int c), some (.int d), some (.int e), some (.int f), none] rfl rfl fun Q hQ => ?_
              (refine wp_go 600 ks_172_0.1 ?_; simp (disch := first | with_reducible assumption | omega | (simp only [ob_si, ar_si, ob_sl, ar_sl]; with_reducible assumption)) only [ci_0, ci_1, ci_2, ci_20, ci_8, ci_99, cl_4000000000000000000, cm_1, cm_2, cm_4, cm_6, iN_l, jN_add, jN_div, jN_eq, jN_le, jN_lt, jN_mod, jN_mul, jN_sub, l0, lc_eq, lc_ge, lc_gt, lc_le, lc_lt, ldA_a, ldI_i, oc_1, oc_191, oc_2, oc_26, oc_3, r_0, r_2, r_22, r_27, r_3, r_30, r_31, r_32, r_33, r_44, r_45, r_46, r_6, r_62, r_7, r_80_1, r_80_2, r_80_3, r_80_5, r_81_3, r_92, wpn_S, wpn_zero, stp_h, lk_0, lk_s, st1_0, st1_1, st1_2, st2_0, st2_1, st2_2, kj_i, kj_a, kj_l, kj_n, cat_n, cat_i, cat_a, cat_u, cat_l, vc_i, vc_a, rv_s, tl_n, tl_s, Cal'_s, List.length_cons, List.length_nil, i0, i1, iNd, iN_lt, iN_le, iN_eq, iN_add, iN_mul, iN_mod, iN_sub, iN_div, iN_clamp, iN_inb, zle_N, zlt_N, zN_le, zN_lt, zN_eq, Nz_eq, mI_t, mI_f, bI_0, bI_1, bI_t, bI_f, dltT, dltF, dleT, dleF, deqT, deqF, Nat.not_lt_zero, not_true_eq_false, not_false_eq_true, true_and, and_true, false_and, and_false, or_true, true_or, false_or, or_false, and_self, if_true, if_false, Classical.not_not, Nat.add_assoc, Nat.zero_add, Nat.add_zero, bI_or, bI_True, bI_False, Bool.false_eq_true, reduceCtorEq, eq_self, gi_si, gl_si, gr_si, hn_si, hL_si, hX_si, gi_sl, gl_sl, gr_sl, hn_sl, ob_si, ar_si, ob_sl, ar_sl, ks_172_0, ks_172_1, ks_172_2, ks_172_3, oF, g0, g1, g2, g4, g5, g6, g7, g8, g9, g10, g11, g12, g13, o21, o22, o23, o28, o29, o32, o34, o36, oM, oM, c_areT_q hm hB hA hW, hij, c1, c2, d1, d2, e1, e2, c5, c6, c_ref6_q hB])
              exact hQ
            · have oO := (O_facts hB).1; obtain ⟨hA, hIr, f0⟩ := IO_0 hI; replace hB := Bs.si hB 87 7 (iN 0); have hW := hs.1; obtain ⟨oO2, rO1, rO2, rO3, rO4, rO5, rO8, aO1, aO2, aO3, aO4, aO5, aO8, sO1, sO2, sO3, sO4, sO5, sO8⟩ := O_facts hB; obtain ⟨fN, fD, fK, fF, fH, fM, fQ⟩ := id hA; obtain ⟨wN, wK, wF, wH, wM, wQ, wS, wZ, wT⟩ := id hW
              refine Ret_L [some (.ref 87), some (.int (iN p)), some (.int (iN q)), some (.int c), some (.int d), some (.int e), some (.int f), none, none, none, none, none, none, none, none, none] rfl rfl fun Q hQ => ?_
              (refine wp_go 600 ks_278_0.1 ?_; simp (disch := first | with_reducible assumption | omega | (simp only [ob_si, ar_si, ob_sl, ar_sl]; with_reducible assumption)) only [ci_0, ci_1, ci_2, ci_20, ci_8, ci_99, cl_0, cl_1, cl_4000000000000000000, cm_1, cm_4, cm_6, cm_9, iN_l, inc_i, jN_add, jN_div, jN_eq, jN_le, jN_lt, jN_mod, jN_mul, jN_sub, l0, lc_eq, lc_ge, lc_gt, lc_le, lc_lt, ldA_a, ldI_i, ldL_l, oc_201, oc_203, oc_212, oc_217, oc_236, oc_237, r_0, r_1, r_11, r_15, r_2, r_21, r_22, r_23, r_27, r_3, r_30, r_31, r_32, r_33, r_34, r_4, r_44, r_45, r_46, r_6, r_63, r_7, r_80_1, r_80_2, r_80_3, r_81_2, r_81_3, r_9, r_92, wpn_S, wpn_zero, stp_h, lk_0, lk_s, st1_0, st1_1, st1_2, st2_0, st2_1, st2_2, kj_i, kj_a, kj_l, kj_n, cat_n, cat_i, cat_a, cat_u, cat_l, vc_i, vc_a, rv_s, tl_n, tl_s, Cal'_s, List.length_cons, List.length_nil, i0, i1, iNd, iN_lt, iN_le, iN_eq, iN_add, iN_mul, iN_mod, iN_sub, iN_div, iN_clamp, iN_inb, zle_N, zlt_N, zN_le, zN_lt, zN_eq, Nz_eq, mI_t, mI_f, bI_0, bI_1, bI_t, bI_f, dltT, dltF, dleT, dleF, deqT, deqF, Nat.not_lt_zero, not_true_eq_false, not_false_eq_true, true_and, and_true, false_and, and_false, or_true, true_or, false_or, or_false, and_self, if_true, if_false, Classical.not_not, Nat.add_assoc, Nat.zero_add, Nat.add_zero, bI_or, bI_True, bI_False, Bool.false_eq_true, reduceCtorEq, eq_self, gi_si, gl_si, gr_si, hn_si, hL_si, hX_si, gi_sl, gl_sl, gr_sl, hn_sl, ob_si, ar_si, ob_sl, ar_sl, ks_278_0, ks_278_1, ks_278_2, ks_278_3, ks_278_4, ks_278_5, oO, oO, o_two_q hB hA hW, isT_N, o_wb0_q, c1, c2, d1, d2, e1, e2, c5, c6, o_ref6_q hB, o_wb_q])
              exact hQ
  · refine op_refuse hs (k := 1) (by decide) (v := .long (jN 4000000000000000000 - (zI (-1)).toInt64)) (fun h hB hI => Ret.up (d := 5) ?_ (by decide)) (fun h hB hI => Ret.up (d := 3) ?_ (by decide))
    · obtain ⟨oF, g0, g1, g2, g4, g5, g6, g7, g8, g9, g10, g11, g12, g13, o21, o22, o23, o28, o29, o32, o34, o36, oM⟩ := F_facts hB; obtain ⟨hA, iI, ⟨nx, hP⟩, hR, hL, hF, hT⟩ := id hI; have hW := hs.1; have hm : isM 1 := Or.inl rfl; have wN := hW.1
      refine Ret_L [some (.ref 0), some (.int a), some (.int b), some (.int c), some (.int d), some (.int e), some (.int f), none] rfl rfl fun Q hQ => ?_
      (refine wp_go 600 ks_172_0.1 ?_; simp (disch := first | with_reducible assumption | omega | (simp only [ob_si, ar_si, ob_sl, ar_sl]; with_reducible assumption)) only [ci_0, ci_1, ci_2, ci_20, ci_8, ci_99, cl_4000000000000000000, cm_1, cm_2, cm_4, cm_6, iN_l, jN_add, jN_div, jN_eq, jN_le, jN_lt, jN_mod, jN_mul, jN_sub, l0, lc_eq, lc_ge, lc_gt, lc_le, lc_lt, ldA_a, ldI_i, oc_1, oc_191, oc_2, oc_26, oc_3, r_0, r_2, r_22, r_27, r_3, r_30, r_31, r_33, r_44, r_45, r_46, r_6, r_62, r_7, r_80_1, r_80_2, r_80_3, r_80_5, r_81_3, r_92, wpn_S, wpn_zero, stp_h, lk_0, lk_s, st1_0, st1_1, st1_2, st2_0, st2_1, st2_2, kj_i, kj_a, kj_l, kj_n, cat_n, cat_i, cat_a, cat_u, cat_l, vc_i, vc_a, rv_s, tl_n, tl_s, Cal'_s, List.length_cons, List.length_nil, i0, i1, iNd, iN_lt, iN_le, iN_eq, iN_add, iN_mul, iN_mod, iN_sub, iN_div, iN_clamp, iN_inb, zle_N, zlt_N, zN_le, zN_lt, zN_eq, Nz_eq, mI_t, mI_f, bI_0, bI_1, bI_t, bI_f, dltT, dltF, dleT, dleF, deqT, deqF, Nat.not_lt_zero, not_true_eq_false, not_false_eq_true, true_and, and_true, false_and, and_false, or_true, true_or, false_or, or_false, and_self, if_true, if_false, Classical.not_not, Nat.add_assoc, Nat.zero_add, Nat.add_zero, bI_or, bI_True, bI_False, Bool.false_eq_true, reduceCtorEq, eq_self, gi_si, gl_si, gr_si, hn_si, hL_si, hX_si, gi_sl, gl_sl, gr_sl, hn_sl, ob_si, ar_si, ob_sl, ar_sl, ks_172_0, ks_172_1, ks_172_2, ks_172_3, oF, g0, g1, g2, g4, g5, g6, g7, g8, g9, g10, g11, g12, g13, o21, o22, o23, o28, o29, o32, o34, o36, oM, oM, c_areF_q hm hB hA hW, hT, c_ref1_q hB, r_32z])
      exact hQ
    · have oO := (O_facts hB).1; obtain ⟨hA, hIr, f0⟩ := IO_0 hI; replace hB := Bs.si hB 87 7 (iN 0); have hW := hs.1; obtain ⟨oO2, rO1, rO2, rO3, rO4, rO5, rO8, aO1, aO2, aO3, aO4, aO5, aO8, sO1, sO2, sO3, sO4, sO5, sO8⟩ := O_facts hB; obtain ⟨fN, fD, fK, fF, fH, fM, fQ⟩ := id hA; obtain ⟨wN, wK, wF, wH, wM, wQ, wS, wZ, wT⟩ := id hW
      refine Ret_L [some (.ref 87), some (.int a), some (.int b), some (.int c), some (.int d), some (.int e), some (.int f), none, none, none, none, none, none, none, none, none] rfl rfl fun Q hQ => ?_
      (refine wp_go 600 ks_278_0.1 ?_; simp (disch := first | with_reducible assumption | omega | (simp only [ob_si, ar_si, ob_sl, ar_sl]; with_reducible assumption)) only [ci_0, ci_1, ci_2, ci_20, ci_8, ci_99, cl_0, cl_1, cl_4000000000000000000, cm_1, cm_4, cm_6, cm_9, iN_l, inc_i, jN_add, jN_div, jN_eq, jN_le, jN_lt, jN_mod, jN_mul, jN_sub, l0, lc_eq, lc_ge, lc_gt, lc_le, lc_lt, ldA_a, ldI_i, ldL_l, oc_201, oc_203, oc_212, oc_217, oc_236, oc_237, r_0, r_1, r_11, r_15, r_2, r_21, r_22, r_23, r_27, r_3, r_30, r_31, r_32, r_33, r_34, r_4, r_44, r_45, r_46, r_6, r_63, r_7, r_80_1, r_80_2, r_80_3, r_81_2, r_81_3, r_9, r_92, wpn_S, wpn_zero, stp_h, lk_0, lk_s, st1_0, st1_1, st1_2, st2_0, st2_1, st2_2, kj_i, kj_a, kj_l, kj_n, cat_n, cat_i, cat_a, cat_u, cat_l, vc_i, vc_a, rv_s, tl_n, tl_s, Cal'_s, List.length_cons, List.length_nil, i0, i1, iNd, iN_lt, iN_le, iN_eq, iN_add, iN_mul, iN_mod, iN_sub, iN_div, iN_clamp, iN_inb, zle_N, zlt_N, zN_le, zN_lt, zN_eq, Nz_eq, mI_t, mI_f, bI_0, bI_1, bI_t, bI_f, dltT, dltF, dleT, dleF, deqT, deqF, Nat.not_lt_zero, not_true_eq_false, not_false_eq_true, true_and, and_true, false_and, and_false, or_true, true_or, false_or, or_false, and_self, if_true, if_false, Classical.not_not, Nat.add_assoc, Nat.zero_add, Nat.add_zero, bI_or, bI_True, bI_False, Bool.false_eq_true, reduceCtorEq, eq_self, gi_si, gl_si, gr_si, hn_si, hL_si, hX_si, gi_sl, gl_sl, gr_sl, hn_sl, ob_si, ar_si, ob_sl, ar_sl, ks_278_0, ks_278_1, ks_278_2, ks_278_3, ks_278_4, ks_278_5, oO, oO, o_two_q hB hA hW, hT, o_ref1_q hB, o_wb_q])
      exact hQ
