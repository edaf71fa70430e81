/-! sums; the least of several -/
noncomputable def sm (f : Nat → Int) : Nat → Int
  | 0 => 0
  | n + 1 => sm f n + f n
theorem sm_0 (f : Nat → Int) : sm f 0 = 0 := rfl
theorem sm_s (f : Nat → Int) (n : Nat) : sm f (n + 1) = sm f n + f n := rfl
theorem sm_cg {f g : Nat → Int} : ∀ n, (∀ i, i < n → f i = g i) → sm f n = sm g n
  | 0, _ => rfl
  | n + 1, h => by rw [sm_s, sm_s, sm_cg n (fun i hi => h i (by omega)), h n (by omega)]
theorem sm_one {f g : Nat → Int} {k : Nat} : ∀ n, k < n → (∀ i, i < n → ¬ i = k → f i = g i) → sm f n = sm g n + f k - g k
  | 0, h, _ => absurd h (Nat.not_lt_zero k)
  | n + 1, h, hh => by
    rw [sm_s, sm_s]
    by_cases e : n = k
    · rw [sm_cg n (fun i hi => hh i (by omega) (by omega)), e]; omega
    · rw [sm_one n (by omega) (fun i hi hk => hh i (by omega) hk), hh n (by omega) e]; omega
theorem sm_sub (f g : Nat → Int) : ∀ n, sm (fun i => f i - g i) n = sm f n - sm g n
  | 0 => rfl
  | n + 1 => by rw [sm_s, sm_s, sm_s, sm_sub f g n]; omega
theorem sm_z {f : Nat → Int} : ∀ n, (∀ i, i < n → f i = 0) → sm f n = 0
  | 0, _ => rfl
  | n + 1, h => by rw [sm_s, sm_z n (fun i hi => h i (by omega)), h n (by omega)]; rfl
theorem sm_b {f : Nat → Int} {lo hi : Int} : ∀ n, (∀ i, i < n → lo ≤ f i ∧ f i ≤ hi) → lo * n ≤ sm f n ∧ sm f n ≤ hi * n
  | 0, _ => by rw [sm_0]; simp
  | n + 1, h => by
    have h1 := sm_b n (fun i hi => h i (by omega))
    have h2 := h n (by omega)
    rw [sm_s]
    have e1 : lo * ((n + 1 : Nat) : Int) = lo * n + lo := by rw [Int.natCast_add, Int.mul_add]; simp
    have e2 : hi * ((n + 1 : Nat) : Int) = hi * n + hi := by rw [Int.natCast_add, Int.mul_add]; simp
    omega
/-- gatherings of sums -/
theorem itr_sm {f : Nat → Int → Int} {g : Nat → Int} (h : ∀ i a, f i a = a + g i) (a : Int) : ∀ n, itr f 0 n a = a + sm g n
  | 0 => by rw [itr_0, sm_0]; omega
  | n + 1 => by rw [itr_last, Nat.zero_add, itr_sm h a n, h, sm_s]; omega
theorem itr_smN {f : Nat → Nat → Nat} {g : Nat → Int} (h : ∀ i a, ((f i a : Nat) : Int) = a + g i) (a : Nat) : ∀ n, ((itr f 0 n a : Nat) : Int) = a + sm g n
  | 0 => by rw [itr_0, sm_0]; omega
  | n + 1 => by rw [itr_last, Nat.zero_add, h, itr_smN h a n, sm_s]; omega
theorem itr_in (q : Nat → Nat) (i : Nat) : ∀ (k a : Nat), ((itr (fun j a => a + q j) (i + 1) k a : Nat) : Int) = a + sm (fun j => if i < j then (q j : Int) else 0) (i + 1 + k)
  | 0, a => by
    rw [itr_0, sm_z (i + 1 + 0) (fun j hj => if_neg (by omega))]; omega
  | k + 1, a => by
    rw [itr_last, Int.natCast_add, itr_in q i k a, show i + 1 + (k + 1) = i + 1 + k + 1 by omega, sm_s, if_pos (by omega)]; omega
noncomputable def tq (q : Nat → Nat → Nat) (n : Nat) : Int := sm (fun i => sm (fun j => if i < j then (q i j : Int) else 0) n) n
theorem allQ_tq (x : Mt) : (allQ x : Int) = tq (xQ x) (xN x) := by
  unfold allQ tq
  have h : ∀ n, n ≤ xN x → ((itr (fun i a => itr (fun j a => a + xQ x i j) (i + 1) (xN x - (i + 1)) a) 0 n 0 : Nat) : Int) = sm (fun i => sm (fun j => if i < j then (xQ x i j : Int) else 0) (xN x)) n := by
    intro n
    induction n with
    | zero => intro _; rfl
    | succ n ih =>
      intro hn
      rw [itr_last, Nat.zero_add, itr_in (fun j => xQ x n j) n, ih (by omega), sm_s, show n + 1 + (xN x - (n + 1)) = xN x by omega]
  exact h _ (Nat.le_refl _)
theorem tq_up {q : Nat → Nat → Nat} {i j v n : Nat} (hij : i < j) (hj : j < n) : tq (up2 q i j v) n = tq q n + v - q i j := by
  unfold tq
  rw [sm_one (g := fun i => sm (fun j => if i < j then (q i j : Int) else 0) n) (k := i) n (by omega) ?_]
  · rw [sm_one (f := fun j' => if i < j' then ((up2 q i j v i j' : Nat) : Int) else 0) (g := fun j' => if i < j' then (q i j' : Int) else 0) (k := j) n hj ?_]
    · simp only [if_pos hij]
      rw [show up2 q i j v i j = v from if_pos (Or.inl ⟨rfl, rfl⟩)]
      omega
    · intro j' _ hne
      by_cases h : i < j'
      · rw [if_pos h, if_pos h, show up2 q i j v i j' = q i j' from if_neg (fun e => e.elim (fun e => hne e.2) (fun e => by omega))]
      · rw [if_neg h, if_neg h]
  · intro i' _ hne
    refine sm_cg n fun j' _ => ?_
    by_cases h : i' < j'
    · rw [if_pos h, if_pos h, show up2 q i j v i' j' = q i' j' from if_neg (fun e => e.elim (fun e => hne e.1) (fun e => by omega))]
    · rw [if_neg h, if_neg h]
theorem allQ_uQ {x : Mt} {i j v : Nat} (hij : i < j) (hj : j < xN x) : (allQ (uQ x i j v) : Int) = allQ x + v - xQ x i j := by
  rw [allQ_tq, allQ_tq]; exact tq_up hij hj
noncomputable def mtS (x : Mt) (g : Nat → Nat → Int) (i : Nat) : Int := if xM x i < 6 ∧ i < xM x i then g i (xM x i) else 0
theorem ly_N (x : Mt) (g : Nat → Nat → Nat → Nat) (p : Nat) : xN (lyM x g p) = xN x := rfl
theorem ly_all {x : Mt} {g : Nat → Nat → Nat → Nat} (hW : Wf x) : ∀ p, p ≤ xN x → (allQ (lyM x g p) : Int) = allQ x + sm (mtS x fun i j => (g i j (xQ x i j) : Int) - xQ x i j) p
  | 0, _ => by rw [ly_0, sm_0]; omega
  | p + 1, hp => by
    have ih := ly_all (g := g) hW p (by omega)
    rw [sm_s]
    by_cases hm : xM x p < 6 ∧ p < xM x p
    · obtain ⟨e1, e2⟩ := ly_new (g := g) hW (show p < xN x by omega) hm.1 hm.2
      have ht := (hW.2.2.2.2.2.2.2.2 p (by omega) hm.1).1
      rw [e1, allQ_uQ hm.2 (by rw [ly_N]; exact ht), e2, ih, mtS, if_pos hm]
      omega
    · rw [ly_same hW (by omega) hm, ih, mtS, if_neg hm]
      omega
theorem itr_bd {f : Nat → Nat → Nat} {c : Nat} (h : ∀ i a, f i a ≤ a + c) : ∀ (k i a : Nat), itr f i k a ≤ a + k * c
  | 0, _, a => by rw [itr_0]; omega
  | k + 1, i, a => by
    rw [itr_s]
    have h1 := itr_bd h k (i + 1) (f i a)
    have h2 := h i a
    have h3 : (k + 1) * c = k * c + c := Nat.succ_mul k c
    omega
theorem allQ_b {x : Mt} (hW : Wf x) : allQ x ≤ 3564 := by
  have hn := hW.1
  have hq := hW.2.2.2.2.2.1
  have h1 : ∀ i a, itr (fun j a => a + xQ x i j) (i + 1) (xN x - (i + 1)) a ≤ a + 594 := by
    intro i a
    have h2 := itr_bd (f := fun j a => a + xQ x i j) (c := 99) (fun j a => by have := hq i j; show a + xQ x i j ≤ a + 99; omega) (xN x - (i + 1)) (i + 1) a
    have h3 : (xN x - (i + 1)) * 99 ≤ 6 * 99 := Nat.mul_le_mul_right _ (by omega)
    omega
  have h2 := itr_bd (f := fun i a => itr (fun j a => a + xQ x i j) (i + 1) (xN x - (i + 1)) a) (c := 594) h1 (xN x) 0 0
  have h3 : xN x * 594 ≤ 6 * 594 := Nat.mul_le_mul_right _ hn
  unfold allQ
  omega
/-- the place of the least, of several the first, and it -/
noncomputable def amS (B : Nat → Nat) (k : Nat) (a : Option (Nat × Nat)) : Option (Nat × Nat) := match a with | none => some (k, B k) | some (b, l) => if B k < l then some (k, B k) else some (b, l)
noncomputable def amA (a : Option (Nat × Nat)) : Int32 := match a with | none => iN 0 | some (b, _) => iN b
noncomputable def amL (a : Option (Nat × Nat)) : Int32 := match a with | none => zI (-1) | some (_, l) => iN l
noncomputable def amF (B : Nat → Nat) (k a : Nat) : Nat := if B k < B a then k else a
theorem am_it (B : Nat → Nat) : ∀ (k i b : Nat), itr (amS B) i k (some (b, B b)) = some (itr (amF B) i k b, B (itr (amF B) i k b))
  | 0, _, _ => rfl
  | k + 1, i, b => by
    rw [itr_s, itr_s]
    by_cases h : B i < B b
    · rw [show amS B i (some (b, B b)) = some (i, B i) from if_pos h, show amF B i b = i from if_pos h]; exact am_it B k (i + 1) i
    · rw [show amS B i (some (b, B b)) = some (b, B b) from if_neg h, show amF B i b = b from if_neg h]; exact am_it B k (i + 1) b
theorem am_eq (B : Nat → Nat) (n : Nat) : itr (amS B) 0 (n + 1) none = some (itr (amF B) 1 n 0, B (itr (amF B) 1 n 0)) := by
  rw [itr_s]; exact am_it B n (0 + 1) 0
theorem am_cg {f g : Nat → Nat → Nat} {N : Nat} (h : ∀ k a, k < N → a < N → f k a = g k a ∧ f k a < N) : ∀ (k i a : Nat), i + k ≤ N → a < N → itr f i k a = itr g i k a
  | 0, _, _, _, _ => rfl
  | k + 1, i, a, h1, h2 => by
    rw [itr_s, itr_s, ← (h i a (by omega) h2).1]
    exact am_cg h k (i + 1) _ (by omega) (h i a (by omega) h2).2
/-! comings: by hours, by people -/
noncomputable def cbt (v t : Nat) : Nat := if v.testBit t = true then 1 else 0
theorem bc_bits : ∀ v < 32, bcN v = cbt v 0 + cbt v 1 + cbt v 2 + cbt v 3 + cbt v 4 := by decide +kernel
theorem itr_cnt (f : Nat → Nat) (t k : Nat) : ((itr (fun i a => if (f i).testBit t = true then a + 1 else a) 0 k 0 : Nat) : Int) = sm (fun i => (cbt (f i) t : Int)) k := by
  rw [itr_smN (g := fun i => (cbt (f i) t : Int)) (fun i a => by
    unfold cbt
    by_cases hc : (f i).testBit t = true
    · rw [if_pos hc, if_pos hc]; omega
    · rw [if_neg hc, if_neg hc]; omega) 0 k]
  omega
noncomputable def hrS (x : Mt) (i a : Nat) : Nat := a + bcN (xH x i)
theorem ac_eq {x : Mt} (hW : Wf x) : itr (hrS x) 0 (xN x) 0 = acN x := by
  have h1 : acN x = comN x 0 + comN x 1 + comN x 2 + comN x 3 + comN x 4 := by
    unfold acN
    rw [itr_s, itr_s, itr_s, itr_s, itr_s, itr_0]
    simp only [Nat.zero_add]
  have h2 : ∀ t, (comN x t : Int) = sm (fun i => (cbt (xH x i) t : Int)) (xN x) := fun t => itr_cnt (xH x) t (xN x)
  have h3 : ((itr (hrS x) 0 (xN x) 0 : Nat) : Int) = sm (fun i => (bcN (xH x i) : Int)) (xN x) := by
    rw [itr_smN (g := fun i => (bcN (xH x i) : Int)) (fun i a => by unfold hrS; omega) 0 (xN x)]; omega
  have h4 : ∀ n, sm (fun i => (bcN (xH x i) : Int)) n = sm (fun i => (cbt (xH x i) 0 : Int)) n + sm (fun i => (cbt (xH x i) 1 : Int)) n + sm (fun i => (cbt (xH x i) 2 : Int)) n + sm (fun i => (cbt (xH x i) 3 : Int)) n + sm (fun i => (cbt (xH x i) 4 : Int)) n := by
    intro n
    induction n with
    | zero => rfl
    | succ n ih =>
      have hb := bc_bits _ (hW.2.2.2.1 n)
      rw [sm_s, sm_s, sm_s, sm_s, sm_s, sm_s, ih]
      omega
  have h5 := h4 (xN x)
  rw [← h3, ← h2 0, ← h2 1, ← h2 2, ← h2 3, ← h2 4] at h5
  omega
theorem in_Q {p : Int32} {a b : Nat} (ha : a < 1000) (hb : b < 1000) : (jN a ≤ p.toInt64 ∧ p.toInt64 ≤ jN b) = (∃ w, a ≤ w ∧ w ≤ b ∧ p = iN w) := by
  have e1 : (jN a ≤ p.toInt64) = ((a : Int) ≤ p.toInt) := by
    rw [Int64.le_iff_toInt_le, jN_toInt (by omega), Int32.toInt_toInt64]
  have e2 : (p.toInt64 ≤ jN b) = (p.toInt ≤ (b : Int)) := by
    rw [Int64.le_iff_toInt_le, jN_toInt (by omega), Int32.toInt_toInt64]
  rw [e1, e2]
  refine propext ⟨fun h => ⟨p.toInt.toNat, by omega, by omega, ?_⟩, ?_⟩
  · rw [← Int32.toInt_inj, iN_toInt (by omega)]; omega
  · rintro ⟨w, h1, h2, rfl⟩
    rw [iN_toInt (by omega)]; omega
theorem kpx_uH {x : Mt} {i j v : Nat} (hij : ¬ j = i) : kpx (uH x i v) i j = (v, (kpx x i j).2) := by
  show (up (xH x) i v i, up (xH x) i v j, _) = (v, xH x j, _)
  rw [up_s, up_f hij]
  rfl
theorem tw_raw {n : Nat} (hn : n ≤ 6) : iN n * (iN n - iN 1) / iN 2 = iN (n * (n - 1) / 2) := by
  by_cases h : n = 0
  · subst h
    simp only [iN_def]; decide
  · rw [iN_sub (by omega), iN_mul, iN_div (by have : n * (n - 1) ≤ 6 * 6 := Nat.mul_le_mul hn (by omega); omega) (by omega)]
