/-! one word of the small machine over the big one -/
def NW (U : State) : Prop := (∀ q ∈ mzT, va_Nw (.methodLinkNest (kC q.1) q.2.1 (nmY q.2.2) "PrayerMatsFace") U) ∧ va_AO (kC 3) U
def slT : Nat → Nat
  | 0 => 0
  | n + 1 => slT n + (match SH n with | (0, ci) => kN ci | (_, k) => k)
def Ctx (p : Program) (R : Room) (s : State) (m : MethodId) (args : Array Value) (meth : Method) (c : Code) (D : va_G) (cA : Nat → ClassId) (b base n0 n1 y : Nat) : Prop :=
  p.tables.exec = Jvm.exec ∧ c.code = byY y ∧ c.maxLocals = mxY y ∧ s.vm.findClass (kC (ocY y)) = some m.cls ∧ (∀ w ∈ gW, w.before args s = true) ∧ NW s ∧ va_K D classes (tysA cA) s ∧ (vkY y = 2 → meth.name = "<init>") ∧ y < nY ∧ b < base ∧ base ≤ s.heap.size ∧ n1 ≤ R.cells + n0 ∧ slT n1 ≤ R.slots + slT n0
def Dy (s : State) (D : va_G) (cA : Nat → ClassId) (b base n0 : Nat) (h : Hp) (H : Heap) (locs : List Loc) (cells slots : Nat) : Prop := Wd D cA b base h H ∧ va_S (fun q => base ≤ q) s.heap H locs ∧ cells + n0 = hn h ∧ slots + slT n0 = slT (hn h) ∧ va_X b (hL h) (hX h) s s.heap
def lvL (b base : Nat) : Nat → Lc → List (Nat × Value)
  | _, [] => []
  | i, none :: L => lvL b base (i + 1) L
  | i, some v :: L => (i, tr b base v) :: lvL b base (i + 1) L
theorem tr_cat (b base : Nat) (v : Value) : (tr b base v).category = v.category := by cases v <;> rfl
theorem lvL_ge {b base : Nat} : ∀ (L : Lc) (j : Nat) (q : Nat × Value), q ∈ lvL b base j L → j ≤ q.1
  | [], _, _, h => by cases h
  | none :: L, j, q, h => Nat.le_of_succ_le (lvL_ge L (j + 1) q h)
  | some v :: L, j, q, h => by
    rcases List.mem_cons.mp h with rfl | h
    · exact Nat.le_refl _
    · exact Nat.le_of_succ_le (lvL_ge L (j + 1) q h)
theorem lvL_lk {b base : Nat} : ∀ (L : Lc) (j i : Nat) (v : Value), lk L i = some v → (j + i, tr b base v) ∈ lvL b base j L
  | [], _, _, _, h => by cases h
  | a :: L, j, 0, v, h => by
    have h : a = some v := h
    subst h
    exact List.mem_cons_self
  | none :: L, j, i + 1, v, h => by
    have := lvL_lk (b := b) (base := base) L (j + 1) i v h
    rw [show j + (i + 1) = j + 1 + i by omega]
    exact this
  | some w :: L, j, i + 1, v, h => by
    have := lvL_lk (b := b) (base := base) L (j + 1) i v h
    rw [show j + (i + 1) = j + 1 + i by omega]
    exact List.mem_cons_of_mem _ this
theorem lv_get {b base : Nat} {ls : Array Slot} {n : Nat} {L : Lc} (h : lv_has ls n (lvL b base 0 L)) {i : Nat} {v : Value} (hv : lk L i = some v) : ls[i]? = some (.val (tr b base v)) := by
  have := h.2.2 _ (lvL_lk (b := b) (base := base) L 0 i v hv)
  simpa using this
theorem lv_mono {ls : Array Slot} {n : Nat} {l l' : List (Nat × Value)} (h : lv_has ls n l) (hs : ∀ q ∈ l', q ∈ l) : lv_has ls n l' := ⟨h.1, h.2.1, fun q hq => h.2.2 q (hs q hq)⟩
theorem st1_len : ∀ (L : Lc) (i : Nat) (v : Value), (st1 L i v).length = L.length
  | [], _, _ => rfl
  | _ :: _, 0, _ => rfl
  | _ :: L, 1, v => by simp only [st1, List.length_cons, st1_len L 0 v]
  | _ :: L, i + 2, v => by simp only [st1, List.length_cons, st1_len L (i + 1) v]
theorem st2_len : ∀ (L : Lc) (i : Nat) (v : Value), (st2 L i v).length = L.length
  | [], _, _ => rfl
  | [_], _, _ => rfl
  | _ :: _ :: _, 0, _ => rfl
  | _ :: b :: L, 1, v => by simp only [st2, List.length_cons, st2_len (b :: L) 0 v]
  | _ :: b :: L, i + 2, v => by simp only [st2, List.length_cons, st2_len (b :: L) (i + 1) v]
theorem st1_in {b base : Nat} : ∀ (L : Lc) (i j : Nat) (v : Value) (q : Nat × Value), q ∈ lvL b base j (st1 L i v) → q = (j + i, tr b base v) ∨ (q ∈ lvL b base j L ∧ q.1 ≠ j + i ∧ ¬ (q.1 + 1 = j + i ∧ q.2.category = 2))
  | [], _, _, _, _, h => by cases h
  | a :: L, 0, j, v, q, h => by
    rcases List.mem_cons.mp h with rfl | h
    · exact Or.inl rfl
    · have hg := lvL_ge L (j + 1) q h
      have h' : q ∈ lvL b base (j + 1) L := h
      refine Or.inr ⟨?_, by omega, fun z => by omega⟩
      cases a with
      | none => exact h'
      | some w => exact List.mem_cons_of_mem _ h'
  | a :: L, 1, j, v, q, h => by
    have key : q ∈ lvL b base (j + 1) (st1 L 0 v) → q = (j + 1, tr b base v) ∨ (q ∈ lvL b base j (a :: L) ∧ q.1 ≠ j + 1 ∧ ¬ (q.1 + 1 = j + 1 ∧ q.2.category = 2)) := by
      intro h
      have hg := lvL_ge _ (j + 1) q h
      rcases st1_in L 0 (j + 1) v q h with h | ⟨h1, h2, h3⟩
      · exact Or.inl h
      · refine Or.inr ⟨?_, by omega, fun z => by omega⟩
        cases a with
        | none => exact h1
        | some w => exact List.mem_cons_of_mem _ h1
    cases a with
    | none => exact key h
    | some w =>
      by_cases hc : w.category = 2
      · have h : q ∈ lvL b base j (kj (some w) :: st1 L 0 v) := h
        rw [show kj (some w) = none by simp [kj, hc]] at h
        exact key h
      · have h : q ∈ lvL b base j (kj (some w) :: st1 L 0 v) := h
        rw [show kj (some w) = some w by simp [kj, hc]] at h
        rcases List.mem_cons.mp h with rfl | h
        · exact Or.inr ⟨List.mem_cons_self, by show j ≠ j + 1; omega, fun z => hc (by rw [← tr_cat b base]; exact z.2)⟩
        · exact key h
  | a :: L, i + 2, j, v, q, h => by
    have key : q ∈ lvL b base (j + 1) (st1 L (i + 1) v) → q = (j + (i + 2), tr b base v) ∨ (q ∈ lvL b base j (a :: L) ∧ q.1 ≠ j + (i + 2) ∧ ¬ (q.1 + 1 = j + (i + 2) ∧ q.2.category = 2)) := by
      intro h
      rcases st1_in L (i + 1) (j + 1) v q h with h | ⟨h1, h2, h3⟩
      · rw [show j + 1 + (i + 1) = j + (i + 2) by omega] at h
        exact Or.inl h
      · rw [show j + 1 + (i + 1) = j + (i + 2) by omega] at h2 h3
        refine Or.inr ⟨?_, h2, h3⟩
        cases a with
        | none => exact h1
        | some w => exact List.mem_cons_of_mem _ h1
    cases a with
    | none => exact key h
    | some w =>
      rcases List.mem_cons.mp h with rfl | h
      · exact Or.inr ⟨List.mem_cons_self, by show j ≠ j + (i + 2); omega, fun z => absurd (show j + 1 = j + (i + 2) from z.1) (by omega)⟩
      · exact key h
theorem st2_in {b base : Nat} : ∀ (L : Lc) (i j : Nat) (v : Value) (q : Nat × Value), i + 1 < L.length → q ∈ lvL b base j (st2 L i v) → q = (j + i, tr b base v) ∨ (q ∈ lvL b base j L ∧ q.1 ≠ j + i ∧ q.1 ≠ j + i + 1 ∧ ¬ (q.1 + 1 = j + i ∧ q.2.category = 2))
  | [], _, _, _, _, _, h => by cases h
  | [_], _, _, _, _, hi, _ => by simp at hi
  | a :: a2 :: L, 0, j, v, q, hi, h => by
    rcases List.mem_cons.mp h with rfl | h
    · exact Or.inl rfl
    · have h9 : q ∈ lvL b base (j + 1 + 1) L := h
      have hg := lvL_ge L (j + 1 + 1) q h9
      refine Or.inr ⟨?_, by omega, by omega, fun z => by omega⟩
      cases a <;> cases a2 <;> simp only [lvL, List.mem_cons, h9, or_true]
  | a :: a2 :: L, 1, j, v, q, hi, h => by
    have key : q ∈ lvL b base (j + 1) (st2 (a2 :: L) 0 v) → q = (j + 1, tr b base v) ∨ (q ∈ lvL b base j (a :: a2 :: L) ∧ q.1 ≠ j + 1 ∧ q.1 ≠ j + 1 + 1 ∧ ¬ (q.1 + 1 = j + 1 ∧ q.2.category = 2)) := by
      intro h
      have hg := lvL_ge _ (j + 1) q h
      rcases st2_in (a2 :: L) 0 (j + 1) v q (by simp at hi ⊢; omega) h with h | ⟨h1, h2, h3, h4⟩
      · exact Or.inl h
      · refine Or.inr ⟨?_, by omega, by omega, fun z => by omega⟩
        cases a with
        | none => exact h1
        | some w => exact List.mem_cons_of_mem _ h1
    cases a with
    | none => exact key h
    | some w =>
      by_cases hc : w.category = 2
      · have h : q ∈ lvL b base j (kj (some w) :: st2 (a2 :: L) 0 v) := h
        rw [show kj (some w) = none by simp [kj, hc]] at h
        exact key h
      · have h : q ∈ lvL b base j (kj (some w) :: st2 (a2 :: L) 0 v) := h
        rw [show kj (some w) = some w by simp [kj, hc]] at h
        rcases List.mem_cons.mp h with rfl | h
        · exact Or.inr ⟨List.mem_cons_self, by show j ≠ j + 1; omega, by show j ≠ j + 1 + 1; omega, fun z => hc (by rw [← tr_cat b base]; exact z.2)⟩
        · exact key h
  | a :: a2 :: L, i + 2, j, v, q, hi, h => by
    have key : q ∈ lvL b base (j + 1) (st2 (a2 :: L) (i + 1) v) → q = (j + (i + 2), tr b base v) ∨ (q ∈ lvL b base j (a :: a2 :: L) ∧ q.1 ≠ j + (i + 2) ∧ q.1 ≠ j + (i + 2) + 1 ∧ ¬ (q.1 + 1 = j + (i + 2) ∧ q.2.category = 2)) := by
      intro h
      rcases st2_in (a2 :: L) (i + 1) (j + 1) v q (by simp at hi ⊢; omega) h with h | ⟨h1, h2, h3, h4⟩
      · rw [show j + 1 + (i + 1) = j + (i + 2) by omega] at h
        exact Or.inl h
      · rw [show j + 1 + (i + 1) = j + (i + 2) by omega] at h2 h3 h4
        refine Or.inr ⟨?_, h2, h3, h4⟩
        cases a with
        | none => exact h1
        | some w => exact List.mem_cons_of_mem _ h1
    cases a with
    | none => exact key h
    | some w =>
      rcases List.mem_cons.mp h with rfl | h
      · exact Or.inr ⟨List.mem_cons_self, by show j ≠ j + (i + 2); omega, by show j ≠ j + (i + 2) + 1; omega, fun z => absurd (show j + 1 = j + (i + 2) from z.1) (by omega)⟩
      · exact key h
theorem lv_st1 {b base : Nat} {ls : Array Slot} {n : Nat} {L : Lc} {i : Nat} {v w : Value} (hw : tr b base v = w) (h : lv_has ls n ((i, w) :: (lvL b base 0 L).filter (fun q => !(q.1 == i) && !(q.1 + 1 == i && q.2.category == 2)))) : lv_has ls n (lvL b base 0 (st1 L i v)) := by
  refine lv_mono h fun q hq => ?_
  rcases st1_in L i 0 v q hq with rfl | ⟨h1, h2, h3⟩
  · rw [hw]; simp
  · refine List.mem_cons_of_mem _ (List.mem_filter.mpr ⟨h1, ?_⟩)
    simp only [Nat.zero_add] at h2 h3
    simp only [Bool.and_eq_true, Bool.not_eq_true', beq_eq_false_iff_ne, Bool.and_eq_false_iff, ne_eq]
    exact ⟨h2, Classical.not_and_iff_not_or_not.mp h3⟩
theorem lv_st2 {b base : Nat} {ls : Array Slot} {n : Nat} {L : Lc} {i : Nat} {v w : Value} (hw : tr b base v = w) (hi : i + 1 < L.length) (h : lv_has ls n ((i, w) :: (lvL b base 0 L).filter (fun q => !(q.1 == i) && (!(q.1 == i + 1) && !(q.1 + 1 == i && q.2.category == 2))))) : lv_has ls n (lvL b base 0 (st2 L i v)) := by
  refine lv_mono h fun q hq => ?_
  rcases st2_in L i 0 v q hi hq with rfl | ⟨h1, h2, h3, h4⟩
  · rw [hw]; simp
  · refine List.mem_cons_of_mem _ (List.mem_filter.mpr ⟨h1, ?_⟩)
    simp only [Nat.zero_add] at h2 h3 h4
    simp only [Bool.and_eq_true, Bool.not_eq_true', beq_eq_false_iff_ne, Bool.and_eq_false_iff, ne_eq]
    exact ⟨h2, h3, Classical.not_and_iff_not_or_not.mp h4⟩
theorem ent_lv {b base : Nat} (n : Nat) : ∀ (vs : List Value) (j : Nat), lvL b base j (ent1 vs ++ List.replicate n none) = lv_args j (vs.map (tr b base))
  | [], j => by
    show lvL b base j (List.replicate n none) = []
    have : ∀ n j, lvL b base j (List.replicate n none) = [] := by
      intro n
      induction n with
      | zero => intro j; rfl
      | succ n ih => intro j; exact ih (j + 1)
    exact this n j
  | v :: vs, j => by
    by_cases hc : v.category = 2
    · have e : ent1 (v :: vs) = some v :: none :: ent1 vs := by simp [ent1, hc]
      rw [e]
      show (j, tr b base v) :: lvL b base (j + 1 + 1) (ent1 vs ++ List.replicate n none) = (j, tr b base v) :: lv_args (if (tr b base v).category = 2 then j + 2 else j + 1) (vs.map (tr b base))
      rw [tr_cat, if_pos hc, ent_lv n vs (j + 2)]
    · have e : ent1 (v :: vs) = some v :: ent1 vs := by simp [ent1, hc]
      rw [e]
      show (j, tr b base v) :: lvL b base (j + 1) (ent1 vs ++ List.replicate n none) = (j, tr b base v) :: lv_args (if (tr b base v).category = 2 then j + 2 else j + 1) (vs.map (tr b base))
      rw [tr_cat, if_neg hc, ent_lv n vs (j + 1)]
theorem ent_sl {b base : Nat} : ∀ vs : List Value, (lg_sl (vs.map (tr b base))).length = (ent1 vs).length
  | [] => rfl
  | v :: vs => by
    have ih := ent_sl (b := b) (base := base) vs
    by_cases hc : v.category = 2
    · simp [lg_sl, ent1, hc, tr_cat] at ih ⊢
      exact ih
    · simp [lg_sl, ent1, hc, tr_cat] at ih ⊢
      exact ih
theorem one_inv {k len : Nat} {o op : Op} (h : (if len = k then some o else none) = some op) : len = k ∧ o = op := by
  by_cases hl : len = k
  · rw [if_pos hl] at h; exact ⟨hl, Option.some.inj h⟩
  · rw [if_neg hl] at h; cases h
theorem if_inv {α : Type} {c : Prop} [Decidable c] {o : Option α} {op : α} (h : (if c then o else none) = some op) : c ∧ o = some op := by
  by_cases hc : c
  · rw [if_pos hc] at h; exact ⟨hc, h⟩
  · rw [if_neg hc] at h; cases h
theorem gd_inv {c : Prop} {a : Act} {r} (h : gd c a = some r) : c ∧ a = some r := by
  unfold gd at h
  by_cases hc : c
  · rw [if_pos hc] at h; exact ⟨hc, h⟩
  · rw [if_neg hc] at h; cases h
theorem nx_inv {np pc' : Nat} {L L' : Lc} {st st' : List Value} {h h' : Hp} (e : nx np L st h = some (.inl (pc', L', st', h'))) : np = pc' ∧ L = L' ∧ st = st' ∧ h = h' := by
  unfold nx at e
  cases e
  exact ⟨rfl, rfl, rfl, rfl⟩
theorem br_inv {c : Prop} {t f pc' : Nat} {L L' : Lc} {st st' : List Value} {h h' : Hp} (e : br c t f L st h = some (.inl (pc', L', st', h'))) : ((c ∧ t = pc') ∨ (¬ c ∧ f = pc')) ∧ L = L' ∧ st = st' ∧ h = h' := by
  unfold br at e
  by_cases hc : c
  · rw [if_pos hc] at e
    obtain ⟨h1, h2⟩ := nx_inv e
    exact ⟨Or.inl ⟨hc, h1⟩, h2⟩
  · rw [if_neg hc] at e
    obtain ⟨h1, h2⟩ := nx_inv e
    exact ⟨Or.inr ⟨hc, h1⟩, h2⟩
theorem find_inv {α : Type} {T : List (Nat × Nat × α)} {own idx : Nat} {q : α} (h : (T.find? (fun q => q.1 == own && q.2.1 == idx)).map (·.2.2) = some q) : (own, idx, q) ∈ T := by
  cases hf : T.find? (fun q => q.1 == own && q.2.1 == idx) with
  | none => rw [hf] at h; cases h
  | some e =>
    rw [hf] at h
    have h1 := List.find?_some hf
    have h2 := List.mem_of_find?_eq_some hf
    simp at h1 h
    obtain ⟨a, b, c⟩ := e
    obtain ⟨rfl, rfl⟩ := h1
    simp at h
    subst h
    exact h2
theorem tgt_ok {pc : Nat} {f : Int} (h : decide (0 ≤ (pc : Int) + f) = true) : (pc : Int) + f = (((pc : Int) + f).toNat : Int) := by
  have := of_decide_eq_true h
  omega
theorem fty_lt (ci k : Nat) : fty ci k = 0 ∨ fty ci k = 1 ∨ fty ci k = 2 ∨ fty ci k = 3 := by
  unfold fty
  split <;> simp
theorem kY_0 {ci k : Nat} (h : fty ci k = 0) : kY ci k = .int := by
  unfold fty at h
  split at h <;> first | assumption | (cases h)
theorem kY_1 {ci k : Nat} (h : fty ci k = 1) : kY ci k = .boolean := by
  unfold fty at h
  split at h <;> first | assumption | (cases h)
theorem kY_2 {ci k : Nat} (h : fty ci k = 2) : kY ci k = .long := by
  unfold fty at h
  split at h <;> first | assumption | (cases h)
theorem rv_tr {b base : Nat} (r : Option Nat) : va_rf (r.map (adr b base)) = tr b base (rv r) := by cases r <;> rfl
