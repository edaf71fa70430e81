/-! steps in a row: wpn k walks up to k words, and stops at a loop's head -/
def ap (F : Nat → Lc → List Value → Hp → Prop) (d : Nat) (L : Lc) (h : Hp) (Q : Option Value → Hp → Prop) : Act → Prop
  | none => False
  | some (.inl (pc, L', st', h')) => F pc L' st' h'
  | some (.inr (.inr v)) => Q v h
  | some (.inr (.inl (y, np, as, rest))) => Cal' d y as h (fun v h' => F np L (v.toList ++ rest) h')
def stp (F : Nat → Lc → List Value → Hp → Prop) (d y : Nat) (Q : Option Value → Hp → Prop) (pc : Nat) (L : Lc) (st : List Value) (h : Hp) : Option (Op × Bool) → Prop
  | some (op, false) => ap F d L h Q (act op L st h)
  | _ => wp d y pc L st h Q
def wpn : Nat → Nat → Nat → (Option Value → Hp → Prop) → Nat → Lc → List Value → Hp → Prop
  | 0, d, y, Q, pc, L, st, h => wp d y pc L st h Q
  | k + 1, d, y, Q, pc, L, st, h => stp (wpn k d y Q) d y Q pc L st h (icode y pc)
theorem run_mono : ∀ (k d y pc : Nat) (L : Lc) (st : List Value) (h : Hp) (r : Option Value × Hp), run k d y pc L st h = some r → ∀ k', k ≤ k' → run k' d y pc L st h = some r := by
  intro k
  induction k with
  | zero => intro d y pc L st h r hr; simp [run] at hr
  | succ k ih =>
    intro d y pc L st h r hr k' hk
    obtain ⟨k', rfl⟩ : ∃ j, k' = j + 1 := ⟨k' - 1, by omega⟩
    have hk : k ≤ k' := by omega
    unfold run at hr ⊢
    cases hc : icode y pc with
    | none => rw [hc] at hr; simp at hr
    | some e =>
      obtain ⟨op, hd⟩ := e
      rw [hc] at hr
      simp only at hr ⊢
      cases ha : act op L st h with
      | none => rw [ha] at hr; simp at hr
      | some a =>
        rw [ha] at hr
        rcases a with ⟨pc', L', st', h'⟩ | ⟨y', np, as, rest⟩ | v
        · exact ih _ _ _ _ _ _ _ hr _ hk
        · cases d with
          | zero => simp at hr
          | succ d =>
            simp only at hr ⊢
            by_cases he : (ent1 as).length ≤ mxY y'
            · rw [if_pos he] at hr ⊢
              cases hq : run k d y' 0 (ent as (mxY y')) [] h with
              | none => rw [hq] at hr; simp at hr
              | some z =>
                rw [hq] at hr
                rw [ih _ _ _ _ _ _ _ hq _ hk]
                obtain ⟨v, h'⟩ := z
                exact ih _ _ _ _ _ _ _ hr _ hk
            · rw [if_neg he] at hr; simp at hr
        · exact hr
theorem run_deep : ∀ (k d y pc : Nat) (L : Lc) (st : List Value) (h : Hp) (r : Option Value × Hp), run k d y pc L st h = some r → ∀ d', d ≤ d' → run k d' y pc L st h = some r := by
  intro k
  induction k with
  | zero => intro d y pc L st h r hr; simp [run] at hr
  | succ k ih =>
    intro d y pc L st h r hr d' hd'
    unfold run at hr ⊢
    cases hc : icode y pc with
    | none => rw [hc] at hr; simp at hr
    | some e =>
      obtain ⟨op, hd⟩ := e
      rw [hc] at hr
      simp only at hr ⊢
      cases ha : act op L st h with
      | none => rw [ha] at hr; simp at hr
      | some a =>
        rw [ha] at hr
        rcases a with ⟨pc', L', st', h'⟩ | ⟨y', np, as, rest⟩ | v
        · exact ih _ _ _ _ _ _ _ hr _ hd'
        · cases d with
          | zero => simp at hr
          | succ d =>
            obtain ⟨d', rfl⟩ : ∃ j, d' = j + 1 := ⟨d' - 1, by omega⟩
            simp only at hr ⊢
            by_cases he : (ent1 as).length ≤ mxY y'
            · rw [if_pos he] at hr ⊢
              cases hq : run k d y' 0 (ent as (mxY y')) [] h with
              | none => rw [hq] at hr; simp at hr
              | some z =>
                rw [hq] at hr
                rw [ih _ _ _ _ _ _ _ hq _ (by omega : d ≤ d')]
                obtain ⟨v, h'⟩ := z
                exact ih _ _ _ _ _ _ _ hr _ hd'
            · rw [if_neg he] at hr; simp at hr
        · exact hr
theorem Ret.det {d e y : Nat} {as : List Value} {h : Hp} {v w : Option Value} {h1 h2 : Hp} (a : Ret d y as h v h1) (b : Ret e y as h w h2) : v = w ∧ h1 = h2 := by
  obtain ⟨-, k, a⟩ := a
  obtain ⟨-, j, b⟩ := b
  have a1 := run_deep _ _ _ _ _ _ _ _ (run_mono _ _ _ _ _ _ _ _ a (max k j) (Nat.le_max_left _ _)) (max d e) (Nat.le_max_left _ _)
  have b1 := run_deep _ _ _ _ _ _ _ _ (run_mono _ _ _ _ _ _ _ _ b (max k j) (Nat.le_max_right _ _)) (max d e) (Nat.le_max_right _ _)
  have e1 := Option.some.inj (a1.symm.trans b1)
  exact ⟨congrArg Prod.fst e1, congrArg Prod.snd e1⟩
theorem Ret.up {d e y : Nat} {as : List Value} {h : Hp} {v : Option Value} {h1 : Hp} (a : Ret d y as h v h1) (hd : d ≤ e) : Ret e y as h v h1 := by
  obtain ⟨c, k, a⟩ := a
  exact ⟨c, k, run_deep _ _ _ _ _ _ _ _ a _ hd⟩
theorem Cal_eq {d e y : Nat} {as : List Value} {h : Hp} {v : Option Value} {h' : Hp} (a : Ret d y as h v h') (hd : d ≤ e) (K : Option Value → Hp → Prop) : Cal e y as h K = K v h' := by
  apply propext
  constructor
  · rintro ⟨w, g, b, c⟩
    obtain ⟨rfl, rfl⟩ := a.det b
    exact c
  · exact fun c => ⟨v, h', a.up hd, c⟩
theorem wp_one {d y pc : Nat} {L : Lc} {st : List Value} {h : Hp} {Q : Option Value → Hp → Prop} {op : Op} {hd : Bool} (hc : icode y pc = some (op, hd)) (hs : ap (fun pc L st h => wp d y pc L st h Q) d L h Q (act op L st h)) : wp d y pc L st h Q := by
  cases ha : act op L st h with
  | none => rw [ha] at hs; exact hs.elim
  | some a =>
    rw [ha] at hs
    rcases a with ⟨pc', L', st', h'⟩ | ⟨y', np, as, rest⟩ | v
    · obtain ⟨k, v, g, h1, h2⟩ := hs
      exact ⟨k + 1, v, g, by simp only [run, hc, ha]; exact h1, h2⟩
    · cases d with
      | zero => exact hs.elim
      | succ d =>
        obtain ⟨w, g, ⟨he, k, h1⟩, j, v, g2, h2, h3⟩ := hs
        refine ⟨max k j + 1, v, g2, ?_, h3⟩
        simp only [run, hc, ha]
        rw [if_pos he]
        rw [run_mono _ _ _ _ _ _ _ _ h1 _ (Nat.le_max_left k j)]
        exact run_mono _ _ _ _ _ _ _ _ h2 _ (Nat.le_max_right k j)
    · exact ⟨1, v, h, by simp only [run, hc, ha], hs⟩
theorem Cal'_mono {d y : Nat} {as : List Value} {h : Hp} {K K' : Option Value → Hp → Prop} (hk : ∀ v g, K v g → K' v g) (a : Cal' d y as h K) : Cal' d y as h K' := by
  cases d with
  | zero => exact a
  | succ d => obtain ⟨v, g, h1, h2⟩ := a; exact ⟨v, g, h1, hk _ _ h2⟩
theorem ap_mono {F G : Nat → Lc → List Value → Hp → Prop} (hF : ∀ pc L st h, F pc L st h → G pc L st h) {d : Nat} {L : Lc} {h : Hp} {Q : Option Value → Hp → Prop} {a : Act} (ha : ap F d L h Q a) : ap G d L h Q a := by
  rcases a with _ | ⟨pc', L', st', h'⟩ | ⟨y', np, as, rest⟩ | v
  · exact ha
  · exact hF _ _ _ _ ha
  · exact Cal'_mono (fun _ _ => hF _ _ _ _) ha
  · exact ha
theorem wpn_wp : ∀ (k d y : Nat) (Q : Option Value → Hp → Prop) (pc : Nat) (L : Lc) (st : List Value) (h : Hp), wpn k d y Q pc L st h → wp d y pc L st h Q := by
  intro k
  induction k with
  | zero => intro d y Q pc L st h hw; exact hw
  | succ k ih =>
    intro d y Q pc L st h hw
    unfold wpn at hw
    cases hc : icode y pc with
    | none => rw [hc] at hw; exact hw
    | some e =>
      obtain ⟨op, hd⟩ := e
      rw [hc] at hw
      cases hd with
      | true => exact hw
      | false => exact wp_one hc (ap_mono (fun pc L st h => ih d y Q pc L st h) hw)
/-- from anywhere, a loop's head too -/
theorem wp_go (k : Nat) {d y : Nat} {Q : Option Value → Hp → Prop} {pc : Nat} {L : Lc} {st : List Value} {h : Hp} {op : Op} {hd : Bool} (hc : icode y pc = some (op, hd)) (hs : stp (wpn k d y Q) d y Q pc L st h (some (op, false))) : wp d y pc L st h Q :=
  wp_one hc (ap_mono (fun pc L st h => wpn_wp k d y Q pc L st h) hs)
theorem ent_len {as : List Value} {n : Nat} {L : Lc} (hL : ent as n = L) (hl : L.length = n) : (ent1 as).length ≤ n := by
  rw [← hL] at hl
  simp [ent] at hl
  omega
theorem Ret_L {d y : Nat} {as : List Value} {h : Hp} {v : Option Value} {h' : Hp} (L : Lc) (hL : ent as (mxY y) = L) (hl : L.length = mxY y) (hw : ∀ Q : Option Value → Hp → Prop, Q v h' → wp d y 0 L [] h Q) : Ret d y as h v h' := by
  obtain ⟨k, w, g, h1, rfl, rfl⟩ := hw (fun a b => a = v ∧ b = h') ⟨rfl, rfl⟩
  exact ⟨ent_len hL hl, k, by rw [hL]; exact h1⟩
theorem Ret_ex {d y : Nat} {as : List Value} {h : Hp} {P : Option Value → Hp → Prop} (L : Lc) (hL : ent as (mxY y) = L) (hl : L.length = mxY y) (hw : wp d y 0 L [] h P) : ∃ v h', Ret d y as h v h' ∧ P v h' := by
  obtain ⟨k, w, g, h1, h2⟩ := hw
  exact ⟨w, g, ⟨ent_len hL hl, k, by rw [hL]; exact h1⟩, h2⟩
theorem wp_conseq {d y pc : Nat} {L : Lc} {st : List Value} {h : Hp} {Q Q' : Option Value → Hp → Prop} (hw : wp d y pc L st h Q) (hq : ∀ v g, Q v g → Q' v g) : wp d y pc L st h Q' := by
  obtain ⟨k, v, g, h1, h2⟩ := hw
  exact ⟨k, v, g, h1, hq _ _ h2⟩
theorem wpn_succ (k d y : Nat) (Q : Option Value → Hp → Prop) (pc : Nat) (L : Lc) (st : List Value) (h : Hp) : wpn (k + 1) d y Q pc L st h = stp (wpn k d y Q) d y Q pc L st h (icode y pc) := rfl
theorem wpn_zero (d y : Nat) (Q : Option Value → Hp → Prop) (pc : Nat) (L : Lc) (st : List Value) (h : Hp) : wpn 0 d y Q pc L st h = wp d y pc L st h Q := rfl
theorem Cal'_s (d y : Nat) (as : List Value) (h : Hp) (K : Option Value → Hp → Prop) : Cal' (d + 1) y as h K = Cal d y as h K := rfl
def ldI (F : Nat → Lc → List Value → Hp → Prop) (np : Nat) (L : Lc) (st : List Value) (h : Hp) : Option Value → Prop
  | some (.int x) => F np L (.int x :: st) h
  | _ => False
def ldL (F : Nat → Lc → List Value → Hp → Prop) (np : Nat) (L : Lc) (st : List Value) (h : Hp) : Option Value → Prop
  | some (.long x) => F np L (.long x :: st) h
  | _ => False
def ldA (F : Nat → Lc → List Value → Hp → Prop) (np : Nat) (L : Lc) (st : List Value) (h : Hp) : Option Value → Prop
  | some (.ref x) => F np L (.ref x :: st) h
  | _ => False
def inc (F : Nat → Lc → List Value → Hp → Prop) (i np : Nat) (w : Int32) (L : Lc) (st : List Value) (h : Hp) : Option Value → Prop
  | some (.int x) => F np (st1 L i (.int (x + w))) st h
  | _ => False
theorem ldI_i (F : Nat → Lc → List Value → Hp → Prop) (np : Nat) (L : Lc) (st : List Value) (h : Hp) (x : Int32) : ldI F np L st h (some (.int x)) = F np L (.int x :: st) h := rfl
theorem ldL_l (F : Nat → Lc → List Value → Hp → Prop) (np : Nat) (L : Lc) (st : List Value) (h : Hp) (x : Int64) : ldL F np L st h (some (.long x)) = F np L (.long x :: st) h := rfl
theorem ldA_a (F : Nat → Lc → List Value → Hp → Prop) (np : Nat) (L : Lc) (st : List Value) (h : Hp) (x : Nat) : ldA F np L st h (some (.ref x)) = F np L (.ref x :: st) h := rfl
theorem inc_i (F : Nat → Lc → List Value → Hp → Prop) (i np : Nat) (w : Int32) (L : Lc) (st : List Value) (h : Hp) (x : Int32) : inc F i np w L st h (some (.int x)) = F np (st1 L i (.int (x + w))) st h := rfl
theorem ap_gd (F : Nat → Lc → List Value → Hp → Prop) (d : Nat) (L : Lc) (h : Hp) (Q : Option Value → Hp → Prop) (b : Prop) (a : Act) : ap F d L h Q (gd b a) = (b ∧ ap F d L h Q a) := by
  unfold gd
  by_cases hb : b
  · rw [if_pos hb]; simp [hb]
  · rw [if_neg hb]; simp [hb, ap]
theorem ap_br (F : Nat → Lc → List Value → Hp → Prop) (d : Nat) (L L' : Lc) (h h' : Hp) (Q : Option Value → Hp → Prop) (b : Prop) [Decidable b] (t f : Nat) (st : List Value) : ap F d L h Q (br b t f L' st h') = (if b then F t L' st h' else F f L' st h') := by
  unfold br
  by_cases hb : b
  · rw [if_pos hb, if_pos hb]; rfl
  · rw [if_neg hb, if_neg hb]; rfl
theorem p_0 (F : Nat → Lc → List Value → Hp → Prop) (d y : Nat) (Q : Option Value → Hp → Prop) (pc : Nat) (L : Lc) (h : Hp) (i np c : Nat) (v : Int) (cs : List (Int × Nat))  (st : List Value) : stp F d y Q pc L (st) h (some ((0, i, np, c, v, cs), false)) = ldI F np L st h (lk L i) := by
  change ap F d L h Q (match lk L i with | some (.int x) => nx np L (.int x :: st) h | _ => none) = _
  cases lk L i with
  | none => rfl
  | some w => cases w <;> rfl
theorem p_1 (F : Nat → Lc → List Value → Hp → Prop) (d y : Nat) (Q : Option Value → Hp → Prop) (pc : Nat) (L : Lc) (h : Hp) (i np c : Nat) (v : Int) (cs : List (Int × Nat))  (st : List Value) : stp F d y Q pc L (st) h (some ((1, i, np, c, v, cs), false)) = ldL F np L st h (lk L i) := by
  change ap F d L h Q (match lk L i with | some (.long x) => nx np L (.long x :: st) h | _ => none) = _
  cases lk L i with
  | none => rfl
  | some w => cases w <;> rfl
theorem p_2 (F : Nat → Lc → List Value → Hp → Prop) (d y : Nat) (Q : Option Value → Hp → Prop) (pc : Nat) (L : Lc) (h : Hp) (i np c : Nat) (v : Int) (cs : List (Int × Nat))  (st : List Value) : stp F d y Q pc L (st) h (some ((2, i, np, c, v, cs), false)) = ldA F np L st h (lk L i) := by
  change ap F d L h Q (match lk L i with | some (.ref x) => nx np L (.ref x :: st) h | _ => none) = _
  cases lk L i with
  | none => rfl
  | some w => cases w <;> rfl
theorem p_3 (F : Nat → Lc → List Value → Hp → Prop) (d y : Nat) (Q : Option Value → Hp → Prop) (pc : Nat) (L : Lc) (h : Hp) (i np c : Nat) (v : Int) (cs : List (Int × Nat)) (x : Int32) (st : List Value) : stp F d y Q pc L (.int x :: st) h (some ((3, i, np, c, v, cs), false)) = (i < L.length ∧ F np (st1 L i (.int x)) st h) := ap_gd F d L h Q _ _
theorem p_4 (F : Nat → Lc → List Value → Hp → Prop) (d y : Nat) (Q : Option Value → Hp → Prop) (pc : Nat) (L : Lc) (h : Hp) (i np c : Nat) (v : Int) (cs : List (Int × Nat)) (x : Int64) (st : List Value) : stp F d y Q pc L (.long x :: st) h (some ((4, i, np, c, v, cs), false)) = (i + 1 < L.length ∧ F np (st2 L i (.long x)) st h) := ap_gd F d L h Q _ _
theorem p_5 (F : Nat → Lc → List Value → Hp → Prop) (d y : Nat) (Q : Option Value → Hp → Prop) (pc : Nat) (L : Lc) (h : Hp) (i np c : Nat) (v : Int) (cs : List (Int × Nat)) (x : Nat) (st : List Value) : stp F d y Q pc L (.ref x :: st) h (some ((5, i, np, c, v, cs), false)) = (i < L.length ∧ F np (st1 L i (.ref x)) st h) := ap_gd F d L h Q _ _
theorem p_6 (F : Nat → Lc → List Value → Hp → Prop) (d y : Nat) (Q : Option Value → Hp → Prop) (pc : Nat) (L : Lc) (h : Hp) (i np c : Nat) (v : Int) (cs : List (Int × Nat))  (st : List Value) : stp F d y Q pc L (st) h (some ((6, i, np, c, v, cs), false)) = F np L (.int (Int32.ofInt v) :: st) h := rfl
theorem p_7 (F : Nat → Lc → List Value → Hp → Prop) (d y : Nat) (Q : Option Value → Hp → Prop) (pc : Nat) (L : Lc) (h : Hp) (i np c : Nat) (v : Int) (cs : List (Int × Nat))  (st : List Value) : stp F d y Q pc L (st) h (some ((7, i, np, c, v, cs), false)) = F np L (.long (Int64.ofInt v) :: st) h := rfl
theorem p_8 (F : Nat → Lc → List Value → Hp → Prop) (d y : Nat) (Q : Option Value → Hp → Prop) (pc : Nat) (L : Lc) (h : Hp) (i np c : Nat) (v : Int) (cs : List (Int × Nat))  (st : List Value) : stp F d y Q pc L (st) h (some ((8, i, np, c, v, cs), false)) = F np L (.null :: st) h := rfl
theorem p_9 (F : Nat → Lc → List Value → Hp → Prop) (d y : Nat) (Q : Option Value → Hp → Prop) (pc : Nat) (L : Lc) (h : Hp) (i np c : Nat) (v : Int) (cs : List (Int × Nat))  (st : List Value) : stp F d y Q pc L (st) h (some ((9, i, np, c, v, cs), false)) = inc F i np (Int32.ofInt v) L st h (lk L i) := by
  change ap F d L h Q (match lk L i with | some (.int x) => nx np (st1 L i (.int (x + Int32.ofInt v))) st h | _ => none) = _
  cases lk L i with
  | none => rfl
  | some w => cases w <;> rfl
theorem p_10 (F : Nat → Lc → List Value → Hp → Prop) (d y : Nat) (Q : Option Value → Hp → Prop) (pc : Nat) (L : Lc) (h : Hp) (i np c : Nat) (v : Int) (cs : List (Int × Nat)) (x y' : Int32) (st : List Value) : stp F d y Q pc L (.int y' :: .int x :: st) h (some ((10, i, np, c, v, cs), false)) = F np L (.int (x + y') :: st) h := rfl
theorem p_53 (F : Nat → Lc → List Value → Hp → Prop) (d y : Nat) (Q : Option Value → Hp → Prop) (pc : Nat) (L : Lc) (h : Hp) (i np c : Nat) (v : Int) (cs : List (Int × Nat)) (x y' : Int32) (st : List Value) : stp F d y Q pc L (.int y' :: .int x :: st) h (some ((53, i, np, c, v, cs), false)) = (cat st ≤ 8 ∧ F np L (.int (if x < y' then y' else x) :: st) h) := ap_gd F d L h Q _ _
theorem p_54 (F : Nat → Lc → List Value → Hp → Prop) (d y : Nat) (Q : Option Value → Hp → Prop) (pc : Nat) (L : Lc) (h : Hp) (i np c : Nat) (v : Int) (cs : List (Int × Nat)) (x y' : Int32) (st : List Value) : stp F d y Q pc L (.int y' :: .int x :: st) h (some ((54, i, np, c, v, cs), false)) = (cat st ≤ 8 ∧ F np L (.int (if y' < x then y' else x) :: st) h) := ap_gd F d L h Q _ _
theorem p_11 (F : Nat → Lc → List Value → Hp → Prop) (d y : Nat) (Q : Option Value → Hp → Prop) (pc : Nat) (L : Lc) (h : Hp) (i np c : Nat) (v : Int) (cs : List (Int × Nat)) (x y' : Int32) (st : List Value) : stp F d y Q pc L (.int y' :: .int x :: st) h (some ((11, i, np, c, v, cs), false)) = F np L (.int (x - y') :: st) h := rfl
theorem p_12 (F : Nat → Lc → List Value → Hp → Prop) (d y : Nat) (Q : Option Value → Hp → Prop) (pc : Nat) (L : Lc) (h : Hp) (i np c : Nat) (v : Int) (cs : List (Int × Nat)) (x y' : Int32) (st : List Value) : stp F d y Q pc L (.int y' :: .int x :: st) h (some ((12, i, np, c, v, cs), false)) = F np L (.int (x * y') :: st) h := rfl
theorem p_13 (F : Nat → Lc → List Value → Hp → Prop) (d y : Nat) (Q : Option Value → Hp → Prop) (pc : Nat) (L : Lc) (h : Hp) (i np c : Nat) (v : Int) (cs : List (Int × Nat)) (x y' : Int32) (st : List Value) : stp F d y Q pc L (.int y' :: .int x :: st) h (some ((13, i, np, c, v, cs), false)) = F np L (.int (x &&& y') :: st) h := rfl
theorem p_14 (F : Nat → Lc → List Value → Hp → Prop) (d y : Nat) (Q : Option Value → Hp → Prop) (pc : Nat) (L : Lc) (h : Hp) (i np c : Nat) (v : Int) (cs : List (Int × Nat)) (x y' : Int32) (st : List Value) : stp F d y Q pc L (.int y' :: .int x :: st) h (some ((14, i, np, c, v, cs), false)) = F np L (.int (x ||| y') :: st) h := rfl
theorem p_15 (F : Nat → Lc → List Value → Hp → Prop) (d y : Nat) (Q : Option Value → Hp → Prop) (pc : Nat) (L : Lc) (h : Hp) (i np c : Nat) (v : Int) (cs : List (Int × Nat)) (x y' : Int32) (st : List Value) : stp F d y Q pc L (.int y' :: .int x :: st) h (some ((15, i, np, c, v, cs), false)) = F np L (.int (x <<< (y' &&& 31)) :: st) h := rfl
theorem p_16 (F : Nat → Lc → List Value → Hp → Prop) (d y : Nat) (Q : Option Value → Hp → Prop) (pc : Nat) (L : Lc) (h : Hp) (i np c : Nat) (v : Int) (cs : List (Int × Nat)) (x y' : Int32) (st : List Value) : stp F d y Q pc L (.int y' :: .int x :: st) h (some ((16, i, np, c, v, cs), false)) = F np L (.int (x >>> (y' &&& 31)) :: st) h := rfl
theorem p_17 (F : Nat → Lc → List Value → Hp → Prop) (d y : Nat) (Q : Option Value → Hp → Prop) (pc : Nat) (L : Lc) (h : Hp) (i np c : Nat) (v : Int) (cs : List (Int × Nat)) (x y' : Int32) (st : List Value) : stp F d y Q pc L (.int y' :: .int x :: st) h (some ((17, i, np, c, v, cs), false)) = F np L (.int (x.toUInt32 >>> (y'.toUInt32 &&& Int32.toUInt32 31)).toInt32 :: st) h := rfl
theorem p_18 (F : Nat → Lc → List Value → Hp → Prop) (d y : Nat) (Q : Option Value → Hp → Prop) (pc : Nat) (L : Lc) (h : Hp) (i np c : Nat) (v : Int) (cs : List (Int × Nat)) (x : Int32) (st : List Value) : stp F d y Q pc L (.int x :: st) h (some ((18, i, np, c, v, cs), false)) = F np L (.int (-x) :: st) h := rfl
theorem p_19 (F : Nat → Lc → List Value → Hp → Prop) (d y : Nat) (Q : Option Value → Hp → Prop) (pc : Nat) (L : Lc) (h : Hp) (i np c : Nat) (v : Int) (cs : List (Int × Nat)) (x y' : Int32) (st : List Value) : stp F d y Q pc L (.int y' :: .int x :: st) h (some ((19, i, np, c, v, cs), false)) = (¬ y' = 0 ∧ F np L (.int (x / y') :: st) h) := ap_gd F d L h Q _ _
theorem p_20 (F : Nat → Lc → List Value → Hp → Prop) (d y : Nat) (Q : Option Value → Hp → Prop) (pc : Nat) (L : Lc) (h : Hp) (i np c : Nat) (v : Int) (cs : List (Int × Nat)) (x y' : Int32) (st : List Value) : stp F d y Q pc L (.int y' :: .int x :: st) h (some ((20, i, np, c, v, cs), false)) = (¬ y' = 0 ∧ F np L (.int (x - x / y' * y') :: st) h) := ap_gd F d L h Q _ _
theorem p_21 (F : Nat → Lc → List Value → Hp → Prop) (d y : Nat) (Q : Option Value → Hp → Prop) (pc : Nat) (L : Lc) (h : Hp) (i np c : Nat) (v : Int) (cs : List (Int × Nat)) (x y' : Int64) (st : List Value) : stp F d y Q pc L (.long y' :: .long x :: st) h (some ((21, i, np, c, v, cs), false)) = F np L (.long (x + y') :: st) h := rfl
theorem p_22 (F : Nat → Lc → List Value → Hp → Prop) (d y : Nat) (Q : Option Value → Hp → Prop) (pc : Nat) (L : Lc) (h : Hp) (i np c : Nat) (v : Int) (cs : List (Int × Nat)) (x y' : Int64) (st : List Value) : stp F d y Q pc L (.long y' :: .long x :: st) h (some ((22, i, np, c, v, cs), false)) = F np L (.long (x - y') :: st) h := rfl
theorem p_23 (F : Nat → Lc → List Value → Hp → Prop) (d y : Nat) (Q : Option Value → Hp → Prop) (pc : Nat) (L : Lc) (h : Hp) (i np c : Nat) (v : Int) (cs : List (Int × Nat)) (x y' : Int64) (st : List Value) : stp F d y Q pc L (.long y' :: .long x :: st) h (some ((23, i, np, c, v, cs), false)) = F np L (.long (x * y') :: st) h := rfl
theorem p_24 (F : Nat → Lc → List Value → Hp → Prop) (d y : Nat) (Q : Option Value → Hp → Prop) (pc : Nat) (L : Lc) (h : Hp) (i np c : Nat) (v : Int) (cs : List (Int × Nat)) (x y' : Int64) (st : List Value) : stp F d y Q pc L (.long y' :: .long x :: st) h (some ((24, i, np, c, v, cs), false)) = (¬ y' = 0 ∧ F np L (.long (x / y') :: st) h) := ap_gd F d L h Q _ _
theorem p_25 (F : Nat → Lc → List Value → Hp → Prop) (d y : Nat) (Q : Option Value → Hp → Prop) (pc : Nat) (L : Lc) (h : Hp) (i np c : Nat) (v : Int) (cs : List (Int × Nat)) (x y' : Int64) (st : List Value) : stp F d y Q pc L (.long y' :: .long x :: st) h (some ((25, i, np, c, v, cs), false)) = (¬ y' = 0 ∧ F np L (.long (x - x / y' * y') :: st) h) := ap_gd F d L h Q _ _
theorem p_26 (F : Nat → Lc → List Value → Hp → Prop) (d y : Nat) (Q : Option Value → Hp → Prop) (pc : Nat) (L : Lc) (h : Hp) (i np c : Nat) (v : Int) (cs : List (Int × Nat)) (x y' : Int64) (st : List Value) : stp F d y Q pc L (.long y' :: .long x :: st) h (some ((26, i, np, c, v, cs), false)) = F np L (.int (lg_cmp x y') :: st) h := rfl
theorem p_27 (F : Nat → Lc → List Value → Hp → Prop) (d y : Nat) (Q : Option Value → Hp → Prop) (pc : Nat) (L : Lc) (h : Hp) (i np c : Nat) (v : Int) (cs : List (Int × Nat)) (x : Int32) (st : List Value) : stp F d y Q pc L (.int x :: st) h (some ((27, i, np, c, v, cs), false)) = F np L (.long x.toInt64 :: st) h := rfl
theorem p_30 (F : Nat → Lc → List Value → Hp → Prop) (d y : Nat) (Q : Option Value → Hp → Prop) (pc : Nat) (L : Lc) (h : Hp) (i np c : Nat) (v : Int) (cs : List (Int × Nat))  (st : List Value) : stp F d y Q pc L (st) h (some ((30, i, np, c, v, cs), false)) = F i L st h := rfl
theorem p_31 (F : Nat → Lc → List Value → Hp → Prop) (d y : Nat) (Q : Option Value → Hp → Prop) (pc : Nat) (L : Lc) (h : Hp) (i np c : Nat) (v : Int) (cs : List (Int × Nat)) (x : Int32) (st : List Value) : stp F d y Q pc L (.int x :: st) h (some ((31, i, np, c, v, cs), false)) = (if x = 0 then F i L st h else F np L st h) := ap_br F d L L h h Q _ i np st
theorem p_32 (F : Nat → Lc → List Value → Hp → Prop) (d y : Nat) (Q : Option Value → Hp → Prop) (pc : Nat) (L : Lc) (h : Hp) (i np c : Nat) (v : Int) (cs : List (Int × Nat)) (x : Int32) (st : List Value) : stp F d y Q pc L (.int x :: st) h (some ((32, i, np, c, v, cs), false)) = (if ¬ x = 0 then F i L st h else F np L st h) := ap_br F d L L h h Q _ i np st
theorem p_33 (F : Nat → Lc → List Value → Hp → Prop) (d y : Nat) (Q : Option Value → Hp → Prop) (pc : Nat) (L : Lc) (h : Hp) (i np c : Nat) (v : Int) (cs : List (Int × Nat)) (x : Int32) (st : List Value) : stp F d y Q pc L (.int x :: st) h (some ((33, i, np, c, v, cs), false)) = (if x < 0 then F i L st h else F np L st h) := ap_br F d L L h h Q _ i np st
theorem p_34 (F : Nat → Lc → List Value → Hp → Prop) (d y : Nat) (Q : Option Value → Hp → Prop) (pc : Nat) (L : Lc) (h : Hp) (i np c : Nat) (v : Int) (cs : List (Int × Nat)) (x : Int32) (st : List Value) : stp F d y Q pc L (.int x :: st) h (some ((34, i, np, c, v, cs), false)) = (if 0 ≤ x then F i L st h else F np L st h) := ap_br F d L L h h Q _ i np st
theorem p_35 (F : Nat → Lc → List Value → Hp → Prop) (d y : Nat) (Q : Option Value → Hp → Prop) (pc : Nat) (L : Lc) (h : Hp) (i np c : Nat) (v : Int) (cs : List (Int × Nat)) (x : Int32) (st : List Value) : stp F d y Q pc L (.int x :: st) h (some ((35, i, np, c, v, cs), false)) = (if 0 < x then F i L st h else F np L st h) := ap_br F d L L h h Q _ i np st
theorem p_36 (F : Nat → Lc → List Value → Hp → Prop) (d y : Nat) (Q : Option Value → Hp → Prop) (pc : Nat) (L : Lc) (h : Hp) (i np c : Nat) (v : Int) (cs : List (Int × Nat)) (x : Int32) (st : List Value) : stp F d y Q pc L (.int x :: st) h (some ((36, i, np, c, v, cs), false)) = (if x ≤ 0 then F i L st h else F np L st h) := ap_br F d L L h h Q _ i np st
theorem p_41 (F : Nat → Lc → List Value → Hp → Prop) (d y : Nat) (Q : Option Value → Hp → Prop) (pc : Nat) (L : Lc) (h : Hp) (i np c : Nat) (v : Int) (cs : List (Int × Nat)) (x y' : Int32) (st : List Value) : stp F d y Q pc L (.int y' :: .int x :: st) h (some ((41, i, np, c, v, cs), false)) = (if x = y' then F i L st h else F np L st h) := ap_br F d L L h h Q _ i np st
theorem p_42 (F : Nat → Lc → List Value → Hp → Prop) (d y : Nat) (Q : Option Value → Hp → Prop) (pc : Nat) (L : Lc) (h : Hp) (i np c : Nat) (v : Int) (cs : List (Int × Nat)) (x y' : Int32) (st : List Value) : stp F d y Q pc L (.int y' :: .int x :: st) h (some ((42, i, np, c, v, cs), false)) = (if ¬ x = y' then F i L st h else F np L st h) := ap_br F d L L h h Q _ i np st
theorem p_43 (F : Nat → Lc → List Value → Hp → Prop) (d y : Nat) (Q : Option Value → Hp → Prop) (pc : Nat) (L : Lc) (h : Hp) (i np c : Nat) (v : Int) (cs : List (Int × Nat)) (x y' : Int32) (st : List Value) : stp F d y Q pc L (.int y' :: .int x :: st) h (some ((43, i, np, c, v, cs), false)) = (if x < y' then F i L st h else F np L st h) := ap_br F d L L h h Q _ i np st
theorem p_44 (F : Nat → Lc → List Value → Hp → Prop) (d y : Nat) (Q : Option Value → Hp → Prop) (pc : Nat) (L : Lc) (h : Hp) (i np c : Nat) (v : Int) (cs : List (Int × Nat)) (x y' : Int32) (st : List Value) : stp F d y Q pc L (.int y' :: .int x :: st) h (some ((44, i, np, c, v, cs), false)) = (if y' ≤ x then F i L st h else F np L st h) := ap_br F d L L h h Q _ i np st
theorem p_45 (F : Nat → Lc → List Value → Hp → Prop) (d y : Nat) (Q : Option Value → Hp → Prop) (pc : Nat) (L : Lc) (h : Hp) (i np c : Nat) (v : Int) (cs : List (Int × Nat)) (x y' : Int32) (st : List Value) : stp F d y Q pc L (.int y' :: .int x :: st) h (some ((45, i, np, c, v, cs), false)) = (if y' < x then F i L st h else F np L st h) := ap_br F d L L h h Q _ i np st
theorem p_46 (F : Nat → Lc → List Value → Hp → Prop) (d y : Nat) (Q : Option Value → Hp → Prop) (pc : Nat) (L : Lc) (h : Hp) (i np c : Nat) (v : Int) (cs : List (Int × Nat)) (x y' : Int32) (st : List Value) : stp F d y Q pc L (.int y' :: .int x :: st) h (some ((46, i, np, c, v, cs), false)) = (if x ≤ y' then F i L st h else F np L st h) := ap_br F d L L h h Q _ i np st
theorem p_47a (F : Nat → Lc → List Value → Hp → Prop) (d y : Nat) (Q : Option Value → Hp → Prop) (pc : Nat) (L : Lc) (h : Hp) (i np c : Nat) (v : Int) (cs : List (Int × Nat)) (x : Nat) (st : List Value) : stp F d y Q pc L (.ref x :: st) h (some ((47, i, np, c, v, cs), false)) = F np L st h := rfl
theorem p_47b (F : Nat → Lc → List Value → Hp → Prop) (d y : Nat) (Q : Option Value → Hp → Prop) (pc : Nat) (L : Lc) (h : Hp) (i np c : Nat) (v : Int) (cs : List (Int × Nat))  (st : List Value) : stp F d y Q pc L (.null :: st) h (some ((47, i, np, c, v, cs), false)) = F i L st h := rfl
theorem p_50 (F : Nat → Lc → List Value → Hp → Prop) (d y : Nat) (Q : Option Value → Hp → Prop) (pc : Nat) (L : Lc) (h : Hp) (i np c : Nat) (v : Int) (cs : List (Int × Nat)) (w : Value) (st : List Value) : stp F d y Q pc L (w :: st) h (some ((50, i, np, c, v, cs), false)) = (w.category = 1 ∧ F np L (w :: w :: st) h) := ap_gd F d L h Q _ _
theorem p_51 (F : Nat → Lc → List Value → Hp → Prop) (d y : Nat) (Q : Option Value → Hp → Prop) (pc : Nat) (L : Lc) (h : Hp) (i np c : Nat) (v : Int) (cs : List (Int × Nat)) (w z : Value) (st : List Value) : stp F d y Q pc L (w :: z :: st) h (some ((51, i, np, c, v, cs), false)) = ((w.category = 1 ∧ z.category = 1) ∧ F np L (w :: z :: w :: z :: st) h) := ap_gd F d L h Q _ _
theorem p_52 (F : Nat → Lc → List Value → Hp → Prop) (d y : Nat) (Q : Option Value → Hp → Prop) (pc : Nat) (L : Lc) (h : Hp) (i np c : Nat) (v : Int) (cs : List (Int × Nat)) (w : Value) (st : List Value) : stp F d y Q pc L (w :: st) h (some ((52, i, np, c, v, cs), false)) = (w.category = 1 ∧ F np L st h) := ap_gd F d L h Q _ _
theorem p_60 (F : Nat → Lc → List Value → Hp → Prop) (d y : Nat) (Q : Option Value → Hp → Prop) (pc : Nat) (L : Lc) (h : Hp) (i np c : Nat) (v : Int) (cs : List (Int × Nat)) (o : Nat) (st : List Value) : stp F d y Q pc L (.ref o :: st) h (some ((60, i, np, c, v, cs), false)) = (ob h o i ∧ F np L (.int (gi h o c) :: st) h) := ap_gd F d L h Q _ _
theorem p_61 (F : Nat → Lc → List Value → Hp → Prop) (d y : Nat) (Q : Option Value → Hp → Prop) (pc : Nat) (L : Lc) (h : Hp) (i np c : Nat) (v : Int) (cs : List (Int × Nat)) (o : Nat) (st : List Value) : stp F d y Q pc L (.ref o :: st) h (some ((61, i, np, c, v, cs), false)) = (ob h o i ∧ F np L (.long (gl h o c) :: st) h) := ap_gd F d L h Q _ _
theorem p_62 (F : Nat → Lc → List Value → Hp → Prop) (d y : Nat) (Q : Option Value → Hp → Prop) (pc : Nat) (L : Lc) (h : Hp) (i np c : Nat) (v : Int) (cs : List (Int × Nat)) (o : Nat) (st : List Value) : stp F d y Q pc L (.ref o :: st) h (some ((62, i, np, c, v, cs), false)) = (ob h o i ∧ F np L (rv (gr h o c) :: st) h) := ap_gd F d L h Q _ _
theorem p_63 (F : Nat → Lc → List Value → Hp → Prop) (d y : Nat) (Q : Option Value → Hp → Prop) (pc : Nat) (L : Lc) (h : Hp) (i np c : Nat) (v : Int) (cs : List (Int × Nat)) (o : Nat) (x : Int32) (st : List Value) : stp F d y Q pc L (.int x :: .ref o :: st) h (some ((63, i, np, c, v, cs), false)) = (ob h o i ∧ F np L st (si h o c x)) := ap_gd F d L h Q _ _
theorem p_64 (F : Nat → Lc → List Value → Hp → Prop) (d y : Nat) (Q : Option Value → Hp → Prop) (pc : Nat) (L : Lc) (h : Hp) (i np c : Nat) (v : Int) (cs : List (Int × Nat)) (o : Nat) (x : Int32) (st : List Value) : stp F d y Q pc L (.int x :: .ref o :: st) h (some ((64, i, np, c, v, cs), false)) = ((ob h o i ∧ (x = 0 ∨ x = 1)) ∧ F np L st (si h o c x)) := ap_gd F d L h Q _ _
theorem p_65 (F : Nat → Lc → List Value → Hp → Prop) (d y : Nat) (Q : Option Value → Hp → Prop) (pc : Nat) (L : Lc) (h : Hp) (i np c : Nat) (v : Int) (cs : List (Int × Nat)) (o : Nat) (x : Int64) (st : List Value) : stp F d y Q pc L (.long x :: .ref o :: st) h (some ((65, i, np, c, v, cs), false)) = (ob h o i ∧ F np L st (sl h o c x)) := ap_gd F d L h Q _ _
theorem p_66 (F : Nat → Lc → List Value → Hp → Prop) (d y : Nat) (Q : Option Value → Hp → Prop) (pc : Nat) (L : Lc) (h : Hp) (i np c : Nat) (v : Int) (cs : List (Int × Nat)) (o x : Nat) (st : List Value) : stp F d y Q pc L (.ref x :: .ref o :: st) h (some ((66, i, np, c, v, cs), false)) = (ob h o i ∧ F np L st (sr h o c (some x))) := ap_gd F d L h Q _ _
theorem p_67 (F : Nat → Lc → List Value → Hp → Prop) (d y : Nat) (Q : Option Value → Hp → Prop) (pc : Nat) (L : Lc) (h : Hp) (i np c : Nat) (v : Int) (cs : List (Int × Nat)) (o x : Nat) (st : List Value) : stp F d y Q pc L (.ref x :: .ref o :: st) h (some ((67, i, np, c, v, cs), false)) = (ob h o i ∧ F np L st (sr h o c (some x))) := ap_gd F d L h Q _ _
theorem p_70 (F : Nat → Lc → List Value → Hp → Prop) (d y : Nat) (Q : Option Value → Hp → Prop) (pc : Nat) (L : Lc) (h : Hp) (i np c : Nat) (v : Int) (cs : List (Int × Nat)) (o : Nat) (j : Int32) (st : List Value) : stp F d y Q pc L (.int j :: .ref o :: st) h (some ((70, i, np, c, v, cs), false)) = ((ar h 1 o ∧ inb j (SH o).2) ∧ F np L (.int (gi h o j.toNatClampNeg) :: st) h) := ap_gd F d L h Q _ _
theorem p_71 (F : Nat → Lc → List Value → Hp → Prop) (d y : Nat) (Q : Option Value → Hp → Prop) (pc : Nat) (L : Lc) (h : Hp) (i np c : Nat) (v : Int) (cs : List (Int × Nat)) (o : Nat) (j x : Int32) (st : List Value) : stp F d y Q pc L (.int x :: .int j :: .ref o :: st) h (some ((71, i, np, c, v, cs), false)) = ((ar h 1 o ∧ inb j (SH o).2) ∧ F np L st (si h o j.toNatClampNeg x)) := ap_gd F d L h Q _ _
theorem p_72 (F : Nat → Lc → List Value → Hp → Prop) (d y : Nat) (Q : Option Value → Hp → Prop) (pc : Nat) (L : Lc) (h : Hp) (i np c : Nat) (v : Int) (cs : List (Int × Nat)) (o : Nat) (j : Int32) (st : List Value) : stp F d y Q pc L (.int j :: .ref o :: st) h (some ((72, i, np, c, v, cs), false)) = ((ar h 2 o ∧ inb j (SH o).2) ∧ F np L (.long (gl h o j.toNatClampNeg) :: st) h) := ap_gd F d L h Q _ _
theorem p_73 (F : Nat → Lc → List Value → Hp → Prop) (d y : Nat) (Q : Option Value → Hp → Prop) (pc : Nat) (L : Lc) (h : Hp) (i np c : Nat) (v : Int) (cs : List (Int × Nat)) (o : Nat) (j : Int32) (x : Int64) (st : List Value) : stp F d y Q pc L (.long x :: .int j :: .ref o :: st) h (some ((73, i, np, c, v, cs), false)) = ((ar h 2 o ∧ inb j (SH o).2) ∧ F np L st (sl h o j.toNatClampNeg x)) := ap_gd F d L h Q _ _
theorem p_74 (F : Nat → Lc → List Value → Hp → Prop) (d y : Nat) (Q : Option Value → Hp → Prop) (pc : Nat) (L : Lc) (h : Hp) (i np c : Nat) (v : Int) (cs : List (Int × Nat)) (o : Nat) (j : Int32) (st : List Value) : stp F d y Q pc L (.int j :: .ref o :: st) h (some ((74, i, np, c, v, cs), false)) = ((ar h 3 o ∧ inb j (SH o).2) ∧ F np L (rv (gr h o j.toNatClampNeg) :: st) h) := ap_gd F d L h Q _ _
theorem p_75 (F : Nat → Lc → List Value → Hp → Prop) (d y : Nat) (Q : Option Value → Hp → Prop) (pc : Nat) (L : Lc) (h : Hp) (i np c : Nat) (v : Int) (cs : List (Int × Nat)) (o x : Nat) (j : Int32) (st : List Value) : stp F d y Q pc L (.ref x :: .int j :: .ref o :: st) h (some ((75, i, np, c, v, cs), false)) = ((ar h 3 o ∧ inb j (SH o).2 ∧ ob h x 3) ∧ F np L st (sr h o j.toNatClampNeg (some x))) := ap_gd F d L h Q _ _
theorem p_76 (F : Nat → Lc → List Value → Hp → Prop) (d y : Nat) (Q : Option Value → Hp → Prop) (pc : Nat) (L : Lc) (h : Hp) (i np c : Nat) (v : Int) (cs : List (Int × Nat)) (o : Nat) (st : List Value) : stp F d y Q pc L (.ref o :: st) h (some ((76, i, np, c, v, cs), false)) = ((o < hn h ∧ ((SH o).1 = 1 ∨ (SH o).1 = 2 ∨ (SH o).1 = 3)) ∧ F np L (.int (Int32.ofNat (SH o).2) :: st) h) := ap_gd F d L h Q _ _
theorem p_77 (F : Nat → Lc → List Value → Hp → Prop) (d y : Nat) (Q : Option Value → Hp → Prop) (pc : Nat) (L : Lc) (h : Hp) (i np c : Nat) (v : Int) (cs : List (Int × Nat)) (j : Int32) (st : List Value) : stp F d y Q pc L (.int j :: .ref 999 :: st) h (some ((77, i, np, c, v, cs), false)) = (inb j (hL h) ∧ F np L (.int (hX h j.toNatClampNeg) :: st) h) := ap_gd F d L h Q _ _
theorem p_78 (F : Nat → Lc → List Value → Hp → Prop) (d y : Nat) (Q : Option Value → Hp → Prop) (pc : Nat) (L : Lc) (h : Hp) (i np c : Nat) (v : Int) (cs : List (Int × Nat))  (st : List Value) : stp F d y Q pc L (.ref 999 :: st) h (some ((78, i, np, c, v, cs), false)) = F np L (.int (Int32.ofNat (hL h)) :: st) h := rfl
theorem p_80_1 (F : Nat → Lc → List Value → Hp → Prop) (d y : Nat) (Q : Option Value → Hp → Prop) (pc : Nat) (L : Lc) (h : Hp) (i np : Nat) (v : Int) (cs : List (Int × Nat)) (o : Nat)  (st : List Value) : stp F d y Q pc L (.ref o :: st) h (some ((80, i, np, 1, v, cs), false)) = ((ob h o (ocY i) ∧ cat st ≤ 8) ∧ Cal' d i [.ref o] h (fun w g => F np L (w.toList ++ st) g)) := (ap_gd F d L h Q _ _).trans (propext ⟨fun z => ⟨⟨z.1.1, z.1.2.1⟩, z.2⟩, fun z => ⟨⟨z.1.1, z.1.2, Nat.le_add_left 1 st.length⟩, z.2⟩⟩)
theorem p_80_2 (F : Nat → Lc → List Value → Hp → Prop) (d y : Nat) (Q : Option Value → Hp → Prop) (pc : Nat) (L : Lc) (h : Hp) (i np : Nat) (v : Int) (cs : List (Int × Nat)) (o : Nat) (a0 : Value) (st : List Value) : stp F d y Q pc L (a0 :: .ref o :: st) h (some ((80, i, np, 2, v, cs), false)) = ((ob h o (ocY i) ∧ cat st ≤ 8) ∧ Cal' d i [.ref o, a0] h (fun w g => F np L (w.toList ++ st) g)) := (ap_gd F d L h Q _ _).trans (propext ⟨fun z => ⟨⟨z.1.1, z.1.2.1⟩, z.2⟩, fun z => ⟨⟨z.1.1, z.1.2, Nat.le_add_left 2 st.length⟩, z.2⟩⟩)
theorem p_80_3 (F : Nat → Lc → List Value → Hp → Prop) (d y : Nat) (Q : Option Value → Hp → Prop) (pc : Nat) (L : Lc) (h : Hp) (i np : Nat) (v : Int) (cs : List (Int × Nat)) (o : Nat) (a0 a1 : Value) (st : List Value) : stp F d y Q pc L (a1 :: a0 :: .ref o :: st) h (some ((80, i, np, 3, v, cs), false)) = ((ob h o (ocY i) ∧ cat st ≤ 8) ∧ Cal' d i [.ref o, a0, a1] h (fun w g => F np L (w.toList ++ st) g)) := (ap_gd F d L h Q _ _).trans (propext ⟨fun z => ⟨⟨z.1.1, z.1.2.1⟩, z.2⟩, fun z => ⟨⟨z.1.1, z.1.2, Nat.le_add_left 3 st.length⟩, z.2⟩⟩)
theorem p_80_4 (F : Nat → Lc → List Value → Hp → Prop) (d y : Nat) (Q : Option Value → Hp → Prop) (pc : Nat) (L : Lc) (h : Hp) (i np : Nat) (v : Int) (cs : List (Int × Nat)) (o : Nat) (a0 a1 a2 : Value) (st : List Value) : stp F d y Q pc L (a2 :: a1 :: a0 :: .ref o :: st) h (some ((80, i, np, 4, v, cs), false)) = ((ob h o (ocY i) ∧ cat st ≤ 8) ∧ Cal' d i [.ref o, a0, a1, a2] h (fun w g => F np L (w.toList ++ st) g)) := (ap_gd F d L h Q _ _).trans (propext ⟨fun z => ⟨⟨z.1.1, z.1.2.1⟩, z.2⟩, fun z => ⟨⟨z.1.1, z.1.2, Nat.le_add_left 4 st.length⟩, z.2⟩⟩)
theorem p_80_5 (F : Nat → Lc → List Value → Hp → Prop) (d y : Nat) (Q : Option Value → Hp → Prop) (pc : Nat) (L : Lc) (h : Hp) (i np : Nat) (v : Int) (cs : List (Int × Nat)) (o : Nat) (a0 a1 a2 a3 : Value) (st : List Value) : stp F d y Q pc L (a3 :: a2 :: a1 :: a0 :: .ref o :: st) h (some ((80, i, np, 5, v, cs), false)) = ((ob h o (ocY i) ∧ cat st ≤ 8) ∧ Cal' d i [.ref o, a0, a1, a2, a3] h (fun w g => F np L (w.toList ++ st) g)) := (ap_gd F d L h Q _ _).trans (propext ⟨fun z => ⟨⟨z.1.1, z.1.2.1⟩, z.2⟩, fun z => ⟨⟨z.1.1, z.1.2, Nat.le_add_left 5 st.length⟩, z.2⟩⟩)
theorem p_80_6 (F : Nat → Lc → List Value → Hp → Prop) (d y : Nat) (Q : Option Value → Hp → Prop) (pc : Nat) (L : Lc) (h : Hp) (i np : Nat) (v : Int) (cs : List (Int × Nat)) (o : Nat) (a0 a1 a2 a3 a4 : Value) (st : List Value) : stp F d y Q pc L (a4 :: a3 :: a2 :: a1 :: a0 :: .ref o :: st) h (some ((80, i, np, 6, v, cs), false)) = ((ob h o (ocY i) ∧ cat st ≤ 8) ∧ Cal' d i [.ref o, a0, a1, a2, a3, a4] h (fun w g => F np L (w.toList ++ st) g)) := (ap_gd F d L h Q _ _).trans (propext ⟨fun z => ⟨⟨z.1.1, z.1.2.1⟩, z.2⟩, fun z => ⟨⟨z.1.1, z.1.2, Nat.le_add_left 6 st.length⟩, z.2⟩⟩)
theorem p_80_7 (F : Nat → Lc → List Value → Hp → Prop) (d y : Nat) (Q : Option Value → Hp → Prop) (pc : Nat) (L : Lc) (h : Hp) (i np : Nat) (v : Int) (cs : List (Int × Nat)) (o : Nat) (a0 a1 a2 a3 a4 a5 : Value) (st : List Value) : stp F d y Q pc L (a5 :: a4 :: a3 :: a2 :: a1 :: a0 :: .ref o :: st) h (some ((80, i, np, 7, v, cs), false)) = ((ob h o (ocY i) ∧ cat st ≤ 8) ∧ Cal' d i [.ref o, a0, a1, a2, a3, a4, a5] h (fun w g => F np L (w.toList ++ st) g)) := (ap_gd F d L h Q _ _).trans (propext ⟨fun z => ⟨⟨z.1.1, z.1.2.1⟩, z.2⟩, fun z => ⟨⟨z.1.1, z.1.2, Nat.le_add_left 7 st.length⟩, z.2⟩⟩)
theorem p_82_1 (F : Nat → Lc → List Value → Hp → Prop) (d y : Nat) (Q : Option Value → Hp → Prop) (pc : Nat) (L : Lc) (h : Hp) (i np : Nat) (v : Int) (cs : List (Int × Nat)) (o : Nat)  (st : List Value) : stp F d y Q pc L (.ref o :: st) h (some ((82, i, np, 1, v, cs), false)) = ((cat st ≤ 8) ∧ Cal' d i [.ref o] h (fun w g => F np L (w.toList ++ st) g)) := (ap_gd F d L h Q _ _).trans (propext ⟨fun z => ⟨z.1.1, z.2⟩, fun z => ⟨⟨z.1, Nat.le_add_left 1 st.length⟩, z.2⟩⟩)
theorem p_82_2 (F : Nat → Lc → List Value → Hp → Prop) (d y : Nat) (Q : Option Value → Hp → Prop) (pc : Nat) (L : Lc) (h : Hp) (i np : Nat) (v : Int) (cs : List (Int × Nat)) (o : Nat) (a0 : Value) (st : List Value) : stp F d y Q pc L (a0 :: .ref o :: st) h (some ((82, i, np, 2, v, cs), false)) = ((cat st ≤ 8) ∧ Cal' d i [.ref o, a0] h (fun w g => F np L (w.toList ++ st) g)) := (ap_gd F d L h Q _ _).trans (propext ⟨fun z => ⟨z.1.1, z.2⟩, fun z => ⟨⟨z.1, Nat.le_add_left 2 st.length⟩, z.2⟩⟩)
theorem p_82_3 (F : Nat → Lc → List Value → Hp → Prop) (d y : Nat) (Q : Option Value → Hp → Prop) (pc : Nat) (L : Lc) (h : Hp) (i np : Nat) (v : Int) (cs : List (Int × Nat)) (o : Nat) (a0 a1 : Value) (st : List Value) : stp F d y Q pc L (a1 :: a0 :: .ref o :: st) h (some ((82, i, np, 3, v, cs), false)) = ((cat st ≤ 8) ∧ Cal' d i [.ref o, a0, a1] h (fun w g => F np L (w.toList ++ st) g)) := (ap_gd F d L h Q _ _).trans (propext ⟨fun z => ⟨z.1.1, z.2⟩, fun z => ⟨⟨z.1, Nat.le_add_left 3 st.length⟩, z.2⟩⟩)
theorem p_82_4 (F : Nat → Lc → List Value → Hp → Prop) (d y : Nat) (Q : Option Value → Hp → Prop) (pc : Nat) (L : Lc) (h : Hp) (i np : Nat) (v : Int) (cs : List (Int × Nat)) (o : Nat) (a0 a1 a2 : Value) (st : List Value) : stp F d y Q pc L (a2 :: a1 :: a0 :: .ref o :: st) h (some ((82, i, np, 4, v, cs), false)) = ((cat st ≤ 8) ∧ Cal' d i [.ref o, a0, a1, a2] h (fun w g => F np L (w.toList ++ st) g)) := (ap_gd F d L h Q _ _).trans (propext ⟨fun z => ⟨z.1.1, z.2⟩, fun z => ⟨⟨z.1, Nat.le_add_left 4 st.length⟩, z.2⟩⟩)
theorem p_82_5 (F : Nat → Lc → List Value → Hp → Prop) (d y : Nat) (Q : Option Value → Hp → Prop) (pc : Nat) (L : Lc) (h : Hp) (i np : Nat) (v : Int) (cs : List (Int × Nat)) (o : Nat) (a0 a1 a2 a3 : Value) (st : List Value) : stp F d y Q pc L (a3 :: a2 :: a1 :: a0 :: .ref o :: st) h (some ((82, i, np, 5, v, cs), false)) = ((cat st ≤ 8) ∧ Cal' d i [.ref o, a0, a1, a2, a3] h (fun w g => F np L (w.toList ++ st) g)) := (ap_gd F d L h Q _ _).trans (propext ⟨fun z => ⟨z.1.1, z.2⟩, fun z => ⟨⟨z.1, Nat.le_add_left 5 st.length⟩, z.2⟩⟩)
theorem p_82_6 (F : Nat → Lc → List Value → Hp → Prop) (d y : Nat) (Q : Option Value → Hp → Prop) (pc : Nat) (L : Lc) (h : Hp) (i np : Nat) (v : Int) (cs : List (Int × Nat)) (o : Nat) (a0 a1 a2 a3 a4 : Value) (st : List Value) : stp F d y Q pc L (a4 :: a3 :: a2 :: a1 :: a0 :: .ref o :: st) h (some ((82, i, np, 6, v, cs), false)) = ((cat st ≤ 8) ∧ Cal' d i [.ref o, a0, a1, a2, a3, a4] h (fun w g => F np L (w.toList ++ st) g)) := (ap_gd F d L h Q _ _).trans (propext ⟨fun z => ⟨z.1.1, z.2⟩, fun z => ⟨⟨z.1, Nat.le_add_left 6 st.length⟩, z.2⟩⟩)
theorem p_82_7 (F : Nat → Lc → List Value → Hp → Prop) (d y : Nat) (Q : Option Value → Hp → Prop) (pc : Nat) (L : Lc) (h : Hp) (i np : Nat) (v : Int) (cs : List (Int × Nat)) (o : Nat) (a0 a1 a2 a3 a4 a5 : Value) (st : List Value) : stp F d y Q pc L (a5 :: a4 :: a3 :: a2 :: a1 :: a0 :: .ref o :: st) h (some ((82, i, np, 7, v, cs), false)) = ((cat st ≤ 8) ∧ Cal' d i [.ref o, a0, a1, a2, a3, a4, a5] h (fun w g => F np L (w.toList ++ st) g)) := (ap_gd F d L h Q _ _).trans (propext ⟨fun z => ⟨z.1.1, z.2⟩, fun z => ⟨⟨z.1, Nat.le_add_left 7 st.length⟩, z.2⟩⟩)
theorem p_81_0 (F : Nat → Lc → List Value → Hp → Prop) (d y : Nat) (Q : Option Value → Hp → Prop) (pc : Nat) (L : Lc) (h : Hp) (i np : Nat) (v : Int) (cs : List (Int × Nat))  (st : List Value) : stp F d y Q pc L (st) h (some ((81, i, np, 0, v, cs), false)) = ((cat st ≤ 8) ∧ Cal' d i [] h (fun w g => F np L (w.toList ++ st) g)) := (ap_gd F d L h Q _ _).trans (propext ⟨fun z => ⟨z.1.1, z.2⟩, fun z => ⟨⟨z.1, Nat.zero_le _⟩, z.2⟩⟩)
theorem p_81_1 (F : Nat → Lc → List Value → Hp → Prop) (d y : Nat) (Q : Option Value → Hp → Prop) (pc : Nat) (L : Lc) (h : Hp) (i np : Nat) (v : Int) (cs : List (Int × Nat)) (a0 : Value) (st : List Value) : stp F d y Q pc L (a0 :: st) h (some ((81, i, np, 1, v, cs), false)) = ((cat st ≤ 8) ∧ Cal' d i [a0] h (fun w g => F np L (w.toList ++ st) g)) := (ap_gd F d L h Q _ _).trans (propext ⟨fun z => ⟨z.1.1, z.2⟩, fun z => ⟨⟨z.1, Nat.le_add_left 1 st.length⟩, z.2⟩⟩)
theorem p_81_2 (F : Nat → Lc → List Value → Hp → Prop) (d y : Nat) (Q : Option Value → Hp → Prop) (pc : Nat) (L : Lc) (h : Hp) (i np : Nat) (v : Int) (cs : List (Int × Nat)) (a0 a1 : Value) (st : List Value) : stp F d y Q pc L (a1 :: a0 :: st) h (some ((81, i, np, 2, v, cs), false)) = ((cat st ≤ 8) ∧ Cal' d i [a0, a1] h (fun w g => F np L (w.toList ++ st) g)) := (ap_gd F d L h Q _ _).trans (propext ⟨fun z => ⟨z.1.1, z.2⟩, fun z => ⟨⟨z.1, Nat.le_add_left 2 st.length⟩, z.2⟩⟩)
theorem p_81_3 (F : Nat → Lc → List Value → Hp → Prop) (d y : Nat) (Q : Option Value → Hp → Prop) (pc : Nat) (L : Lc) (h : Hp) (i np : Nat) (v : Int) (cs : List (Int × Nat)) (a0 a1 a2 : Value) (st : List Value) : stp F d y Q pc L (a2 :: a1 :: a0 :: st) h (some ((81, i, np, 3, v, cs), false)) = ((cat st ≤ 8) ∧ Cal' d i [a0, a1, a2] h (fun w g => F np L (w.toList ++ st) g)) := (ap_gd F d L h Q _ _).trans (propext ⟨fun z => ⟨z.1.1, z.2⟩, fun z => ⟨⟨z.1, Nat.le_add_left 3 st.length⟩, z.2⟩⟩)
theorem p_81_4 (F : Nat → Lc → List Value → Hp → Prop) (d y : Nat) (Q : Option Value → Hp → Prop) (pc : Nat) (L : Lc) (h : Hp) (i np : Nat) (v : Int) (cs : List (Int × Nat)) (a0 a1 a2 a3 : Value) (st : List Value) : stp F d y Q pc L (a3 :: a2 :: a1 :: a0 :: st) h (some ((81, i, np, 4, v, cs), false)) = ((cat st ≤ 8) ∧ Cal' d i [a0, a1, a2, a3] h (fun w g => F np L (w.toList ++ st) g)) := (ap_gd F d L h Q _ _).trans (propext ⟨fun z => ⟨z.1.1, z.2⟩, fun z => ⟨⟨z.1, Nat.le_add_left 4 st.length⟩, z.2⟩⟩)
theorem p_81_5 (F : Nat → Lc → List Value → Hp → Prop) (d y : Nat) (Q : Option Value → Hp → Prop) (pc : Nat) (L : Lc) (h : Hp) (i np : Nat) (v : Int) (cs : List (Int × Nat)) (a0 a1 a2 a3 a4 : Value) (st : List Value) : stp F d y Q pc L (a4 :: a3 :: a2 :: a1 :: a0 :: st) h (some ((81, i, np, 5, v, cs), false)) = ((cat st ≤ 8) ∧ Cal' d i [a0, a1, a2, a3, a4] h (fun w g => F np L (w.toList ++ st) g)) := (ap_gd F d L h Q _ _).trans (propext ⟨fun z => ⟨z.1.1, z.2⟩, fun z => ⟨⟨z.1, Nat.le_add_left 5 st.length⟩, z.2⟩⟩)
theorem p_81_6 (F : Nat → Lc → List Value → Hp → Prop) (d y : Nat) (Q : Option Value → Hp → Prop) (pc : Nat) (L : Lc) (h : Hp) (i np : Nat) (v : Int) (cs : List (Int × Nat)) (a0 a1 a2 a3 a4 a5 : Value) (st : List Value) : stp F d y Q pc L (a5 :: a4 :: a3 :: a2 :: a1 :: a0 :: st) h (some ((81, i, np, 6, v, cs), false)) = ((cat st ≤ 8) ∧ Cal' d i [a0, a1, a2, a3, a4, a5] h (fun w g => F np L (w.toList ++ st) g)) := (ap_gd F d L h Q _ _).trans (propext ⟨fun z => ⟨z.1.1, z.2⟩, fun z => ⟨⟨z.1, Nat.le_add_left 6 st.length⟩, z.2⟩⟩)
theorem p_83 (F : Nat → Lc → List Value → Hp → Prop) (d y : Nat) (Q : Option Value → Hp → Prop) (pc : Nat) (L : Lc) (h : Hp) (i np c : Nat) (v : Int) (cs : List (Int × Nat)) (o : Nat) (st : List Value) : stp F d y Q pc L (.ref o :: st) h (some ((83, i, np, c, v, cs), false)) = (cat st ≤ 8 ∧ F np L st h) := ap_gd F d L h Q _ _
theorem p_90 (F : Nat → Lc → List Value → Hp → Prop) (d y : Nat) (Q : Option Value → Hp → Prop) (pc : Nat) (L : Lc) (h : Hp) (i np c : Nat) (v : Int) (cs : List (Int × Nat)) (x : Int32) : stp F d y Q pc L ([.int x]) h (some ((90, i, np, c, v, cs), false)) = Q (some (.int x)) h := rfl
theorem p_91 (F : Nat → Lc → List Value → Hp → Prop) (d y : Nat) (Q : Option Value → Hp → Prop) (pc : Nat) (L : Lc) (h : Hp) (i np c : Nat) (v : Int) (cs : List (Int × Nat)) (x : Int32) : stp F d y Q pc L ([.int x]) h (some ((91, i, np, c, v, cs), false)) = ((x = 0 ∨ x = 1) ∧ Q (some (.int x)) h) := ap_gd F d L h Q _ _
theorem p_92 (F : Nat → Lc → List Value → Hp → Prop) (d y : Nat) (Q : Option Value → Hp → Prop) (pc : Nat) (L : Lc) (h : Hp) (i np c : Nat) (v : Int) (cs : List (Int × Nat)) (x : Int64) : stp F d y Q pc L ([.long x]) h (some ((92, i, np, c, v, cs), false)) = Q (some (.long x)) h := rfl
theorem p_93a (F : Nat → Lc → List Value → Hp → Prop) (d y : Nat) (Q : Option Value → Hp → Prop) (pc : Nat) (L : Lc) (h : Hp) (i np c : Nat) (v : Int) (cs : List (Int × Nat)) (x : Nat) : stp F d y Q pc L ([.ref x]) h (some ((93, i, np, c, v, cs), false)) = Q (some (.ref x)) h := rfl
theorem p_93b (F : Nat → Lc → List Value → Hp → Prop) (d y : Nat) (Q : Option Value → Hp → Prop) (pc : Nat) (L : Lc) (h : Hp) (i np c : Nat) (v : Int) (cs : List (Int × Nat))  : stp F d y Q pc L ([.null]) h (some ((93, i, np, c, v, cs), false)) = Q (some .null) h := rfl
theorem p_94 (F : Nat → Lc → List Value → Hp → Prop) (d y : Nat) (Q : Option Value → Hp → Prop) (pc : Nat) (L : Lc) (h : Hp) (i np c : Nat) (v : Int) (cs : List (Int × Nat))  : stp F d y Q pc L ([]) h (some ((94, i, np, c, v, cs), false)) = Q none h := rfl
theorem p_95 (F : Nat → Lc → List Value → Hp → Prop) (d y : Nat) (Q : Option Value → Hp → Prop) (pc : Nat) (L : Lc) (h : Hp) (i np c : Nat) (v : Int) (cs : List (Int × Nat))  (st : List Value) : stp F d y Q pc L (st) h (some ((95, i, np, c, v, cs), false)) = (SH (hn h) = (0, i) ∧ F np L (.ref (hn h) :: st) (hnew h)) := ap_gd F d L h Q _ _
theorem p_96 (F : Nat → Lc → List Value → Hp → Prop) (d y : Nat) (Q : Option Value → Hp → Prop) (pc : Nat) (L : Lc) (h : Hp) (i np c : Nat) (v : Int) (cs : List (Int × Nat)) (x : Int32) (st : List Value) : stp F d y Q pc L (.int x :: st) h (some ((96, i, np, c, v, cs), false)) = ((¬ x < 0 ∧ x.toNatClampNeg ≤ 100000 ∧ SH (hn h) = (1, x.toNatClampNeg)) ∧ F np L (.ref (hn h) :: st) (hnew h)) := ap_gd F d L h Q _ _
theorem p_97 (F : Nat → Lc → List Value → Hp → Prop) (d y : Nat) (Q : Option Value → Hp → Prop) (pc : Nat) (L : Lc) (h : Hp) (i np c : Nat) (v : Int) (cs : List (Int × Nat)) (x : Int32) (st : List Value) : stp F d y Q pc L (.int x :: st) h (some ((97, i, np, c, v, cs), false)) = ((¬ x < 0 ∧ x.toNatClampNeg ≤ 100000 ∧ SH (hn h) = (2, x.toNatClampNeg)) ∧ F np L (.ref (hn h) :: st) (hnew h)) := ap_gd F d L h Q _ _
theorem p_98 (F : Nat → Lc → List Value → Hp → Prop) (d y : Nat) (Q : Option Value → Hp → Prop) (pc : Nat) (L : Lc) (h : Hp) (i np c : Nat) (v : Int) (cs : List (Int × Nat)) (x : Int32) (st : List Value) : stp F d y Q pc L (.int x :: st) h (some ((98, i, np, c, v, cs), false)) = ((¬ x < 0 ∧ x.toNatClampNeg ≤ 100000 ∧ SH (hn h) = (3, x.toNatClampNeg)) ∧ F np L (.ref (hn h) :: st) (hnew h)) := ap_gd F d L h Q _ _
theorem ap_sw (F : Nat → Lc → List Value → Hp → Prop) (x : Int32) (t : Nat) (L : Lc) (st : List Value) (h : Hp) : ∀ cs : List (Int × Nat), F (swk x t cs) L st h = swk x (F t L st h) (cs.map (fun q => (q.1, F q.2 L st h)))
  | [] => rfl
  | q :: cs => by
    simp only [swk, List.map_cons]
    by_cases hx : x = Int32.ofInt q.1
    · rw [if_pos hx, if_pos hx]
    · rw [if_neg hx, if_neg hx]; exact ap_sw F x t L st h cs
theorem swk_n (x : Int32) (d : Prop) : swk x d [] = d := rfl
theorem swk_c (x : Int32) (d : Prop) (a : Int) (b : Prop) (qs : List (Int × Prop)) : swk x d ((a, b) :: qs) = (if x = Int32.ofInt a then b else swk x d qs) := rfl
theorem p_99 (F : Nat → Lc → List Value → Hp → Prop) (d y : Nat) (Q : Option Value → Hp → Prop) (pc : Nat) (L : Lc) (h : Hp) (i np c : Nat) (v : Int) (cs : List (Int × Nat)) (x : Int32) (st : List Value) : stp F d y Q pc L (.int x :: st) h (some ((99, i, np, c, v, cs), false)) = swk x (F i L st h) (cs.map (fun q => (q.1, F q.2 L st h))) := ap_sw F x i L st h cs
theorem stp_h (F : Nat → Lc → List Value → Hp → Prop) (d y : Nat) (Q : Option Value → Hp → Prop) (pc : Nat) (L : Lc) (st : List Value) (h : Hp) (op : Op) : stp F d y Q pc L st h (some (op, true)) = wp d y pc L st h Q := rfl
theorem lk_0 (a : Option Value) (L : Lc) : lk (a :: L) 0 = a := rfl
theorem lk_s (a : Option Value) (L : Lc) (i : Nat) : lk (a :: L) (i + 1) = lk L i := rfl
theorem st1_0 (a : Option Value) (L : Lc) (v : Value) : st1 (a :: L) 0 v = some v :: L := rfl
theorem st1_1 (a : Option Value) (L : Lc) (v : Value) : st1 (a :: L) 1 v = kj a :: st1 L 0 v := rfl
theorem st1_2 (a : Option Value) (L : Lc) (i : Nat) (v : Value) : st1 (a :: L) (i + 2) v = a :: st1 L (i + 1) v := rfl
theorem st2_0 (a b : Option Value) (L : Lc) (v : Value) : st2 (a :: b :: L) 0 v = some v :: none :: L := rfl
theorem st2_1 (a b : Option Value) (L : Lc) (v : Value) : st2 (a :: b :: L) 1 v = kj a :: st2 (b :: L) 0 v := rfl
theorem st2_2 (a b : Option Value) (L : Lc) (i : Nat) (v : Value) : st2 (a :: b :: L) (i + 2) v = a :: st2 (b :: L) (i + 1) v := rfl
theorem kj_i (x : Int32) : kj (some (.int x)) = some (.int x) := rfl
theorem kj_a (x : Nat) : kj (some (.ref x)) = some (.ref x) := rfl
theorem kj_l (x : Int64) : kj (some (.long x)) = none := rfl
theorem kj_n : kj none = none := rfl
theorem cat_n : cat [] = 0 := rfl
theorem cat_i (x : Int32) (st : List Value) : cat (.int x :: st) = 1 + cat st := by simp [cat, Value.category]
theorem cat_a (x : Nat) (st : List Value) : cat (.ref x :: st) = 1 + cat st := by simp [cat, Value.category]
theorem cat_u (st : List Value) : cat (.null :: st) = 1 + cat st := by simp [cat, Value.category]
theorem cat_l (x : Int64) (st : List Value) : cat (.long x :: st) = 2 + cat st := by simp [cat, Value.category]
theorem vc_i (x : Int32) : (Value.int x).category = 1 := rfl
theorem vc_a (x : Nat) : (Value.ref x).category = 1 := rfl
theorem rv_s (k : Nat) : rv (some k) = .ref k := rfl
theorem tl_n (st : List Value) : (none : Option Value).toList ++ st = st := rfl
theorem tl_s (v : Value) (st : List Value) : (some v).toList ++ st = v :: st := rfl
