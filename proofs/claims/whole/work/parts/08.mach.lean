/-! the small machine: what each word does; runs; what holds at a run's end -/
abbrev Lc : Type := List (Option Value)
abbrev Hp : Type := (Nat → Nat → Int32) × (Nat → Nat → Int64) × (Nat → Nat → Option Nat) × Nat × Nat × (Nat → Int32)
abbrev Act : Type := Option ((Nat × Lc × List Value × Hp) ⊕ (Nat × Nat × List Value × List Value) ⊕ Option Value)
def up {α : Type} (f : Nat → α) (k : Nat) (v : α) : Nat → α := fun j => if j = k then v else f j
def gi (h : Hp) : Nat → Nat → Int32 := h.1
def gl (h : Hp) : Nat → Nat → Int64 := h.2.1
def gr (h : Hp) : Nat → Nat → Option Nat := h.2.2.1
def hn (h : Hp) : Nat := h.2.2.2.1
def hL (h : Hp) : Nat := h.2.2.2.2.1
def hX (h : Hp) : Nat → Int32 := h.2.2.2.2.2
def si (h : Hp) (o k : Nat) (v : Int32) : Hp := (up h.1 o (up (h.1 o) k v), h.2)
def sl (h : Hp) (o k : Nat) (v : Int64) : Hp := (h.1, up h.2.1 o (up (h.2.1 o) k v), h.2.2)
def sr (h : Hp) (o k : Nat) (v : Option Nat) : Hp := (h.1, h.2.1, up h.2.2.1 o (up (h.2.2.1 o) k v), h.2.2.2)
/-- a new cell, empty -/
def hnew (h : Hp) : Hp := (up h.1 (hn h) (fun _ => 0), up h.2.1 (hn h) (fun _ => 0), up h.2.2.1 (hn h) (fun _ => none), hn h + 1, h.2.2.2.2)
def ob (h : Hp) (o ci : Nat) : Prop := o < hn h ∧ SH o = (0, ci)
def ar (h : Hp) (t o : Nat) : Prop := o < hn h ∧ (SH o).1 = t
def inb (i : Int32) (n : Nat) : Prop := ¬ i < 0 ∧ i.toNatClampNeg < n
def rv (r : Option Nat) : Value := match r with | some k => .ref k | none => .null
def cat (st : List Value) : Nat := (st.map fun v => v.category).sum
/-- what a store leaves of the place ahead of it: a long there is gone -/
def kj : Option Value → Option Value
  | some v => if v.category = 2 then none else some v
  | none => none
def lk : Lc → Nat → Option Value
  | [], _ => none
  | a :: _, 0 => a
  | _ :: L, i + 1 => lk L i
def st1 : Lc → Nat → Value → Lc
  | [], _, _ => []
  | _ :: L, 0, v => some v :: L
  | a :: L, 1, v => kj a :: st1 L 0 v
  | a :: L, i + 2, v => a :: st1 L (i + 1) v
def st2 : Lc → Nat → Value → Lc
  | [], _, _ => []
  | [a], _, _ => [a]
  | _ :: _ :: L, 0, v => some v :: none :: L
  | a :: b :: L, 1, v => kj a :: st2 (b :: L) 0 v
  | a :: b :: L, i + 2, v => a :: st2 (b :: L) (i + 1) v
def ent1 : List Value → Lc
  | [] => []
  | v :: vs => if v.category = 2 then some v :: none :: ent1 vs else some v :: ent1 vs
def ent (vs : List Value) (n : Nat) : Lc := ent1 vs ++ List.replicate (n - (ent1 vs).length) none
def nx (np : Nat) (L : Lc) (st : List Value) (h : Hp) : Act := some (.inl (np, L, st, h))
noncomputable def gd (c : Prop) (a : Act) : Act := @ite _ c (Classical.propDecidable c) a none
def swk {α : Sort _} (x : Int32) (d : α) : List (Int × α) → α
  | [] => d
  | q :: qs => if x = Int32.ofInt q.1 then q.2 else swk x d qs
noncomputable def br (c : Prop) (t f : Nat) (L : Lc) (st : List Value) (h : Hp) : Act := @ite _ c (Classical.propDecidable c) (nx t L st h) (nx f L st h)
noncomputable def act (op : Op) (L : Lc) (st : List Value) (h : Hp) : Act := match op with
  | (0, i, np, _, _, _) => match lk L i with | some (.int x) => nx np L (.int x :: st) h | _ => none
  | (1, i, np, _, _, _) => match lk L i with | some (.long x) => nx np L (.long x :: st) h | _ => none
  | (2, i, np, _, _, _) => match lk L i with | some (.ref x) => nx np L (.ref x :: st) h | _ => none
  | (3, i, np, _, _, _) => match st with | .int x :: st => gd (i < L.length) (nx np (st1 L i (.int x)) st h) | _ => none
  | (4, i, np, _, _, _) => match st with | .long x :: st => gd (i + 1 < L.length) (nx np (st2 L i (.long x)) st h) | _ => none
  | (5, i, np, _, _, _) => match st with | .ref x :: st => gd (i < L.length) (nx np (st1 L i (.ref x)) st h) | _ => none
  | (6, _, np, _, v, _) => nx np L (.int (Int32.ofInt v) :: st) h
  | (7, _, np, _, v, _) => nx np L (.long (Int64.ofInt v) :: st) h
  | (8, _, np, _, _, _) => nx np L (.null :: st) h
  | (9, i, np, _, v, _) => match lk L i with | some (.int x) => nx np (st1 L i (.int (x + Int32.ofInt v))) st h | _ => none
  | (10, _, np, _, _, _) => match st with | .int y :: .int x :: st => nx np L (.int (x + y) :: st) h | _ => none
  | (11, _, np, _, _, _) => match st with | .int y :: .int x :: st => nx np L (.int (x - y) :: st) h | _ => none
  | (12, _, np, _, _, _) => match st with | .int y :: .int x :: st => nx np L (.int (x * y) :: st) h | _ => none
  | (13, _, np, _, _, _) => match st with | .int y :: .int x :: st => nx np L (.int (x &&& y) :: st) h | _ => none
  | (14, _, np, _, _, _) => match st with | .int y :: .int x :: st => nx np L (.int (x ||| y) :: st) h | _ => none
  | (15, _, np, _, _, _) => match st with | .int y :: .int x :: st => nx np L (.int (x <<< (y &&& 31)) :: st) h | _ => none
  | (16, _, np, _, _, _) => match st with | .int y :: .int x :: st => nx np L (.int (x >>> (y &&& 31)) :: st) h | _ => none
  | (17, _, np, _, _, _) => match st with | .int y :: .int x :: st => nx np L (.int (x.toUInt32 >>> (y.toUInt32 &&& Int32.toUInt32 31)).toInt32 :: st) h | _ => none
  | (18, _, np, _, _, _) => match st with | .int x :: st => nx np L (.int (-x) :: st) h | _ => none
  | (19, _, np, _, _, _) => match st with | .int y :: .int x :: st => gd (¬ y = 0) (nx np L (.int (x / y) :: st) h) | _ => none
  | (20, _, np, _, _, _) => match st with | .int y :: .int x :: st => gd (¬ y = 0) (nx np L (.int (x - x / y * y) :: st) h) | _ => none
  | (21, _, np, _, _, _) => match st with | .long y :: .long x :: st => nx np L (.long (x + y) :: st) h | _ => none
  | (22, _, np, _, _, _) => match st with | .long y :: .long x :: st => nx np L (.long (x - y) :: st) h | _ => none
  | (23, _, np, _, _, _) => match st with | .long y :: .long x :: st => nx np L (.long (x * y) :: st) h | _ => none
  | (24, _, np, _, _, _) => match st with | .long y :: .long x :: st => gd (¬ y = 0) (nx np L (.long (x / y) :: st) h) | _ => none
  | (25, _, np, _, _, _) => match st with | .long y :: .long x :: st => gd (¬ y = 0) (nx np L (.long (x - x / y * y) :: st) h) | _ => none
  | (26, _, np, _, _, _) => match st with | .long y :: .long x :: st => nx np L (.int (lg_cmp x y) :: st) h | _ => none
  | (27, _, np, _, _, _) => match st with | .int x :: st => nx np L (.long x.toInt64 :: st) h | _ => none
  | (30, t, _, _, _, _) => nx t L st h
  | (31, t, np, _, _, _) => match st with | .int x :: st => br (x = 0) t np L st h | _ => none
  | (32, t, np, _, _, _) => match st with | .int x :: st => br (¬ x = 0) t np L st h | _ => none
  | (33, t, np, _, _, _) => match st with | .int x :: st => br (x < 0) t np L st h | _ => none
  | (34, t, np, _, _, _) => match st with | .int x :: st => br (0 ≤ x) t np L st h | _ => none
  | (35, t, np, _, _, _) => match st with | .int x :: st => br (0 < x) t np L st h | _ => none
  | (36, t, np, _, _, _) => match st with | .int x :: st => br (x ≤ 0) t np L st h | _ => none
  | (41, t, np, _, _, _) => match st with | .int y :: .int x :: st => br (x = y) t np L st h | _ => none
  | (42, t, np, _, _, _) => match st with | .int y :: .int x :: st => br (¬ x = y) t np L st h | _ => none
  | (43, t, np, _, _, _) => match st with | .int y :: .int x :: st => br (x < y) t np L st h | _ => none
  | (44, t, np, _, _, _) => match st with | .int y :: .int x :: st => br (y ≤ x) t np L st h | _ => none
  | (45, t, np, _, _, _) => match st with | .int y :: .int x :: st => br (y < x) t np L st h | _ => none
  | (46, t, np, _, _, _) => match st with | .int y :: .int x :: st => br (x ≤ y) t np L st h | _ => none
  | (47, t, np, _, _, _) => match st with | .ref _ :: st => nx np L st h | .null :: st => nx t L st h | _ => none
  | (50, _, np, _, _, _) => match st with | v :: st => gd (v.category = 1) (nx np L (v :: v :: st) h) | _ => none
  | (51, _, np, _, _, _) => match st with | v :: w :: st => gd (v.category = 1 ∧ w.category = 1) (nx np L (v :: w :: v :: w :: st) h) | _ => none
  | (52, _, np, _, _, _) => match st with | v :: st => gd (v.category = 1) (nx np L st h) | _ => none
  | (53, _, np, _, _, _) => match st with | .int y :: .int x :: st => gd (cat st ≤ 8) (nx np L (.int (if x < y then y else x) :: st) h) | _ => none
  | (54, _, np, _, _, _) => match st with | .int y :: .int x :: st => gd (cat st ≤ 8) (nx np L (.int (if y < x then y else x) :: st) h) | _ => none
  | (60, ci, np, k, _, _) => match st with | .ref o :: st => gd (ob h o ci) (nx np L (.int (gi h o k) :: st) h) | _ => none
  | (61, ci, np, k, _, _) => match st with | .ref o :: st => gd (ob h o ci) (nx np L (.long (gl h o k) :: st) h) | _ => none
  | (62, ci, np, k, _, _) => match st with | .ref o :: st => gd (ob h o ci) (nx np L (rv (gr h o k) :: st) h) | _ => none
  | (63, ci, np, k, _, _) => match st with | .int v :: .ref o :: st => gd (ob h o ci) (nx np L st (si h o k v)) | _ => none
  | (64, ci, np, k, _, _) => match st with | .int v :: .ref o :: st => gd (ob h o ci ∧ (v = 0 ∨ v = 1)) (nx np L st (si h o k v)) | _ => none
  | (65, ci, np, k, _, _) => match st with | .long v :: .ref o :: st => gd (ob h o ci) (nx np L st (sl h o k v)) | _ => none
  | (66, ci, np, k, _, _) => match st with | .ref v :: .ref o :: st => gd (ob h o ci) (nx np L st (sr h o k (some v))) | _ => none
  | (67, ci, np, k, _, _) => match st with | .ref v :: .ref o :: st => gd (ob h o ci) (nx np L st (sr h o k (some v))) | _ => none
  | (70, _, np, _, _, _) => match st with | .int i :: .ref o :: st => gd (ar h 1 o ∧ inb i (SH o).2) (nx np L (.int (gi h o i.toNatClampNeg) :: st) h) | _ => none
  | (71, _, np, _, _, _) => match st with | .int x :: .int i :: .ref o :: st => gd (ar h 1 o ∧ inb i (SH o).2) (nx np L st (si h o i.toNatClampNeg x)) | _ => none
  | (72, _, np, _, _, _) => match st with | .int i :: .ref o :: st => gd (ar h 2 o ∧ inb i (SH o).2) (nx np L (.long (gl h o i.toNatClampNeg) :: st) h) | _ => none
  | (73, _, np, _, _, _) => match st with | .long x :: .int i :: .ref o :: st => gd (ar h 2 o ∧ inb i (SH o).2) (nx np L st (sl h o i.toNatClampNeg x)) | _ => none
  | (74, _, np, _, _, _) => match st with | .int i :: .ref o :: st => gd (ar h 3 o ∧ inb i (SH o).2) (nx np L (rv (gr h o i.toNatClampNeg) :: st) h) | _ => none
  | (75, _, np, _, _, _) => match st with | .ref v :: .int i :: .ref o :: st => gd (ar h 3 o ∧ inb i (SH o).2 ∧ ob h v 3) (nx np L st (sr h o i.toNatClampNeg (some v))) | _ => none
  | (76, _, np, _, _, _) => match st with | .ref o :: st => gd (o < hn h ∧ ((SH o).1 = 1 ∨ (SH o).1 = 2 ∨ (SH o).1 = 3)) (nx np L (.int (Int32.ofNat (SH o).2) :: st) h) | _ => none
  | (77, _, np, _, _, _) => match st with | .int i :: .ref 999 :: st => gd (inb i (hL h)) (nx np L (.int (hX h i.toNatClampNeg) :: st) h) | _ => none
  | (78, _, np, _, _, _) => match st with | .ref 999 :: st => nx np L (.int (Int32.ofNat (hL h)) :: st) h | _ => none
  | (80, y, np, c, _, _) => match (st.take c).reverse with | .ref o :: as => gd (ob h o (ocY y) ∧ cat (st.drop c) ≤ 8 ∧ c ≤ st.length) (some (.inr (.inl (y, np, .ref o :: as, st.drop c)))) | _ => none
  | (81, y, np, c, _, _) => gd (cat (st.drop c) ≤ 8 ∧ c ≤ st.length) (some (.inr (.inl (y, np, (st.take c).reverse, st.drop c))))
  | (82, y, np, c, _, _) => match (st.take c).reverse with | .ref o :: as => gd (cat (st.drop c) ≤ 8 ∧ c ≤ st.length) (some (.inr (.inl (y, np, .ref o :: as, st.drop c)))) | _ => none
  | (83, _, np, _, _, _) => match st with | .ref _ :: st => gd (cat st ≤ 8) (nx np L st h) | _ => none
  | (90, _, _, _, _, _) => match st with | [.int v] => some (.inr (.inr (some (.int v)))) | _ => none
  | (91, _, _, _, _, _) => match st with | [.int v] => gd (v = 0 ∨ v = 1) (some (.inr (.inr (some (.int v))))) | _ => none
  | (92, _, _, _, _, _) => match st with | [.long v] => some (.inr (.inr (some (.long v)))) | _ => none
  | (93, _, _, _, _, _) => match st with | [.ref v] => some (.inr (.inr (some (.ref v)))) | [.null] => some (.inr (.inr (some .null))) | _ => none
  | (94, _, _, _, _, _) => match st with | [] => some (.inr (.inr none)) | _ => none
  | (95, ci, np, _, _, _) => gd (SH (hn h) = (0, ci)) (nx np L (.ref (hn h) :: st) (hnew h))
  | (96, _, np, _, _, _) => match st with | .int n :: st => gd (¬ n < 0 ∧ n.toNatClampNeg ≤ 100000 ∧ SH (hn h) = (1, n.toNatClampNeg)) (nx np L (.ref (hn h) :: st) (hnew h)) | _ => none
  | (97, _, np, _, _, _) => match st with | .int n :: st => gd (¬ n < 0 ∧ n.toNatClampNeg ≤ 100000 ∧ SH (hn h) = (2, n.toNatClampNeg)) (nx np L (.ref (hn h) :: st) (hnew h)) | _ => none
  | (98, _, np, _, _, _) => match st with | .int n :: st => gd (¬ n < 0 ∧ n.toNatClampNeg ≤ 100000 ∧ SH (hn h) = (3, n.toNatClampNeg)) (nx np L (.ref (hn h) :: st) (hnew h)) | _ => none
  | (99, t, _, _, _, cs) => match st with | .int x :: st => nx (swk x t cs) L st h | _ => none
  | _ => none
noncomputable def run : Nat → Nat → Nat → Nat → Lc → List Value → Hp → Option (Option Value × Hp)
  | 0, _, _, _, _, _, _ => none
  | k + 1, d, y, pc, L, st, h => match icode y pc with
    | none => none
    | some (op, _) => match act op L st h with
      | none => none
      | some (.inl (pc', L', st', h')) => run k d y pc' L' st' h'
      | some (.inr (.inr v)) => some (v, h)
      | some (.inr (.inl (y', np, as, rest))) => match d with
        | 0 => none
        | d' + 1 => if (ent1 as).length ≤ mxY y' then (match run k d' y' 0 (ent as (mxY y')) [] h with
          | none => none
          | some (v, h') => run k (d' + 1) y np L (v.toList ++ rest) h') else none
def wp (d y pc : Nat) (L : Lc) (st : List Value) (h : Hp) (Q : Option Value → Hp → Prop) : Prop := ∃ k v h', run k d y pc L st h = some (v, h') ∧ Q v h'
def Ret (d y : Nat) (as : List Value) (h : Hp) (v : Option Value) (h' : Hp) : Prop := (ent1 as).length ≤ mxY y ∧ ∃ k, run k d y 0 (ent as (mxY y)) [] h = some (v, h')
def Cal (d y : Nat) (as : List Value) (h : Hp) (K : Option Value → Hp → Prop) : Prop := ∃ v h', Ret d y as h v h' ∧ K v h'
def Cal' : Nat → Nat → List Value → Hp → (Option Value → Hp → Prop) → Prop
  | 0, _, _, _, _ => False
  | d + 1, y, as, h, K => Cal d y as h K
