section SIM3
variable {p : Program} {l : Launch} {e : Env} {R : Room} {s : State} {m : MethodId} {args : Array Value} {below : List Frame} {meth : Method} {c : Code} {D : va_G} {cA : Nat → ClassId} {b base n0 n1 y : Nat}
/-- which words an instruction can be -/
def KindOf (y pc len : Nat) (ins : Instr) (op : Op) : Prop :=
  (op.1 < 80 ∨ op.1 = 83 ∨ 95 ≤ op.1)
  ∨ (∃ i z, ins = .invokevirtual i ∧ mlN (ocY y) i mlT = some z ∧ vkY z = 0 ∧ len = 3 ∧ op = (80, z, pc + 3, npY z + 1, 0, []))
  ∨ (∃ i z, ins = .invokestatic i ∧ (mlN (ocY y) i mlT = some z ∨ mlN (ocY y) i mzT = some z) ∧ vkY z = 1 ∧ z < nY - 3 ∧ len = 3 ∧ op = (81, z, pc + 3, npY z, 0, []))
  ∨ (∃ i z, ins = .invokespecial i ∧ mlN (ocY y) i mlT = some z ∧ vkY z = 2 ∧ len = 3 ∧ op = (82, z, pc + 3, npY z + 1, 0, []))
  ∨ (ins = .ireturn ∧ len = 1 ∧ rtY y = some .int ∧ op = (90, 0, 0, 0, 0, []))
  ∨ (ins = .ireturn ∧ len = 1 ∧ rtY y = some .boolean ∧ op = (91, 0, 0, 0, 0, []))
  ∨ (ins = .lreturn ∧ len = 1 ∧ rtY y = some .long ∧ op = (92, 0, 0, 0, 0, []))
  ∨ (ins = .areturn ∧ len = 1 ∧ rtY y = some (.object (kC 3)) ∧ op = (93, 0, 0, 0, 0, []))
  ∨ (ins = .return_ ∧ len = 1 ∧ rtY y = none ∧ op = (94, 0, 0, 0, 0, []))
theorem plain {y pc len : Nat} {ins : Instr} {op : Op} (h : op.1 < 80 ∨ op.1 = 83 ∨ 95 ≤ op.1) : KindOf y pc len ins op := Or.inl h
theorem KIND {pc len : Nat} {ins : Instr} {op : Op} (hden : den y pc ins len = some op) : KindOf y pc len ins op := by
  cases ins with
  | invokevirtual i =>
    obtain ⟨z, hz, hden⟩ := Option.bind_eq_some_iff.mp hden
    obtain ⟨hv, hden⟩ := if_inv hden
    obtain ⟨rfl, rfl⟩ := one_inv hden
    exact Or.inr (Or.inl ⟨i, z, rfl, hz, hv, rfl, rfl⟩)
  | invokestatic i =>
    have hden : (match mlN (ocY y) i mlT with
      | some z => if z = 299 then (if len = 3 then some ((53, 0, pc + len, 0, 0, []) : Op) else none) else if z = 300 then (if len = 3 then some ((54, 0, pc + len, 0, 0, []) : Op) else none) else if vkY z = 1 ∧ z < nY - 3 then (if len = 3 then some ((81, z, pc + len, npY z, 0, []) : Op) else none) else none
      | none => (mlN (ocY y) i mzT).bind fun z => if vkY z = 1 ∧ z < nY - 3 then (if len = 3 then some ((81, z, pc + len, npY z, 0, []) : Op) else none) else none) = some op := hden
    cases hz : mlN (ocY y) i mlT with
    | none =>
      rw [hz] at hden
      obtain ⟨z, hz2, hden⟩ := Option.bind_eq_some_iff.mp hden
      obtain ⟨hv, hden⟩ := if_inv hden
      obtain ⟨rfl, rfl⟩ := one_inv hden
      exact Or.inr (Or.inr (Or.inl ⟨i, z, rfl, Or.inr hz2, hv.1, hv.2, rfl, rfl⟩))
    | some z =>
      rw [hz] at hden
      have hden : (if z = 299 then (if len = 3 then some ((53, 0, pc + len, 0, 0, []) : Op) else none) else if z = 300 then (if len = 3 then some ((54, 0, pc + len, 0, 0, []) : Op) else none) else if vkY z = 1 ∧ z < nY - 3 then (if len = 3 then some ((81, z, pc + len, npY z, 0, []) : Op) else none) else none) = some op := hden
      by_cases h1 : z = 299
      · rw [if_pos h1] at hden
        obtain ⟨rfl, rfl⟩ := one_inv hden
        exact plain (Or.inl (by decide))
      · rw [if_neg h1] at hden
        by_cases h2 : z = 300
        · rw [if_pos h2] at hden
          obtain ⟨rfl, rfl⟩ := one_inv hden
          exact plain (Or.inl (by decide))
        · rw [if_neg h2] at hden
          obtain ⟨hv, hden⟩ := if_inv hden
          obtain ⟨rfl, rfl⟩ := one_inv hden
          exact Or.inr (Or.inr (Or.inl ⟨i, z, rfl, Or.inl hz, hv.1, hv.2, rfl, rfl⟩))
  | invokespecial i =>
    have hden : (match mlN (ocY y) i mlT with
      | some z => if vkY z = 2 then (if len = 3 then some ((82, z, pc + len, npY z + 1, 0, []) : Op) else none) else none
      | none => if moT.any (fun q => q.1 == ocY y && q.2 == i) = true then (if len = 3 then some ((83, 0, pc + len, 0, 0, []) : Op) else none) else none) = some op := hden
    cases hz : mlN (ocY y) i mlT with
    | some z =>
      rw [hz] at hden
      obtain ⟨hv, hden⟩ := if_inv hden
      obtain ⟨rfl, rfl⟩ := one_inv hden
      exact Or.inr (Or.inr (Or.inr (Or.inl ⟨i, z, rfl, hz, hv, rfl, rfl⟩)))
    | none =>
      rw [hz] at hden
      obtain ⟨hv, hden⟩ := if_inv hden
      obtain ⟨rfl, rfl⟩ := one_inv hden
      exact plain (Or.inr (Or.inl rfl))
  | ireturn =>
    have hden : (if rtY y = some .int then (if len = 1 then some ((90, 0, 0, 0, 0, []) : Op) else none) else if rtY y = some .boolean then (if len = 1 then some ((91, 0, 0, 0, 0, []) : Op) else none) else none) = some op := hden
    by_cases h1 : rtY y = some .int
    · rw [if_pos h1] at hden
      obtain ⟨rfl, rfl⟩ := one_inv hden
      exact Or.inr (Or.inr (Or.inr (Or.inr (Or.inl ⟨rfl, rfl, h1, rfl⟩))))
    · rw [if_neg h1] at hden
      obtain ⟨h2, hden⟩ := if_inv hden
      obtain ⟨rfl, rfl⟩ := one_inv hden
      exact Or.inr (Or.inr (Or.inr (Or.inr (Or.inr (Or.inl ⟨rfl, rfl, h2, rfl⟩)))))
  | lreturn =>
    obtain ⟨h1, hden⟩ := if_inv hden
    obtain ⟨rfl, rfl⟩ := one_inv hden
    exact Or.inr (Or.inr (Or.inr (Or.inr (Or.inr (Or.inr (Or.inl ⟨rfl, rfl, h1, rfl⟩))))))
  | areturn =>
    obtain ⟨h1, hden⟩ := if_inv hden
    obtain ⟨rfl, rfl⟩ := one_inv hden
    exact Or.inr (Or.inr (Or.inr (Or.inr (Or.inr (Or.inr (Or.inr (Or.inl ⟨rfl, rfl, h1, rfl⟩)))))))
  | return_ =>
    obtain ⟨h1, hden⟩ := if_inv hden
    obtain ⟨rfl, rfl⟩ := one_inv hden
    exact Or.inr (Or.inr (Or.inr (Or.inr (Or.inr (Or.inr (Or.inr (Or.inr ⟨rfl, rfl, h1, rfl⟩)))))))
  | getfield i =>
    obtain ⟨q, hq, hden⟩ := Option.bind_eq_some_iff.mp hden
    obtain ⟨rfl, rfl⟩ := one_inv hden
    refine plain (Or.inl ?_)
    show (match fty q.1 q.2 with | 2 => 61 | 3 => 62 | _ => 60) < 80
    split <;> decide
  | putfield i =>
    obtain ⟨q, hq, hden⟩ := Option.bind_eq_some_iff.mp hden
    by_cases hff : (kT q.1 q.2).2.2.2 = true
    · simp only [hff, if_true] at hden
      obtain ⟨-, hden⟩ := if_inv hden
      obtain ⟨rfl, rfl⟩ := one_inv hden
      exact plain (Or.inl (by show 67 < 80; decide))
    · rw [if_neg hff] at hden
      obtain ⟨rfl, rfl⟩ := one_inv hden
      refine plain (Or.inl ?_)
      show (match fty q.1 q.2 with | 0 => 63 | 1 => 64 | 2 => 65 | _ => 66) < 80
      split <;> decide
  | iaload =>
    obtain ⟨rfl, rfl⟩ := one_inv hden
    refine plain (Or.inl ?_)
    show (if y = nY - 1 then 77 else 70) < 80
    split <;> decide
  | arraylength =>
    obtain ⟨rfl, rfl⟩ := one_inv hden
    refine plain (Or.inl ?_)
    show (if y = nY - 1 then 78 else 76) < 80
    split <;> decide
  | ifCond cc f =>
    obtain ⟨-, hden⟩ := if_inv hden
    obtain ⟨rfl, rfl⟩ := one_inv hden
    refine plain (Or.inl ?_)
    show 30 + cmpN cc < 80
    cases cc <;> decide
  | if_icmp cc f =>
    obtain ⟨-, hden⟩ := if_inv hden
    obtain ⟨rfl, rfl⟩ := one_inv hden
    refine plain (Or.inl ?_)
    show 40 + cmpN cc < 80
    cases cc <;> decide
  | newarray t =>
    cases t with
    | int => obtain ⟨rfl, rfl⟩ := one_inv hden; exact plain (Or.inr (Or.inr (by show 95 ≤ 96; decide)))
    | long => obtain ⟨rfl, rfl⟩ := one_inv hden; exact plain (Or.inr (Or.inr (by show 95 ≤ 97; decide)))
    | _ => exact absurd hden (by simp [den])
  | new i =>
    obtain ⟨z, hz, hden⟩ := Option.bind_eq_some_iff.mp hden
    obtain ⟨rfl, rfl⟩ := one_inv hden
    exact plain (Or.inr (Or.inr (by show 95 ≤ 95; decide)))
  | anewarray i =>
    obtain ⟨-, hden⟩ := if_inv hden
    obtain ⟨rfl, rfl⟩ := one_inv hden
    exact plain (Or.inr (Or.inr (by show 95 ≤ 98; decide)))
  | tableswitch d lo hi offs =>
    obtain ⟨-, hden⟩ := if_inv hden
    have hden := Option.some.inj hden
    subst hden
    exact plain (Or.inr (Or.inr (by show 95 ≤ 99; decide)))
  | lookupswitch d ps =>
    obtain ⟨-, hden⟩ := if_inv hden
    have hden := Option.some.inj hden
    subst hden
    exact plain (Or.inr (Or.inr (by show 95 ≤ 99; decide)))
  | ldc i =>
    obtain ⟨v, hv, hden⟩ := Option.bind_eq_some_iff.mp hden
    obtain ⟨rfl, rfl⟩ := one_inv hden
    exact plain (Or.inl (by show 6 < 80; decide))
  | ldc_w i =>
    obtain ⟨v, hv, hden⟩ := Option.bind_eq_some_iff.mp hden
    obtain ⟨rfl, rfl⟩ := one_inv hden
    exact plain (Or.inl (by show 6 < 80; decide))
  | ldc2_w i =>
    obtain ⟨v, hv, hden⟩ := Option.bind_eq_some_iff.mp hden
    obtain ⟨rfl, rfl⟩ := one_inv hden
    exact plain (Or.inl (by show 7 < 80; decide))
  | iload_n i =>
    obtain ⟨rfl, rfl⟩ := one_inv hden
    exact plain (Or.inl (by show 0 < 80; decide))
  | iload i =>
    obtain ⟨rfl, rfl⟩ := one_inv hden
    exact plain (Or.inl (by show 0 < 80; decide))
  | lload_n i =>
    obtain ⟨rfl, rfl⟩ := one_inv hden
    exact plain (Or.inl (by show 1 < 80; decide))
  | lload i =>
    obtain ⟨rfl, rfl⟩ := one_inv hden
    exact plain (Or.inl (by show 1 < 80; decide))
  | aload_n i =>
    obtain ⟨rfl, rfl⟩ := one_inv hden
    exact plain (Or.inl (by show 2 < 80; decide))
  | aload i =>
    obtain ⟨rfl, rfl⟩ := one_inv hden
    exact plain (Or.inl (by show 2 < 80; decide))
  | istore_n i =>
    obtain ⟨rfl, rfl⟩ := one_inv hden
    exact plain (Or.inl (by show 3 < 80; decide))
  | istore i =>
    obtain ⟨rfl, rfl⟩ := one_inv hden
    exact plain (Or.inl (by show 3 < 80; decide))
  | lstore_n i =>
    obtain ⟨rfl, rfl⟩ := one_inv hden
    exact plain (Or.inl (by show 4 < 80; decide))
  | lstore i =>
    obtain ⟨rfl, rfl⟩ := one_inv hden
    exact plain (Or.inl (by show 4 < 80; decide))
  | astore_n i =>
    obtain ⟨rfl, rfl⟩ := one_inv hden
    exact plain (Or.inl (by show 5 < 80; decide))
  | astore i =>
    obtain ⟨rfl, rfl⟩ := one_inv hden
    exact plain (Or.inl (by show 5 < 80; decide))
  | lconst n =>
    obtain ⟨rfl, rfl⟩ := one_inv hden
    exact plain (Or.inl (by show 7 < 80; decide))
  | aconst_null =>
    obtain ⟨rfl, rfl⟩ := one_inv hden
    exact plain (Or.inl (by show 8 < 80; decide))
  | iinc i n =>
    obtain ⟨rfl, rfl⟩ := one_inv hden
    exact plain (Or.inl (by show 9 < 80; decide))
  | iadd =>
    obtain ⟨rfl, rfl⟩ := one_inv hden
    exact plain (Or.inl (by show 10 < 80; decide))
  | isub =>
    obtain ⟨rfl, rfl⟩ := one_inv hden
    exact plain (Or.inl (by show 11 < 80; decide))
  | imul =>
    obtain ⟨rfl, rfl⟩ := one_inv hden
    exact plain (Or.inl (by show 12 < 80; decide))
  | iand =>
    obtain ⟨rfl, rfl⟩ := one_inv hden
    exact plain (Or.inl (by show 13 < 80; decide))
  | ior =>
    obtain ⟨rfl, rfl⟩ := one_inv hden
    exact plain (Or.inl (by show 14 < 80; decide))
  | ishl =>
    obtain ⟨rfl, rfl⟩ := one_inv hden
    exact plain (Or.inl (by show 15 < 80; decide))
  | ishr =>
    obtain ⟨rfl, rfl⟩ := one_inv hden
    exact plain (Or.inl (by show 16 < 80; decide))
  | iushr =>
    obtain ⟨rfl, rfl⟩ := one_inv hden
    exact plain (Or.inl (by show 17 < 80; decide))
  | ineg =>
    obtain ⟨rfl, rfl⟩ := one_inv hden
    exact plain (Or.inl (by show 18 < 80; decide))
  | idiv =>
    obtain ⟨rfl, rfl⟩ := one_inv hden
    exact plain (Or.inl (by show 19 < 80; decide))
  | irem =>
    obtain ⟨rfl, rfl⟩ := one_inv hden
    exact plain (Or.inl (by show 20 < 80; decide))
  | ladd =>
    obtain ⟨rfl, rfl⟩ := one_inv hden
    exact plain (Or.inl (by show 21 < 80; decide))
  | lsub =>
    obtain ⟨rfl, rfl⟩ := one_inv hden
    exact plain (Or.inl (by show 22 < 80; decide))
  | lmul =>
    obtain ⟨rfl, rfl⟩ := one_inv hden
    exact plain (Or.inl (by show 23 < 80; decide))
  | ldiv =>
    obtain ⟨rfl, rfl⟩ := one_inv hden
    exact plain (Or.inl (by show 24 < 80; decide))
  | lrem =>
    obtain ⟨rfl, rfl⟩ := one_inv hden
    exact plain (Or.inl (by show 25 < 80; decide))
  | lcmp =>
    obtain ⟨rfl, rfl⟩ := one_inv hden
    exact plain (Or.inl (by show 26 < 80; decide))
  | i2l =>
    obtain ⟨rfl, rfl⟩ := one_inv hden
    exact plain (Or.inl (by show 27 < 80; decide))
  | dup =>
    obtain ⟨rfl, rfl⟩ := one_inv hden
    exact plain (Or.inl (by show 50 < 80; decide))
  | dup2 =>
    obtain ⟨rfl, rfl⟩ := one_inv hden
    exact plain (Or.inl (by show 51 < 80; decide))
  | pop =>
    obtain ⟨rfl, rfl⟩ := one_inv hden
    exact plain (Or.inl (by show 52 < 80; decide))
  | iastore =>
    obtain ⟨rfl, rfl⟩ := one_inv hden
    exact plain (Or.inl (by show 71 < 80; decide))
  | laload =>
    obtain ⟨rfl, rfl⟩ := one_inv hden
    exact plain (Or.inl (by show 72 < 80; decide))
  | lastore =>
    obtain ⟨rfl, rfl⟩ := one_inv hden
    exact plain (Or.inl (by show 73 < 80; decide))
  | aaload =>
    obtain ⟨rfl, rfl⟩ := one_inv hden
    exact plain (Or.inl (by show 74 < 80; decide))
  | aastore =>
    obtain ⟨rfl, rfl⟩ := one_inv hden
    exact plain (Or.inl (by show 75 < 80; decide))
  | iconst n =>
    obtain ⟨-, hden⟩ := if_inv hden
    obtain ⟨rfl, rfl⟩ := one_inv hden
    exact plain (Or.inl (by show 6 < 80; decide))
  | bipush n =>
    obtain ⟨-, hden⟩ := if_inv hden
    obtain ⟨rfl, rfl⟩ := one_inv hden
    exact plain (Or.inl (by show 6 < 80; decide))
  | sipush n =>
    obtain ⟨-, hden⟩ := if_inv hden
    obtain ⟨rfl, rfl⟩ := one_inv hden
    exact plain (Or.inl (by show 6 < 80; decide))
  | goto f =>
    obtain ⟨-, hden⟩ := if_inv hden
    obtain ⟨rfl, rfl⟩ := one_inv hden
    exact plain (Or.inl (by show 30 < 80; decide))
  | ifnull f =>
    obtain ⟨-, hden⟩ := if_inv hden
    obtain ⟨rfl, rfl⟩ := one_inv hden
    exact plain (Or.inl (by show 47 < 80; decide))
  | _ => exact absurd hden (by simp [den])
theorem act_plain {op : Op} {L : Lc} {st : List Value} {h : Hp} {a} (hk : op.1 < 80 ∨ op.1 = 83 ∨ 95 ≤ op.1) (ha : act op L st h = some a) : ∃ r, a = .inl r := by
  obtain ⟨n, i, np, c, v, cs⟩ := op
  have hk : n < 80 ∨ n = 83 ∨ 95 ≤ n := hk
  unfold act at ha
  split at ha
  all_goals try split at ha
  all_goals first
    | (rename_i heq; have h9 := congrArg Prod.fst heq; simp at h9; omega)
    | (unfold nx at ha; cases ha; exact ⟨_, rfl⟩)
    | (unfold br at ha; split at ha <;> (unfold nx at ha; cases ha; exact ⟨_, rfl⟩))
    | (have h9 := (gd_inv ha).2; unfold nx at h9; cases h9; exact ⟨_, rfl⟩)
    | (exfalso; simp at ha; done)
    | skip
end SIM3
