section SIM3
variable {p : Program} {l : Launch} {e : Env} {R : Room} {s : State} {m : MethodId} {args : Array Value} {below : List Frame} {meth : Method} {c : Code} {D : va_G} {cA : Nat → ClassId} {b base n0 n1 y : Nat}
/-- which words an instruction can be -/
def KindOf (y pc len : Nat) (ins : Instr) (op : Op) : Prop :=
  (op.1 < 80 ∨ op.1 = 83 ∨ 95 ≤ op.1)
  ∨ (∃ i z, ins = .invokevirtual i ∧ mlN (ocY y) i mlT = some z ∧ vkY z = 0 ∧ len = 3 ∧ op = (80, z, pc + 3, npY z + 1, 0, []))
  ∨ (∃ i z, ins = .invokestatic i ∧ (mlN (ocY y) i mlT = some z ∨ mlN (ocY y) i mzT = some z) ∧ vkY z = 1 ∧ z < nY - 3 ∧ len = 3 ∧ op = (81, z, pc + 3, npY z, 0, []))
  ∨ (∃ i z, ins = .invokespecial i ∧ mlN (ocY y) i mlT = some z ∧ vkY z = 2 ∧ len = 3 ∧ op = (82, z, pc + 3, npY z + 1, 0, []))
  ∨ (ins = .ireturn ∧ len = 1 ∧ rtY y = some .int ∧ op = (90, 0, 0, 0, 0, []))
  ∨ (ins = .ireturn ∧ len = 1 ∧ rtY y = some .boolean ∧ op = (91, 0, 0, 0, 0, []))
  ∨ (ins = .lreturn ∧ len = 1 ∧ rtY y = some .long ∧ op = (92, 0, 0, 0, 0, []))
  ∨ (ins = .areturn ∧ len = 1 ∧ rtY y = some (.object (kC 3)) ∧ op = (93, 0, 0, 0, 0, []))
  ∨ (ins = .return_ ∧ len = 1 ∧ rtY y = none ∧ op = (94, 0, 0, 0, 0, []))
theorem plain {y pc len : Nat} {ins : Instr} {op : Op} (h : op.1 < 80 ∨ op.1 = 83 ∨ 95 ≤ op.1) : KindOf y pc len ins op := Or.inl h
theorem KIND {pc len : Nat} {ins : Instr} {op : Op} (hden : den y pc ins len = some op) : KindOf y pc len ins op := by
  cases ins with
  | invokevirtual i =>
    obtain ⟨z, hz, hden⟩ := Option.bind_eq_some_iff.mp hden
    obtain ⟨hv, hden⟩ := if_inv hden
    obtain ⟨rfl, rfl⟩ := one_inv hden
    exact Or.inr (Or.inl ⟨i, z, rfl, hz, hv, rfl, rfl⟩)
  | invokestatic i =>
    have hden : (match mlN (ocY y) i mlT with
      | some z => if z = 299 then (if len = 3 then some ((53, 0, pc + len, 0, 0, []) : Op) else none) else if z = 300 then (if len = 3 then some ((54, 0, pc + len, 0, 0, []) : Op) else none) else if vkY z = 1 ∧ z < nY - 3 then (if len = 3 then some ((81, z, pc + len, npY z, 0, []) : Op) else none) else none
      | none => (mlN (ocY y) i mzT).bind fun z => if vkY z = 1 ∧ z < nY - 3 then (if len = 3 then some ((81, z, pc + len, npY z, 0, []) : Op) else none) else none) = some op := hden
    cases hz : mlN (ocY y) i mlT with
    | none =>
      rw [hz] at hden
      obtain ⟨z, hz2, hden⟩ := Option.bind_eq_some_iff.mp hden
      obtain ⟨hv, hden⟩ := if_inv hden
      obtain ⟨rfl, rfl⟩ := one_inv hden
      exact Or.inr (Or.inr (Or.inl ⟨i, z, rfl, Or.inr hz2, hv.1, hv.2, rfl, rfl⟩))
    | some z =>
      rw [hz] at hden
      have hden : (if z = 299 then (if len = 3 then some ((53, 0, pc + len, 0, 0, []) : Op) else none) else if z = 300 then (if len = 3 then some ((54, 0, pc + len, 0, 0, []) : Op) else none) else if vkY z = 1 ∧ z < nY - 3 then (if len = 3 then some ((81, z, pc + len, npY z, 0, []) : Op) else none) else none) = some op := hden
      by_cases h1 : z = 299
      · rw [if_pos h1] at hden
        obtain ⟨rfl, rfl⟩ := one_inv hden
        exact plain (Or.inl (by show 53 < 80; decide))
      · rw [if_neg h1] at hden
        by_cases h2 : z = 300
        · rw [if_pos h2] at hden
          obtain ⟨rfl, rfl⟩ := one_inv hden
          exact plain (Or.inl (by show 54 < 80; decide))
        · rw [if_neg h2] at hden
          obtain ⟨hv, hden⟩ := if_inv hden
          obtain ⟨rfl, rfl⟩ := one_inv hden
          exact Or.inr (Or.inr (Or.inl ⟨i, z, rfl, Or.inl hz, hv.1, hv.2, rfl, rfl⟩))
  | invokespecial i =>
    have hden : (match mlN (ocY y) i mlT with
      | some z => if vkY z = 2 then (if len = 3 then some ((82, z, pc + len, npY z + 1, 0, []) : Op) else none) else none
      | none => if moT.any (fun q => q.1 == ocY y && q.2 == i) = true then (if len = 3 then some ((83, 0, pc + len, 0, 0, []) : Op) else none) else none) = some op := hden
    cases hz : mlN (ocY y) i mlT with
    | some z =>
      rw [hz] at hden
      obtain ⟨hv, hden⟩ := if_inv hden
      obtain ⟨rfl, rfl⟩ := one_inv hden
      exact Or.inr (Or.inr (Or.inr (Or.inl ⟨i, z, rfl, hz, hv, rfl, rfl⟩)))
    | none =>
      rw [hz] at hden
      obtain ⟨hv, hden⟩ := if_inv hden
      obtain ⟨rfl, rfl⟩ := one_inv hden
      exact plain (Or.inr (Or.inl rfl))
  | ireturn =>
    have hden : (if rtY y = some .int then (if len = 1 then some ((90, 0, 0, 0, 0, []) : Op) else none) else if rtY y = some .boolean then (if len = 1 then some ((91, 0, 0, 0, 0, []) : Op) else none) else none) = some op := hden
    by_cases h1 : rtY y = some .int
    · rw [if_pos h1] at hden
      obtain ⟨rfl, rfl⟩ := one_inv hden
      exact Or.inr (Or.inr (Or.inr (Or.inr (Or.inl ⟨rfl, rfl, h1, rfl⟩))))
    · rw [if_neg h1] at hden
      obtain ⟨h2, hden⟩ := if_inv hden
      obtain ⟨rfl, rfl⟩ := one_inv hden
      exact Or.inr (Or.inr (Or.inr (Or.inr (Or.inr (Or.inl ⟨rfl, rfl, h2, rfl⟩)))))
  | lreturn =>
    obtain ⟨h1, hden⟩ := if_inv hden
    obtain ⟨rfl, rfl⟩ := one_inv hden
    exact Or.inr (Or.inr (Or.inr (Or.inr (Or.inr (Or.inr (Or.inl ⟨rfl, rfl, h1, rfl⟩))))))
  | areturn =>
    obtain ⟨h1, hden⟩ := if_inv hden
    obtain ⟨rfl, rfl⟩ := one_inv hden
    exact Or.inr (Or.inr (Or.inr (Or.inr (Or.inr (Or.inr (Or.inr (Or.inl ⟨rfl, rfl, h1, rfl⟩)))))))
  | return_ =>
    obtain ⟨h1, hden⟩ := if_inv hden
    obtain ⟨rfl, rfl⟩ := one_inv hden
    exact Or.inr (Or.inr (Or.inr (Or.inr (Or.inr (Or.inr (Or.inr (Or.inr ⟨rfl, rfl, h1, rfl⟩)))))))
  | getfield i =>
    obtain ⟨q, hq, hden⟩ := Option.bind_eq_some_iff.mp hden
    obtain ⟨rfl, rfl⟩ := one_inv hden
    refine plain (Or.inl ?_)
    show (match fty q.1 q.2 with | 2 => 61 | 3 => 62 | _ => 60) < 80
    split <;> decide
  | putfield i =>
    obtain ⟨q, hq, hden⟩ := Option.bind_eq_some_iff.mp hden
    by_cases hff : (kT q.1 q.2).2.2.2 = true
    · simp only [hff, if_true] at hden
      obtain ⟨-, hden⟩ := if_inv hden
      obtain ⟨rfl, rfl⟩ := one_inv hden
      exact plain (Or.inl (by show 67 < 80; decide))
    · rw [if_neg hff] at hden
      obtain ⟨rfl, rfl⟩ := one_inv hden
      refine plain (Or.inl ?_)
      show (match fty q.1 q.2 with | 0 => 63 | 1 => 64 | 2 => 65 | _ => 66) < 80
      split <;> decide
  | iaload =>
    obtain ⟨rfl, rfl⟩ := one_inv hden
    refine plain (Or.inl ?_)
    show (if y = nY - 1 then 77 else 70) < 80
    split <;> decide
  | arraylength =>
    obtain ⟨rfl, rfl⟩ := one_inv hden
    refine plain (Or.inl ?_)
    show (if y = nY - 1 then 78 else 76) < 80
    split <;> decide
  | ifCond cc f =>
    obtain ⟨-, hden⟩ := if_inv hden
    obtain ⟨rfl, rfl⟩ := one_inv hden
    refine plain (Or.inl ?_)
    show 30 + cmpN cc < 80
    cases cc <;> decide
  | if_icmp cc f =>
    obtain ⟨-, hden⟩ := if_inv hden
    obtain ⟨rfl, rfl⟩ := one_inv hden
    refine plain (Or.inl ?_)
    show 40 + cmpN cc < 80
    cases cc <;> decide
  | newarray t =>
    cases t with
    | int => obtain ⟨rfl, rfl⟩ := one_inv hden; exact plain (Or.inr (Or.inr (by show 95 ≤ 96; decide)))
    | long => obtain ⟨rfl, rfl⟩ := one_inv hden; exact plain (Or.inr (Or.inr (by show 95 ≤ 97; decide)))
    | _ => exact absurd hden (by simp [den])
  | new i =>
    obtain ⟨z, hz, hden⟩ := Option.bind_eq_some_iff.mp hden
    obtain ⟨rfl, rfl⟩ := one_inv hden
    exact plain (Or.inr (Or.inr (by show 95 ≤ 95; decide)))
  | anewarray i =>
    obtain ⟨-, hden⟩ := if_inv hden
    obtain ⟨rfl, rfl⟩ := one_inv hden
    exact plain (Or.inr (Or.inr (by show 95 ≤ 98; decide)))
  | tableswitch d lo hi offs =>
    obtain ⟨-, hden⟩ := if_inv hden
    have hden := Option.some.inj hden
    subst hden
    exact plain (Or.inr (Or.inr (by show 95 ≤ 99; decide)))
  | lookupswitch d ps =>
    obtain ⟨-, hden⟩ := if_inv hden
    have hden := Option.some.inj hden
    subst hden
    exact plain (Or.inr (Or.inr (by show 95 ≤ 99; decide)))
  | ldc i =>
    obtain ⟨v, hv, hden⟩ := Option.bind_eq_some_iff.mp hden
    obtain ⟨rfl, rfl⟩ := one_inv hden
    exact plain (Or.inl (by show 6 < 80; decide))
  | ldc_w i =>
    obtain ⟨v, hv, hden⟩ := Option.bind_eq_some_iff.mp hden
    obtain ⟨rfl, rfl⟩ := one_inv hden
    exact plain (Or.inl (by show 6 < 80; decide))
  | ldc2_w i =>
    obtain ⟨v, hv, hden⟩ := Option.bind_eq_some_iff.mp hden
    obtain ⟨rfl, rfl⟩ := one_inv hden
    exact plain (Or.inl (by show 7 < 80; decide))
  | iload_n i =>
    obtain ⟨rfl, rfl⟩ := one_inv hden
    exact plain (Or.inl (by show 0 < 80; decide))
  | iload i =>
    obtain ⟨rfl, rfl⟩ := one_inv hden
    exact plain (Or.inl (by show 0 < 80; decide))
  | lload_n i =>
    obtain ⟨rfl, rfl⟩ := one_inv hden
    exact plain (Or.inl (by show 1 < 80; decide))
  | lload i =>
    obtain ⟨rfl, rfl⟩ := one_inv hden
    exact plain (Or.inl (by show 1 < 80; decide))
  | aload_n i =>
    obtain ⟨rfl, rfl⟩ := one_inv hden
    exact plain (Or.inl (by show 2 < 80; decide))
  | aload i =>
    obtain ⟨rfl, rfl⟩ := one_inv hden
    exact plain (Or.inl (by show 2 < 80; decide))
  | istore_n i =>
    obtain ⟨rfl, rfl⟩ := one_inv hden
    exact plain (Or.inl (by show 3 < 80; decide))
  | istore i =>
    obtain ⟨rfl, rfl⟩ := one_inv hden
    exact plain (Or.inl (by show 3 < 80; decide))
  | lstore_n i =>
    obtain ⟨rfl, rfl⟩ := one_inv hden
    exact plain (Or.inl (by show 4 < 80; decide))
  | lstore i =>
    obtain ⟨rfl, rfl⟩ := one_inv hden
    exact plain (Or.inl (by show 4 < 80; decide))
  | astore_n i =>
    obtain ⟨rfl, rfl⟩ := one_inv hden
    exact plain (Or.inl (by show 5 < 80; decide))
  | astore i =>
    obtain ⟨rfl, rfl⟩ := one_inv hden
    exact plain (Or.inl (by show 5 < 80; decide))
  | lconst n =>
    obtain ⟨rfl, rfl⟩ := one_inv hden
    exact plain (Or.inl (by show 7 < 80; decide))
  | aconst_null =>
    obtain ⟨rfl, rfl⟩ := one_inv hden
    exact plain (Or.inl (by show 8 < 80; decide))
  | iinc i n =>
    obtain ⟨rfl, rfl⟩ := one_inv hden
    exact plain (Or.inl (by show 9 < 80; decide))
  | iadd =>
    obtain ⟨rfl, rfl⟩ := one_inv hden
    exact plain (Or.inl (by show 10 < 80; decide))
  | isub =>
    obtain ⟨rfl, rfl⟩ := one_inv hden
    exact plain (Or.inl (by show 11 < 80; decide))
  | imul =>
    obtain ⟨rfl, rfl⟩ := one_inv hden
    exact plain (Or.inl (by show 12 < 80; decide))
  | iand =>
    obtain ⟨rfl, rfl⟩ := one_inv hden
    exact plain (Or.inl (by show 13 < 80; decide))
  | ior =>
    obtain ⟨rfl, rfl⟩ := one_inv hden
    exact plain (Or.inl (by show 14 < 80; decide))
  | ishl =>
    obtain ⟨rfl, rfl⟩ := one_inv hden
    exact plain (Or.inl (by show 15 < 80; decide))
  | ishr =>
    obtain ⟨rfl, rfl⟩ := one_inv hden
    exact plain (Or.inl (by show 16 < 80; decide))
  | iushr =>
    obtain ⟨rfl, rfl⟩ := one_inv hden
    exact plain (Or.inl (by show 17 < 80; decide))
  | ineg =>
    obtain ⟨rfl, rfl⟩ := one_inv hden
    exact plain (Or.inl (by show 18 < 80; decide))
  | idiv =>
    obtain ⟨rfl, rfl⟩ := one_inv hden
    exact plain (Or.inl (by show 19 < 80; decide))
  | irem =>
    obtain ⟨rfl, rfl⟩ := one_inv hden
    exact plain (Or.inl (by show 20 < 80; decide))
  | ladd =>
    obtain ⟨rfl, rfl⟩ := one_inv hden
    exact plain (Or.inl (by show 21 < 80; decide))
  | lsub =>
    obtain ⟨rfl, rfl⟩ := one_inv hden
    exact plain (Or.inl (by show 22 < 80; decide))
  | lmul =>
    obtain ⟨rfl, rfl⟩ := one_inv hden
    exact plain (Or.inl (by show 23 < 80; decide))
  | ldiv =>
    obtain ⟨rfl, rfl⟩ := one_inv hden
    exact plain (Or.inl (by show 24 < 80; decide))
  | lrem =>
    obtain ⟨rfl, rfl⟩ := one_inv hden
    exact plain (Or.inl (by show 25 < 80; decide))
  | lcmp =>
    obtain ⟨rfl, rfl⟩ := one_inv hden
    exact plain (Or.inl (by show 26 < 80; decide))
  | i2l =>
    obtain ⟨rfl, rfl⟩ := one_inv hden
    exact plain (Or.inl (by show 27 < 80; decide))
  | dup =>
    obtain ⟨rfl, rfl⟩ := one_inv hden
    exact plain (Or.inl (by show 50 < 80; decide))
  | dup2 =>
    obtain ⟨rfl, rfl⟩ := one_inv hden
    exact plain (Or.inl (by show 51 < 80; decide))
  | pop =>
    obtain ⟨rfl, rfl⟩ := one_inv hden
    exact plain (Or.inl (by show 52 < 80; decide))
  | iastore =>
    obtain ⟨rfl, rfl⟩ := one_inv hden
    exact plain (Or.inl (by show 71 < 80; decide))
  | laload =>
    obtain ⟨rfl, rfl⟩ := one_inv hden
    exact plain (Or.inl (by show 72 < 80; decide))
  | lastore =>
    obtain ⟨rfl, rfl⟩ := one_inv hden
    exact plain (Or.inl (by show 73 < 80; decide))
  | aaload =>
    obtain ⟨rfl, rfl⟩ := one_inv hden
    exact plain (Or.inl (by show 74 < 80; decide))
  | aastore =>
    obtain ⟨rfl, rfl⟩ := one_inv hden
    exact plain (Or.inl (by show 75 < 80; decide))
  | iconst n =>
    obtain ⟨-, hden⟩ := if_inv hden
    obtain ⟨rfl, rfl⟩ := one_inv hden
    exact plain (Or.inl (by show 6 < 80; decide))
  | bipush n =>
    obtain ⟨-, hden⟩ := if_inv hden
    obtain ⟨rfl, rfl⟩ := one_inv hden
    exact plain (Or.inl (by show 6 < 80; decide))
  | sipush n =>
    obtain ⟨-, hden⟩ := if_inv hden
    obtain ⟨rfl, rfl⟩ := one_inv hden
    exact plain (Or.inl (by show 6 < 80; decide))
  | goto f =>
    obtain ⟨-, hden⟩ := if_inv hden
    obtain ⟨rfl, rfl⟩ := one_inv hden
    exact plain (Or.inl (by show 30 < 80; decide))
  | ifnull f =>
    obtain ⟨-, hden⟩ := if_inv hden
    obtain ⟨rfl, rfl⟩ := one_inv hden
    exact plain (Or.inl (by show 47 < 80; decide))
  | _ => exact absurd hden (by simp [den])
theorem act_plain {op : Op} {L : Lc} {st : List Value} {h : Hp} {a} (hk : op.1 < 80 ∨ op.1 = 83 ∨ 95 ≤ op.1) (ha : act op L st h = some a) : ∃ r, a = .inl r := by
  obtain ⟨n, i, np, c, v, cs⟩ := op
  have hk : n < 80 ∨ n = 83 ∨ 95 ≤ n := hk
  unfold act at ha
  split at ha
  all_goals try (rename_i heq; have h9 := congrArg Prod.fst heq; simp only at h9; exfalso; omega)
  all_goals try split at ha
  all_goals first
    | (unfold nx at ha; cases ha; exact ⟨_, rfl⟩)
    | (unfold br at ha; split at ha <;> (unfold nx at ha; cases ha; exact ⟨_, rfl⟩))
    | (have h9 := (gd_inv ha).2; unfold nx at h9; cases h9; exact ⟨_, rfl⟩)
    | (exfalso; simp at ha; done)
    | skip
end SIM3
theorem cd_0 : ∀ y, 0 ≤ y → y < 20 → cdOk y (cds.getD y []) (byY y) = true := by
  intro y h1 h2
  rcases (show y = 0 ∨ y = 1 ∨ y = 2 ∨ y = 3 ∨ y = 4 ∨ y = 5 ∨ y = 6 ∨ y = 7 ∨ y = 8 ∨ y = 9 ∨ y = 10 ∨ y = 11 ∨ y = 12 ∨ y = 13 ∨ y = 14 ∨ y = 15 ∨ y = 16 ∨ y = 17 ∨ y = 18 ∨ y = 19 by omega) with rfl | rfl | rfl | rfl | rfl | rfl | rfl | rfl | rfl | rfl | rfl | rfl | rfl | rfl | rfl | rfl | rfl | rfl | rfl | rfl
  · exact k_0
  · exact k_1
  · exact k_2
  · exact k_3
  · exact k_4
  · exact k_5
  · exact k_6
  · exact k_7
  · exact k_8
  · exact k_9
  · exact k_10
  · exact k_11
  · exact k_12
  · exact k_13
  · exact k_14
  · exact k_15
  · exact k_16
  · exact k_17
  · exact k_18
  · exact k_19
theorem cd_20 : ∀ y, 20 ≤ y → y < 40 → cdOk y (cds.getD y []) (byY y) = true := by
  intro y h1 h2
  rcases (show y = 20 ∨ y = 21 ∨ y = 22 ∨ y = 23 ∨ y = 24 ∨ y = 25 ∨ y = 26 ∨ y = 27 ∨ y = 28 ∨ y = 29 ∨ y = 30 ∨ y = 31 ∨ y = 32 ∨ y = 33 ∨ y = 34 ∨ y = 35 ∨ y = 36 ∨ y = 37 ∨ y = 38 ∨ y = 39 by omega) with rfl | rfl | rfl | rfl | rfl | rfl | rfl | rfl | rfl | rfl | rfl | rfl | rfl | rfl | rfl | rfl | rfl | rfl | rfl | rfl
  · exact k_20
  · exact k_21
  · exact k_22
  · exact k_23
  · exact k_24
  · exact k_25
  · exact k_26
  · exact k_27
  · exact k_28
  · exact k_29
  · exact k_30
  · exact k_31
  · exact k_32
  · exact k_33
  · exact k_34
  · exact k_35
  · exact k_36
  · exact k_37
  · exact k_38
  · exact k_39
theorem cd_40 : ∀ y, 40 ≤ y → y < 60 → cdOk y (cds.getD y []) (byY y) = true := by
  intro y h1 h2
  rcases (show y = 40 ∨ y = 41 ∨ y = 42 ∨ y = 43 ∨ y = 44 ∨ y = 45 ∨ y = 46 ∨ y = 47 ∨ y = 48 ∨ y = 49 ∨ y = 50 ∨ y = 51 ∨ y = 52 ∨ y = 53 ∨ y = 54 ∨ y = 55 ∨ y = 56 ∨ y = 57 ∨ y = 58 ∨ y = 59 by omega) with rfl | rfl | rfl | rfl | rfl | rfl | rfl | rfl | rfl | rfl | rfl | rfl | rfl | rfl | rfl | rfl | rfl | rfl | rfl | rfl
  · exact k_40
  · exact k_41
  · exact k_42
  · exact k_43
  · exact k_44
  · exact k_45
  · exact k_46
  · exact k_47
  · exact k_48
  · exact k_49
  · exact k_50
  · exact k_51
  · exact k_52
  · exact k_53
  · exact k_54
  · exact k_55
  · exact k_56
  · exact k_57
  · exact k_58
  · exact k_59
theorem cd_60 : ∀ y, 60 ≤ y → y < 80 → cdOk y (cds.getD y []) (byY y) = true := by
  intro y h1 h2
  rcases (show y = 60 ∨ y = 61 ∨ y = 62 ∨ y = 63 ∨ y = 64 ∨ y = 65 ∨ y = 66 ∨ y = 67 ∨ y = 68 ∨ y = 69 ∨ y = 70 ∨ y = 71 ∨ y = 72 ∨ y = 73 ∨ y = 74 ∨ y = 75 ∨ y = 76 ∨ y = 77 ∨ y = 78 ∨ y = 79 by omega) with rfl | rfl | rfl | rfl | rfl | rfl | rfl | rfl | rfl | rfl | rfl | rfl | rfl | rfl | rfl | rfl | rfl | rfl | rfl | rfl
  · exact k_60
  · exact k_61
  · exact k_62
  · exact k_63
  · exact k_64
  · exact k_65
  · exact k_66
  · exact k_67
  · exact k_68
  · exact k_69
  · exact k_70
  · exact k_71
  · exact k_72
  · exact k_73
  · exact k_74
  · exact k_75
  · exact k_76
  · exact k_77
  · exact k_78
  · exact k_79
theorem cd_80 : ∀ y, 80 ≤ y → y < 100 → cdOk y (cds.getD y []) (byY y) = true := by
  intro y h1 h2
  rcases (show y = 80 ∨ y = 81 ∨ y = 82 ∨ y = 83 ∨ y = 84 ∨ y = 85 ∨ y = 86 ∨ y = 87 ∨ y = 88 ∨ y = 89 ∨ y = 90 ∨ y = 91 ∨ y = 92 ∨ y = 93 ∨ y = 94 ∨ y = 95 ∨ y = 96 ∨ y = 97 ∨ y = 98 ∨ y = 99 by omega) with rfl | rfl | rfl | rfl | rfl | rfl | rfl | rfl | rfl | rfl | rfl | rfl | rfl | rfl | rfl | rfl | rfl | rfl | rfl | rfl
  · exact k_80
  · exact k_81
  · exact k_82
  · exact k_83
  · exact k_84
  · exact k_85
  · exact k_86
  · exact k_87
  · exact k_88
  · exact k_89
  · exact k_90
  · exact k_91
  · exact k_92
  · exact k_93
  · exact k_94
  · exact k_95
  · exact k_96
  · exact k_97
  · exact k_98
  · exact k_99
theorem cd_100 : ∀ y, 100 ≤ y → y < 120 → cdOk y (cds.getD y []) (byY y) = true := by
  intro y h1 h2
  rcases (show y = 100 ∨ y = 101 ∨ y = 102 ∨ y = 103 ∨ y = 104 ∨ y = 105 ∨ y = 106 ∨ y = 107 ∨ y = 108 ∨ y = 109 ∨ y = 110 ∨ y = 111 ∨ y = 112 ∨ y = 113 ∨ y = 114 ∨ y = 115 ∨ y = 116 ∨ y = 117 ∨ y = 118 ∨ y = 119 by omega) with rfl | rfl | rfl | rfl | rfl | rfl | rfl | rfl | rfl | rfl | rfl | rfl | rfl | rfl | rfl | rfl | rfl | rfl | rfl | rfl
  · exact k_100
  · exact k_101
  · exact k_102
  · exact k_103
  · exact k_104
  · exact k_105
  · exact k_106
  · exact k_107
  · exact k_108
  · exact k_109
  · exact k_110
  · exact k_111
  · exact k_112
  · exact k_113
  · exact k_114
  · exact k_115
  · exact k_116
  · exact k_117
  · exact k_118
  · exact k_119
theorem cd_120 : ∀ y, 120 ≤ y → y < 140 → cdOk y (cds.getD y []) (byY y) = true := by
  intro y h1 h2
  rcases (show y = 120 ∨ y = 121 ∨ y = 122 ∨ y = 123 ∨ y = 124 ∨ y = 125 ∨ y = 126 ∨ y = 127 ∨ y = 128 ∨ y = 129 ∨ y = 130 ∨ y = 131 ∨ y = 132 ∨ y = 133 ∨ y = 134 ∨ y = 135 ∨ y = 136 ∨ y = 137 ∨ y = 138 ∨ y = 139 by omega) with rfl | rfl | rfl | rfl | rfl | rfl | rfl | rfl | rfl | rfl | rfl | rfl | rfl | rfl | rfl | rfl | rfl | rfl | rfl | rfl
  · exact k_120
  · exact k_121
  · exact k_122
  · exact k_123
  · exact k_124
  · exact k_125
  · exact k_126
  · exact k_127
  · exact k_128
  · exact k_129
  · exact k_130
  · exact k_131
  · exact k_132
  · exact k_133
  · exact k_134
  · exact k_135
  · exact k_136
  · exact k_137
  · exact k_138
  · exact k_139
theorem cd_140 : ∀ y, 140 ≤ y → y < 160 → cdOk y (cds.getD y []) (byY y) = true := by
  intro y h1 h2
  rcases (show y = 140 ∨ y = 141 ∨ y = 142 ∨ y = 143 ∨ y = 144 ∨ y = 145 ∨ y = 146 ∨ y = 147 ∨ y = 148 ∨ y = 149 ∨ y = 150 ∨ y = 151 ∨ y = 152 ∨ y = 153 ∨ y = 154 ∨ y = 155 ∨ y = 156 ∨ y = 157 ∨ y = 158 ∨ y = 159 by omega) with rfl | rfl | rfl | rfl | rfl | rfl | rfl | rfl | rfl | rfl | rfl | rfl | rfl | rfl | rfl | rfl | rfl | rfl | rfl | rfl
  · exact k_140
  · exact k_141
  · exact k_142
  · exact k_143
  · exact k_144
  · exact k_145
  · exact k_146
  · exact k_147
  · exact k_148
  · exact k_149
  · exact k_150
  · exact k_151
  · exact k_152
  · exact k_153
  · exact k_154
  · exact k_155
  · exact k_156
  · exact k_157
  · exact k_158
  · exact k_159
theorem cd_160 : ∀ y, 160 ≤ y → y < 180 → cdOk y (cds.getD y []) (byY y) = true := by
  intro y h1 h2
  rcases (show y = 160 ∨ y = 161 ∨ y = 162 ∨ y = 163 ∨ y = 164 ∨ y = 165 ∨ y = 166 ∨ y = 167 ∨ y = 168 ∨ y = 169 ∨ y = 170 ∨ y = 171 ∨ y = 172 ∨ y = 173 ∨ y = 174 ∨ y = 175 ∨ y = 176 ∨ y = 177 ∨ y = 178 ∨ y = 179 by omega) with rfl | rfl | rfl | rfl | rfl | rfl | rfl | rfl | rfl | rfl | rfl | rfl | rfl | rfl | rfl | rfl | rfl | rfl | rfl | rfl
  · exact k_160
  · exact k_161
  · exact k_162
  · exact k_163
  · exact k_164
  · exact k_165
  · exact k_166
  · exact k_167
  · exact k_168
  · exact k_169
  · exact k_170
  · exact k_171
  · exact k_172
  · exact k_173
  · exact k_174
  · exact k_175
  · exact k_176
  · exact k_177
  · exact k_178
  · exact k_179
theorem cd_180 : ∀ y, 180 ≤ y → y < 200 → cdOk y (cds.getD y []) (byY y) = true := by
  intro y h1 h2
  rcases (show y = 180 ∨ y = 181 ∨ y = 182 ∨ y = 183 ∨ y = 184 ∨ y = 185 ∨ y = 186 ∨ y = 187 ∨ y = 188 ∨ y = 189 ∨ y = 190 ∨ y = 191 ∨ y = 192 ∨ y = 193 ∨ y = 194 ∨ y = 195 ∨ y = 196 ∨ y = 197 ∨ y = 198 ∨ y = 199 by omega) with rfl | rfl | rfl | rfl | rfl | rfl | rfl | rfl | rfl | rfl | rfl | rfl | rfl | rfl | rfl | rfl | rfl | rfl | rfl | rfl
  · exact k_180
  · exact k_181
  · exact k_182
  · exact k_183
  · exact k_184
  · exact k_185
  · exact k_186
  · exact k_187
  · exact k_188
  · exact k_189
  · exact k_190
  · exact k_191
  · exact k_192
  · exact k_193
  · exact k_194
  · exact k_195
  · exact k_196
  · exact k_197
  · exact k_198
  · exact k_199
theorem cd_200 : ∀ y, 200 ≤ y → y < 220 → cdOk y (cds.getD y []) (byY y) = true := by
  intro y h1 h2
  rcases (show y = 200 ∨ y = 201 ∨ y = 202 ∨ y = 203 ∨ y = 204 ∨ y = 205 ∨ y = 206 ∨ y = 207 ∨ y = 208 ∨ y = 209 ∨ y = 210 ∨ y = 211 ∨ y = 212 ∨ y = 213 ∨ y = 214 ∨ y = 215 ∨ y = 216 ∨ y = 217 ∨ y = 218 ∨ y = 219 by omega) with rfl | rfl | rfl | rfl | rfl | rfl | rfl | rfl | rfl | rfl | rfl | rfl | rfl | rfl | rfl | rfl | rfl | rfl | rfl | rfl
  · exact k_200
  · exact k_201
  · exact k_202
  · exact k_203
  · exact k_204
  · exact k_205
  · exact k_206
  · exact k_207
  · exact k_208
  · exact k_209
  · exact k_210
  · exact k_211
  · exact k_212
  · exact k_213
  · exact k_214
  · exact k_215
  · exact k_216
  · exact k_217
  · exact k_218
  · exact k_219
theorem cd_220 : ∀ y, 220 ≤ y → y < 240 → cdOk y (cds.getD y []) (byY y) = true := by
  intro y h1 h2
  rcases (show y = 220 ∨ y = 221 ∨ y = 222 ∨ y = 223 ∨ y = 224 ∨ y = 225 ∨ y = 226 ∨ y = 227 ∨ y = 228 ∨ y = 229 ∨ y = 230 ∨ y = 231 ∨ y = 232 ∨ y = 233 ∨ y = 234 ∨ y = 235 ∨ y = 236 ∨ y = 237 ∨ y = 238 ∨ y = 239 by omega) with rfl | rfl | rfl | rfl | rfl | rfl | rfl | rfl | rfl | rfl | rfl | rfl | rfl | rfl | rfl | rfl | rfl | rfl | rfl | rfl
  · exact k_220
  · exact k_221
  · exact k_222
  · exact k_223
  · exact k_224
  · exact k_225
  · exact k_226
  · exact k_227
  · exact k_228
  · exact k_229
  · exact k_230
  · exact k_231
  · exact k_232
  · exact k_233
  · exact k_234
  · exact k_235
  · exact k_236
  · exact k_237
  · exact k_238
  · exact k_239
theorem cd_240 : ∀ y, 240 ≤ y → y < 260 → cdOk y (cds.getD y []) (byY y) = true := by
  intro y h1 h2
  rcases (show y = 240 ∨ y = 241 ∨ y = 242 ∨ y = 243 ∨ y = 244 ∨ y = 245 ∨ y = 246 ∨ y = 247 ∨ y = 248 ∨ y = 249 ∨ y = 250 ∨ y = 251 ∨ y = 252 ∨ y = 253 ∨ y = 254 ∨ y = 255 ∨ y = 256 ∨ y = 257 ∨ y = 258 ∨ y = 259 by omega) with rfl | rfl | rfl | rfl | rfl | rfl | rfl | rfl | rfl | rfl | rfl | rfl | rfl | rfl | rfl | rfl | rfl | rfl | rfl | rfl
  · exact k_240
  · exact k_241
  · exact k_242
  · exact k_243
  · exact k_244
  · exact k_245
  · exact k_246
  · exact k_247
  · exact k_248
  · exact k_249
  · exact k_250
  · exact k_251
  · exact k_252
  · exact k_253
  · exact k_254
  · exact k_255
  · exact k_256
  · exact k_257
  · exact k_258
  · exact k_259
theorem cd_260 : ∀ y, 260 ≤ y → y < 280 → cdOk y (cds.getD y []) (byY y) = true := by
  intro y h1 h2
  rcases (show y = 260 ∨ y = 261 ∨ y = 262 ∨ y = 263 ∨ y = 264 ∨ y = 265 ∨ y = 266 ∨ y = 267 ∨ y = 268 ∨ y = 269 ∨ y = 270 ∨ y = 271 ∨ y = 272 ∨ y = 273 ∨ y = 274 ∨ y = 275 ∨ y = 276 ∨ y = 277 ∨ y = 278 ∨ y = 279 by omega) with rfl | rfl | rfl | rfl | rfl | rfl | rfl | rfl | rfl | rfl | rfl | rfl | rfl | rfl | rfl | rfl | rfl | rfl | rfl | rfl
  · exact k_260
  · exact k_261
  · exact k_262
  · exact k_263
  · exact k_264
  · exact k_265
  · exact k_266
  · exact k_267
  · exact k_268
  · exact k_269
  · exact k_270
  · exact k_271
  · exact k_272
  · exact k_273
  · exact k_274
  · exact k_275
  · exact k_276
  · exact k_277
  · exact k_278
  · exact k_279
theorem cd_280 : ∀ y, 280 ≤ y → y < 300 → cdOk y (cds.getD y []) (byY y) = true := by
  intro y h1 h2
  rcases (show y = 280 ∨ y = 281 ∨ y = 282 ∨ y = 283 ∨ y = 284 ∨ y = 285 ∨ y = 286 ∨ y = 287 ∨ y = 288 ∨ y = 289 ∨ y = 290 ∨ y = 291 ∨ y = 292 ∨ y = 293 ∨ y = 294 ∨ y = 295 ∨ y = 296 ∨ y = 297 ∨ y = 298 ∨ y = 299 by omega) with rfl | rfl | rfl | rfl | rfl | rfl | rfl | rfl | rfl | rfl | rfl | rfl | rfl | rfl | rfl | rfl | rfl | rfl | rfl | rfl
  · exact k_280
  · exact k_281
  · exact k_282
  · exact k_283
  · exact k_284
  · exact k_285
  · exact k_286
  · exact k_287
  · exact k_288
  · exact k_289
  · exact k_290
  · exact k_291
  · exact k_292
  · exact k_293
  · exact k_294
  · exact k_295
  · exact k_296
  · exact k_297
  · exact k_298
  · exact k_299
theorem cd_300 : ∀ y, 300 ≤ y → y < 302 → cdOk y (cds.getD y []) (byY y) = true := by
  intro y h1 h2
  rcases (show y = 300 ∨ y = 301 by omega) with rfl | rfl
  · exact k_300
  · exact k_301
theorem cd_all : ∀ y, y < nY → cdOk y (cds.getD y []) (byY y) = true := by
  intro y hy
  have hy : y < 302 := hy
  by_cases h : y < 20; · exact cd_0 y (by omega) h
  by_cases h : y < 40; · exact cd_20 y (by omega) h
  by_cases h : y < 60; · exact cd_40 y (by omega) h
  by_cases h : y < 80; · exact cd_60 y (by omega) h
  by_cases h : y < 100; · exact cd_80 y (by omega) h
  by_cases h : y < 120; · exact cd_100 y (by omega) h
  by_cases h : y < 140; · exact cd_120 y (by omega) h
  by_cases h : y < 160; · exact cd_140 y (by omega) h
  by_cases h : y < 180; · exact cd_160 y (by omega) h
  by_cases h : y < 200; · exact cd_180 y (by omega) h
  by_cases h : y < 220; · exact cd_200 y (by omega) h
  by_cases h : y < 240; · exact cd_220 y (by omega) h
  by_cases h : y < 260; · exact cd_240 y (by omega) h
  by_cases h : y < 280; · exact cd_260 y (by omega) h
  by_cases h : y < 300; · exact cd_280 y (by omega) h
  by_cases h : y < 302; · exact cd_300 y (by omega) h
  exact absurd hy (by omega)
section SIM3b
variable {y : Nat}
theorem code_ok {pc : Nat} {op : Op} {hd : Bool} (hy : y < nY) (hc : icode y pc = some (op, hd)) : ∃ ins len, decode (byY y) pc = .ok (ins, len) ∧ den y pc ins len = some op := by
  have hk := cd_all y hy
  have hm : (pc, op, hd) ∈ cds.getD y [] := by
    have h1 : (cds.getD y []).lookup pc = some (op, hd) := hc
    generalize cds.getD y [] = L at h1
    induction L with
    | nil => cases h1
    | cons q L ih =>
      obtain ⟨a, r⟩ := q
      rw [List.lookup_cons] at h1
      by_cases hpa : pc == a
      · rw [hpa] at h1
        have : pc = a := by simpa using hpa
        cases h1
        rw [this]
        exact List.mem_cons_self
      · have : (pc == a) = false := by simpa using hpa
        rw [this] at h1
        exact List.mem_cons_of_mem _ (ih h1)
  have h2 := List.all_eq_true.mp hk _ hm
  simp only at h2
  split at h2
  · rename_i i len hdec
    exact ⟨i, len, hdec, by simpa using h2⟩
  · cases h2
end SIM3b
