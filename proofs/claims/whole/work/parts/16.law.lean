/-! THE CLAIM OUT OF ONE WALK OF THE LAW'S BODY. Your part is whole_start (and what it stands on); all else here is the same for every law, but numbers. -/
def R_law : String := "PrayerMatsFaceLaw"
def lw_P (b : Addr) (xs : List Int32) (args : Array Value) (s : State) : Prop := args = #[.ref b] ∧ s.IntsAt b xs ∧ xs.length ≤ 3584 ∧ (Jvm.Cond.and given_1 narrow_1).before args s = true
def lw_Q (_ : Array Value) (s : State) (o : Outcome) (t : State) : Prop := o = .returned (some (.int 1)) ∧ Framed s o t [] 600000 7302250
def lw_Z (below : List Frame) (a : Array Value) (s : State) : State → Prop := fun t => ∃ o, t.status = .running ∧ Ended t below o ∧ lw_Q a s o t
/-- the law's own end, with 1 on the stack, nothing written that was there before, its room as the claim has it -/
theorem lw_ret {p : Program} {l : Launch} {e : Env} {s : State} {m : MethodId} {below : List Frame} {meth : Method} {c : Code} {b : Nat} (hx : p.tables.exec = Jvm.exec) (hb : c.code = code) (hr : meth.sig.returnType = ret) (hlocks : meth.locks = false) {pc : Nat} {H : Heap} {ls : Array Slot} (hdg : decode code pc = .ok (.ireturn, 1)) : W p l e room_1 s m #[Value.ref b] below meth c H [] 600000 7302250 (lw_Z below #[Value.ref b] s) (F0 m pc ls [.int 1]) := by
  intro T hT X
  obtain ⟨fs, hret, hrun, hended, hW, hframe⟩ := X.leave (v := some (.int 1)) (hlocks := hlocks) (fun h => by rw [hr] at h; cases h)
  have hmeth' : T.vm.method? m = some meth := X.method'
  refine ⟨T.setFrames fs, ?_, .returned (some (.int 1)), hrun, hended, rfl, ⟨_, rfl⟩, hW, hframe⟩
  jvm_step X.here [X.here.top, hx, hb, hdg, hmeth', hr, ret, narrow_b1]
  (try refine ⟨rfl, ?_⟩); (try refine ⟨rfl, ?_⟩)
  first | (intro acts; rw [hret _ acts rfl rfl rfl]) | rw [hret _ _ rfl rfl rfl]
  exact Steps.refl _
/-- what holds at the law's entry: the machine, the code, the tables' words (any of lw_tbl by 'hts w (by decide +kernel)'), the script of L ints xs at the cell b, what the Statement gives of the start (any of its parts by flat_of_before) -/
def lw_At (p : Program) (s : State) (m : MethodId) (meth : Method) (c : Code) (b L : Nat) (xs : Nat → Int32) : Prop :=
  p.tables.exec = Jvm.exec ∧ c.code = code ∧ meth.sig.returnType = ret ∧ c.maxLocals = 4 ∧ s.vm.findClass R_law = some m.cls ∧ (∀ w ∈ lw_tbl, w.before #[Value.ref b] s = true) ∧ va_X b L xs s s.heap ∧ b < s.heap.size ∧ meth.locks = false ∧ (Jvm.Cond.and given_1 narrow_1).before #[Value.ref b] s = true
def h00 (L : Nat) (xs : Nat → Int32) : Hp := (fun _ _ => 0, fun _ _ => 0, fun _ _ => none, 0, L, xs)
/-- what is left: the small machine's run of the law -/
def LawRun : Prop := ∀ (L : Nat) (xs : Nat → Int32), L ≤ 3584 → ∃ h' : Hp, Ret 40 301 [.ref 999] (h00 L xs) (some (.int 1)) h' ∧ hn h' = 105
theorem arr_of {s : State} {cA : ClassId} {kA : Class} {comp : ClassId} {ty : FieldType} (h2 : s.vm.classes[cA]? = some kA) (h3 : kA.kind = .array comp ty) : ArrOfT s cA ty := fun N z => ⟨(fun k h => by cases h), kA, h2, comp, h3⟩
theorem whole_of (hlaw : LawRun) {p : Program} {e : Env} {s : State} {m : MethodId} {below : List Frame} {meth : Method} {c : Code} (l : Launch) {b L : Nat} {xs : Nat → Int32} (hL : L ≤ 3584) (C0 : lw_At p s m meth c b L xs) : W p l e room_1 s m #[Value.ref b] below meth c s.heap [] 0 0 (lw_Z below #[Value.ref b] s) (entryFrame m ([Value.ref b] : List Value).toArray 4) := by
  obtain ⟨hx, hb, hr, hml, hown, hts, hX, hbl, hlocks, hgv⟩ := C0
  have htsg : ∀ w ∈ gW, w.before #[Value.ref b] s = true := fun w hw => hts w (List.mem_filter.mp hw).1
  have hcls : ∀ ci, ∃ (cC : ClassId) (iS : Nat → Nat), ci < 13 → u_Kn s (kC ci) (kT ci) (kN ci) cC iS := by
    intro ci
    by_cases hci : ci < 13
    · obtain ⟨cC, iS, h⟩ := u_known htsg (gW_lay ci hci) (htsg _ (gW_inst ci hci))
      exact ⟨cC, iS, fun _ => h⟩
    · exact ⟨0, fun _ => 0, fun h => absurd h hci⟩
  obtain ⟨ai, kai, compi, ai1, ai2, ai3⟩ := Cond.arrayClass_spec (htsg _ gW_ai)
  obtain ⟨al, kal, compl, al1, al2, al3⟩ := Cond.arrayClass_spec (htsg _ gW_al)
  have hao := hts _ (List.mem_of_getElem? p_ao)
  obtain ⟨comp, am, kam, am1, -, am3, am4, am5⟩ := Cond.arrayOver_spec hao
  have hK : va_K (fun ci => (hcls ci).choose, fun ci => (hcls ci).choose_spec.choose) classes (tysA (fun t => if t = 0 then ai else if t = 1 then al else am)) s := by
    refine ⟨fun ci q hq => ?_, fun k q hq => ?_⟩
    · have hci : ci < 13 := by
        have := (List.getElem?_eq_some_iff.mp hq).1
        simpa [classes] using this
      rw [cl_at ci hci] at hq
      cases hq
      exact (hcls ci).choose_spec.choose_spec hci
    · have hk : k < 3 := (List.getElem?_eq_some_iff.mp hq).1
      rcases (show k = 0 ∨ k = 1 ∨ k = 2 by omega) with rfl | rfl | rfl
      · cases hq
        exact ⟨arr_of ai2 ai3, ai1⟩
      · cases hq
        exact ⟨arr_of al2 al3, al1⟩
      · cases hq
        exact ⟨arr_of am3 am4, kam, comp, am3, am4, am1, am5⟩
  have hNW : NW s := by
    refine ⟨fun q hq => ?_, va_AO.of hao⟩
    have h1 : Cond.methodLinkNest (kC q.1) q.2.1 (nmY q.2.2) "PrayerMatsFace" ∈ mzT.map (fun q => Cond.methodLinkNest (kC q.1) q.2.1 (nmY q.2.2) "PrayerMatsFace") := List.mem_map.mpr ⟨q, hq, rfl⟩
    rw [p_mz] at h1
    obtain ⟨i, -, hi⟩ := List.mem_filterMap.mp h1
    exact va_Nw.of rfl (hts _ (List.mem_of_getElem? hi))
  obtain ⟨h', ⟨hlen, k, hrun⟩, hn'⟩ := hlaw L xs hL
  have hsim := SIM l k 40 301 0 _ [] (h00 L xs) (some (.int 1)) h' (by decide) hrun
  have hslT : slT 105 ≤ 7302250 := by decide +kernel
  have hsl0 : slT 0 = 0 := rfl
  rw [lg_entry_eq]
  have hl0 := lv_entry ([.ref b] : List Value) (n := 4) (Nat.le_of_ble_eq_true rfl)
  have hl : lv_has ((lg_sl [Value.ref b] ++ List.replicate (4 - (lg_sl [Value.ref b]).length) Slot.unset).toArray) (ent [.ref 999] (mxY 301)).length (lvL b s.heap.size 0 (ent [.ref 999] (mxY 301))) := hl0
  refine hsim p e room_1 s m _ below meth c _ _ b s.heap.size 0 s.heap [] 0 0 _ _ ⟨hx, hb, hml, hown, htsg, hNW, hK, fun h => absurd h (by decide), by decide, hbl, Nat.le_refl _, by rw [hn']; decide, by rw [hn', hsl0]; exact Nat.le_trans hslT (Nat.le_refl _)⟩ (by decide) (by decide) ⟨⟨rfl, fun o ho => absurd ho (Nat.not_lt_zero o)⟩, va_S.rf, rfl, rfl, hX⟩ hl rfl ?_
  intro H' locs' cells' slots' ls' pcR hY' hret
  obtain ⟨hW', hS', hc1, hc2, hX'⟩ := hY'
  rw [hn'] at hc1 hc2
  refine va_forget (fun q hq => hS'.2.2 q hq) ?_
  refine W.widen (k := 600000) (n := 7302250) (by omega) (by omega) ?_
  exact lw_ret hx hb hr hlocks hret.1
