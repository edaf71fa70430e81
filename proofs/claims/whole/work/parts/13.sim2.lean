section SIM2
variable {p : Program} {l : Launch} {e : Env} {R : Room} {s : State} {m : MethodId} {args : Array Value} {below : List Frame} {meth : Method} {c : Code} {D : va_G} {cA : Nat → ClassId} {b base n0 n1 y : Nat}
theorem act_ok {op : Op} {L L' : Lc} {st st' : List Value} {h h' : Hp} {pc' : Nat} (ha : act op L st h = some (.inl (pc', L', st', h'))) : h'.2.2.2.2 = h.2.2.2.2 ∧ hn h ≤ hn h' := by
  obtain ⟨n, i, np, c, v, cs⟩ := op
  unfold act at ha
  split at ha
  all_goals try split at ha
  all_goals first
    | (obtain ⟨-, -, -, rfl⟩ := nx_inv ha; exact ⟨rfl, Nat.le_refl _⟩)
    | (obtain ⟨-, -, -, rfl⟩ := br_inv ha; exact ⟨rfl, Nat.le_refl _⟩)
    | (obtain ⟨-, ha⟩ := gd_inv ha; obtain ⟨-, -, -, rfl⟩ := nx_inv ha; first | exact ⟨rfl, Nat.le_refl _⟩ | exact ⟨rfl, Nat.le_succ _⟩)
    | (exfalso; simp at ha; done)
    | (have h9 := (gd_inv ha).2; exfalso; simp at h9; done)
theorem run_ok : ∀ (k d y pc : Nat) (L : Lc) (st : List Value) (h : Hp) (v : Option Value) (h' : Hp), run k d y pc L st h = some (v, h') → h'.2.2.2.2 = h.2.2.2.2 ∧ hn h ≤ hn h' := by
  intro k
  induction k with
  | zero => intro d y pc L st h v h' hr; simp [run] at hr
  | succ k ih =>
    intro d y pc L st h v h' hr
    unfold run at hr
    cases hc : icode y pc with
    | none => rw [hc] at hr; simp at hr
    | some e =>
      obtain ⟨op, hd⟩ := e
      rw [hc] at hr
      simp only at hr
      cases ha : act op L st h with
      | none => rw [ha] at hr; simp at hr
      | some a =>
        rw [ha] at hr
        rcases a with ⟨pc', L', st', h1⟩ | ⟨y', np, as, rest⟩ | w
        · obtain ⟨e1, e2⟩ := act_ok ha
          obtain ⟨e3, e4⟩ := ih _ _ _ _ _ _ _ _ hr
          exact ⟨e3.trans e1, Nat.le_trans e2 e4⟩
        · cases d with
          | zero => simp at hr
          | succ d =>
            simp only at hr
            by_cases he : (ent1 as).length ≤ mxY y'
            · rw [if_pos he] at hr
              cases hq : run k d y' 0 (ent as (mxY y')) [] h with
              | none => rw [hq] at hr; simp at hr
              | some z =>
                rw [hq] at hr
                obtain ⟨w, h1⟩ := z
                obtain ⟨e1, e2⟩ := ih _ _ _ _ _ _ _ _ hq
                obtain ⟨e3, e4⟩ := ih _ _ _ _ _ _ _ _ hr
                exact ⟨e3.trans e1, Nat.le_trans e2 e4⟩
            · rw [if_neg he] at hr; simp at hr
        · cases hr
          exact ⟨rfl, Nat.le_refl _⟩
def RetAt (y pc : Nat) (v : Option Value) : Prop := match v with
  | none => decode (byY y) pc = .ok (.return_, 1) ∧ rtY y = none
  | some (.int x) => decode (byY y) pc = .ok (.ireturn, 1) ∧ (rtY y = some .int ∨ (rtY y = some .boolean ∧ (x = 0 ∨ x = 1)))
  | some (.long _) => decode (byY y) pc = .ok (.lreturn, 1) ∧ rtY y = some .long
  | some (.ref _) => decode (byY y) pc = .ok (.areturn, 1) ∧ rtY y = some (.object (kC 3))
  | some .null => decode (byY y) pc = .ok (.areturn, 1) ∧ rtY y = some (.object (kC 3))
  | _ => False
def SIMAT (l : Launch) (d y pc : Nat) (L : Lc) (st : List Value) (h : Hp) (v : Option Value) (h' : Hp) : Prop :=
  ∀ (p : Program) (e : Env) (R : Room) (s : State) (m : MethodId) (args : Array Value) (below : List Frame) (meth : Method) (c : Code) (D : va_G) (cA : Nat → ClassId) (b base n0 : Nat) (H : Heap) (locs : List Loc) (cells slots : Nat) (Q : State → Prop) (ls : Array Slot),
    Ctx p R s m args meth c D cA b base n0 (hn h') y → d + 1 ≤ R.frames → 64 * (d + 1) ≤ R.locals → Dy s D cA b base n0 h H locs cells slots → lv_has ls L.length (lvL b base 0 L) → L.length = mxY y →
    (∀ H' locs' cells' slots' ls' pcR, Dy s D cA b base n0 h' H' locs' cells' slots' → RetAt y pcR v → W p l e R s m args below meth c H' locs' cells' slots' Q (F0 m pcR ls' (v.toList.map (tr b base)))) →
    W p l e R s m args below meth c H locs cells slots Q (F0 m pc ls (st.map (tr b base)))
def rmD (d mc ms : Nat) : Room := { frames := d + 1, cells := mc, slots := ms, locals := 64 * (d + 1) }
def MPc (D : va_G) (cA : Nat → ClassId) (b base : Nat) (as : List Value) (h : Hp) : Array Value → State → Prop := va_Pc (as.map (tr b base)) (fun U => Wd D cA b base h U.heap ∧ NW U ∧ va_K D classes (tysA cA) U ∧ va_X b (hL h) (hX h) U U.heap ∧ b < base)
def MQc (D : va_G) (cA : Nat → ClassId) (b base : Nat) (v : Option Value) (h' : Hp) : Array Value → State → Outcome → State → Prop := fun _ st o t => o = .returned (v.map (tr b base)) ∧ Wd D cA b base h' t.heap ∧ va_F (fun q => base ≤ q) st t
theorem METOF {d z : Nat} {as : List Value} {h h' : Hp} {v : Option Value} (hsim : SIMAT l d z 0 (ent as (mxY z)) [] h v h') (hz : z < nY - 3) (hlen : (ent1 as).length ≤ mxY z) (hle : hn h ≤ hn h') :
    Met l (nmY z) (wsOf z) (rmD d (hn h' - hn h) (slT (hn h') - slT (hn h))) (MPc D cA b base as h) (MQc D cA b base v h') (hn h' - hn h) (slT (hn h') - slT (hn h)) (fun q => base ≤ q) := by
  have hz1 : z < nY := Nat.lt_of_lt_of_le hz (by decide)
  refine Met.ofW (cc := byY z) (maxL := mxY z) (ret := rtY z) (fY_3 z hz) rfl ?_
  intro p e s m args below meth c s₁ B hml hv
  obtain ⟨rfl, hW, hNW, hK, hX, hbb⟩ := hv
  have hx := B.exec
  have hb := B.bytes
  have hr := B.returns
  have hts0 := atoms_spec (ws := wsOf z) B.pre
  have hts : ∀ w ∈ gW, w.before _ s = true := fun w hw => hts0 w (List.mem_cons_of_mem _ hw)
  have hown : s.vm.findClass (nmY z).cls = some m.cls := findClass_of_methodNamed B.named
  rw [fY_1 z hz1] at hown
  have hlocks := B.notSynchronized
  have hname : meth.name = (nmY z).name := (name_of_methodNamed B.named B.method).1
  rw [lg_entry_eq]
  have hl0 := lv_entry (as.map (tr b base)) (n := mxY z) (by rw [ent_sl]; exact hlen)
  have hll : (ent as (mxY z)).length = mxY z := by simp [ent]; omega
  have hl : lv_has ((lg_sl (as.map (tr b base)) ++ List.replicate (mxY z - (lg_sl (as.map (tr b base))).length) Slot.unset).toArray) (ent as (mxY z)).length (lvL b base 0 (ent as (mxY z))) := by
    rw [hll]
    unfold ent
    rw [ent_lv]
    exact hl0
  refine hsim p e _ s m _ below meth c D cA b base (hn h) s.heap [] 0 0 _ _ ⟨hx, hb, hml, hown, hts, hNW, hK, fun hv => by rw [hname]; exact fY_5 z hz1 hv, hz1, hbb, by rw [hW.1]; omega, by show hn h' ≤ (hn h' - hn h) + hn h; omega, by show slT (hn h') ≤ (slT (hn h') - slT (hn h)) + slT (hn h); omega⟩ (Nat.le_refl _) (Nat.le_refl _) ⟨hW, va_S.rf, Nat.zero_add _, Nat.zero_add _, hX⟩ hl hll ?_
  intro H' locs' cells' slots' ls' pcR hY' hret
  obtain ⟨hW', hS', hc1, hc2, hX'⟩ := hY'
  have e1 : cells' = hn h' - hn h := by omega
  have e2 : slots' = slT (hn h') - slT (hn h) := by omega
  subst e1 e2
  have hq : ∀ t : State, t.heap = H' → s.WarmedH t.vm → MQc D cA b base v h' (as.map (tr b base)).toArray s (.returned (v.map (tr b base))) t := fun t ht _ => ⟨rfl, by rw [ht]; exact hW', hS'.F ht⟩
  rcases v with _ | w
  · exact W.vret hx hb (hr.trans hret.2) hq hS'.2.2 hret.1
  · cases w with
    | int x =>
      rcases hret.2 with h1 | ⟨h1, h2⟩
      · exact W.iret hx hb (hr.trans h1) hq hS'.2.2 hret.1
      · exact W.zret hx hb (hr.trans h1) (by rcases h2 with rfl | rfl <;> rfl) hq hS'.2.2 hret.1
    | long x => exact W.lret hx hb (hr.trans hret.2) hq hS'.2.2 hret.1
    | ref a => exact W.aret hx hb (hr.trans hret.2) (Or.inl ⟨_, rfl⟩) (Or.inr ⟨_, rfl⟩) hq hS'.2.2 hret.1
    | null => exact W.aret hx hb (hr.trans hret.2) (Or.inl ⟨_, rfl⟩) (Or.inl rfl) hq hS'.2.2 hret.1
    | _ => exact hret.elim
/-- behind a call -/
theorem after_call {h h' : Hp} {H : Heap} {locs : List Loc} {cells slots mc ms pc : Nat} {ls : Array Slot} {st0 rest : List Value} {v : Option Value} {a : Array Value} {Q : State → Prop} (hbs : base ≤ s.heap.size)
    (hr : va_Run p l e R s m args below meth c H locs cells slots mc ms (F0 m pc ls st0) rest (MQc D cA b base v h' a) (fun q => base ≤ q)) (hY : Dy s D cA b base n0 h H locs cells slots) (hsc : h'.2.2.2.2 = h.2.2.2.2) (hmc : mc + hn h = hn h') (hms : ms + slT (hn h) = slT (hn h'))
    (kk : ∀ H1 locs1, Dy s D cA b base n0 h' H1 locs1 (cells + mc) (slots + ms) → W p l e R s m args below meth c H1 locs1 (cells + mc) (slots + ms) Q (F0 m (pc + 3) ls ((v.map (tr b base)).toList ++ rest))) : W p l e R s m args below meth c H locs cells slots Q (F0 m pc ls st0) := by
  intro T hT X
  obtain ⟨w, st₀, t, T', L, h0, X', hL, e1, e2, ⟨hv, hWd, hF1, hF2⟩, st⟩ := hr T hT X
  cases hv
  obtain ⟨hW, hS, hc1, hc2, hX0⟩ := hY
  rw [h0] at hF1 hF2
  obtain ⟨t2, a1, b1⟩ := kk T'.heap (locs ++ L) ⟨by rw [e1]; exact hWd, ⟨Nat.le_trans hS.1 (by rw [e1]; exact hF1), fun q h1 h2 => by rw [e1, hF2 q (Nat.lt_of_lt_of_le h1 hS.1) h2]; exact hS.2.1 q h1 h2, fun q hq => by
      rcases List.mem_append.mp hq with h | h
      · exact hS.2.2 q h
      · exact hL q h⟩, by omega, by omega, by show va_X b h'.2.2.2.2.1 h'.2.2.2.2.2 s s.heap; rw [hsc]; exact hX0⟩ T' rfl X'
  exact ⟨t2, st t2 a1, b1⟩
theorem MPc_blind {as : List Value} {h : Hp} : FrameBlind (MPc D cA b base as h) := fun a U g mk q => by
  obtain ⟨q0, q1, q2, q3, q4, q5⟩ := q
  exact ⟨q0, q1, ⟨fun x hx => va_Nw.same rfl (u := U) rfl (q2.1 x hx), q2.2⟩, va_K.moved (u := U) (U := U.calling g mk a) (Vm.Alike.refl U.vm) q3, va_X.moved (u := U) (U := U.calling g mk a) (Vm.Alike.refl U.vm) q4, q5⟩
theorem NW_warm {s U : State} (hW : s.WarmedH U.vm) (h : NW s) : NW U := ⟨fun x hx => va_Nw.warmM hW (h.1 x hx), va_AO.moved hW.alike h.2⟩
theorem MPc_at {as : List Value} {h : Hp} {H : Heap} {locs : List Loc} {cells slots : Nat} (C : Ctx p R s m args meth c D cA b base n0 n1 y) (hY : Dy s D cA b base n0 h H locs cells slots) : ∀ U : State, U.heap = H → s.WarmedH U.vm → MPc D cA b base as h (as.map (tr b base)).toArray U := by
  intro U hU hW
  obtain ⟨hx, hb, hml, hown, hts, hNW, hK, hini, hyn, hbb, hbs, hrc, hrs⟩ := C
  obtain ⟨hWd, hS, hc1, hc2, hX0⟩ := hY
  exact ⟨rfl, by rw [hU]; exact hWd, NW_warm hW hNW, va_K.moved hW.alike hK, by rw [hU]; exact (hX0.kept (hS.2.1 b (Nat.lt_of_lt_of_le hbb hbs) (Nat.not_le.mpr hbb))).moved hW.alike, hbb⟩
end SIM2
