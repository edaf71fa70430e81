theorem ofI_eq {x : Int32} {n : Int} (h1 : -2147483648 ≤ n) (h2 : n < 2147483648) : x = Int32.ofInt n ↔ n = x.toInt := by
  rw [← Int32.toInt_inj, Int32.toInt_ofInt_of_le (by omega) (by omega)]
  exact eq_comm
theorem swA_c {q : Int × Nat} {cs : List (Int × Nat)} (h : swA (q :: cs) = true) : (-2147483648 ≤ q.1 ∧ q.1 < 2147483648) ∧ swA cs = true := by
  simp [swA] at h ⊢
  exact ⟨h.1, h.2⟩
theorem swk_out {x : Int32} {t : Nat} : ∀ cs : List (Int × Nat), swA cs = true → (∀ q ∈ cs, q.1 ≠ x.toInt) → swk x t cs = t
  | [], _, _ => rfl
  | q :: cs, h, ho => by
    obtain ⟨⟨h1, h2⟩, h3⟩ := swA_c h
    unfold swk
    rw [if_neg (fun z => ho q List.mem_cons_self ((ofI_eq h1 h2).mp z))]
    exact swk_out cs h3 (fun q hq => ho q (List.mem_cons_of_mem _ hq))
theorem sw_out {x : Int32} {t : Nat} {lo hi : Int} {offs : Array Int} {f : Int → Nat} (h : swA (offs.toList.zipIdx.map (fun q => (lo + (q.2 : Int), f q.1))) = true) (hh : hi = lo + offs.size - 1) (hx : x.toInt < lo ∨ hi < x.toInt) : swk x t (offs.toList.zipIdx.map (fun q => (lo + (q.2 : Int), f q.1))) = t := by
  refine swk_out _ h fun q hq => ?_
  obtain ⟨z, hz, rfl⟩ := List.mem_map.mp hq
  have := (List.mem_zipIdx hz).2.1
  simp at this ⊢
  omega
theorem sw_mid {x : Int32} {t : Nat} {lo : Int} {f : Int → Nat} : ∀ (l : List Int) (j : Nat) (i : Nat), swA ((l.zipIdx j).map (fun q => (lo + (q.2 : Int), f q.1))) = true → x.toInt = lo + (j + i : Nat) → i < l.length → ∃ off, l[i]? = some off ∧ swk x t ((l.zipIdx j).map (fun q => (lo + (q.2 : Int), f q.1))) = f off
  | [], _, i, _, _, h => by simp at h
  | a :: l, j, i, h, hx, hl => by
    obtain ⟨⟨h1, h2⟩, h3⟩ := swA_c h
    cases i with
    | zero =>
      refine ⟨a, rfl, ?_⟩
      show (if x = Int32.ofInt (lo + (j : Int)) then f a else _) = f a
      rw [if_pos ((ofI_eq h1 h2).mpr (by show lo + (j : Int) = _; omega))]
    | succ i =>
      obtain ⟨off, e1, e2⟩ := sw_mid (x := x) (t := t) (lo := lo) (f := f) l (j + 1) i h3 (by omega) (by simp at hl; omega)
      refine ⟨off, by simpa using e1, ?_⟩
      show (if x = Int32.ofInt (lo + (j : Int)) then f a else swk x t ((l.zipIdx (j + 1)).map (fun q => (lo + (q.2 : Int), f q.1)))) = f off
      rw [if_neg (fun z => absurd ((ofI_eq h1 h2).mp z) (by show ¬ lo + (j : Int) = _; omega)), e2]
theorem sw_in {x : Int32} {t : Nat} {lo hi : Int} {offs : Array Int} {f : Int → Nat} (h : swA (offs.toList.zipIdx.map (fun q => (lo + (q.2 : Int), f q.1))) = true) (hh : hi = lo + offs.size - 1) (h1 : ¬ x.toInt < lo) (h2 : ¬ hi < x.toInt) : ∃ off, offs[(x.toInt - lo).toNat]? = some off ∧ swk x t (offs.toList.zipIdx.map (fun q => (lo + (q.2 : Int), f q.1))) = f off := by
  obtain ⟨off, e1, e2⟩ := sw_mid (x := x) (t := t) (lo := lo) (f := f) offs.toList 0 (x.toInt - lo).toNat h (by omega) (by simp; omega)
  exact ⟨off, by simpa using e1, e2⟩
theorem lk_sw {x : Int32} {pc : Nat} {d : Int} : ∀ {ps : List (Int × Int)}, decide (0 ≤ (pc : Int) + d) = true → ps.all (fun q => decide (0 ≤ (pc : Int) + q.2)) = true → swA (ps.map (fun q => (q.1, ((pc : Int) + q.2).toNat))) = true → (pc : Int) + Op.lookupswitch.offset ps d x.toInt = ((swk x ((pc : Int) + d).toNat (ps.map (fun q => (q.1, ((pc : Int) + q.2).toNat))) : Nat) : Int)
  | [], hd, _, _ => tgt_ok hd
  | q :: ps, hd, hp, hs => by
    obtain ⟨⟨h1, h2⟩, h3⟩ := swA_c hs
    obtain ⟨a, o⟩ := q
    simp only [List.all_cons, Bool.and_eq_true] at hp
    rw [Op.lookupswitch.offset_cons]
    show _ = (((if x = Int32.ofInt a then ((pc : Int) + o).toNat else swk x ((pc : Int) + d).toNat (ps.map (fun q => (q.1, ((pc : Int) + q.2).toNat)))) : Nat) : Int)
    by_cases hx : a = x.toInt
    · rw [if_pos hx, if_pos ((ofI_eq h1 h2).mpr hx)]
      exact tgt_ok hp.1
    · rw [if_neg hx, if_neg (fun z => hx ((ofI_eq h1 h2).mp z))]
      exact lk_sw hd hp.2 h3
theorem i8_ok {n : Int} (h : i8 n = true) : (Int8.ofInt n).toInt32 = Int32.ofInt n := by
  simp [i8] at h
  apply Int32.toInt_inj.mp
  rw [Int8.toInt_toInt32, Int8.toInt_ofInt_of_le (by omega) (by omega), Int32.toInt_ofInt_of_le (by omega) (by omega)]
theorem i16_ok {n : Int} (h : i16 n = true) : (Int16.ofInt n).toInt32 = Int32.ofInt n := by
  simp [i16] at h
  apply Int32.toInt_inj.mp
  rw [Int16.toInt_toInt32, Int16.toInt_ofInt_of_le (by omega) (by omega), Int32.toInt_ofInt_of_le (by omega) (by omega)]
theorem fK_ref : ∀ ci, ci < 13 → ∀ k, k < kN ci → fty ci k = 3 → (kY ci k).isReference = true := by decide +kernel
theorem nar_refT {t : FieldType} (a : Nat) (h : t.isReference = true) : narrow t (.ref a) = .ref a := by cases t <;> first | rfl | (cases h)
theorem fit_refT {t : FieldType} (a : Nat) (h : t.isReference = true) : fits t (.ref a) = true := by cases t <;> first | rfl | (cases h)
theorem def_refT {t : FieldType} (h : t.isReference = true) : defaultValue t = .null := by cases t <;> first | rfl | (cases h)
theorem def_ref {b base : Nat} (ci : Nat) (hci : ci < 13) (j : Nat) (hj : j < kN ci) (ht : fty ci j = 3) : defaultValue (kY ci j) = tr b base (rv none) := def_refT (fK_ref ci hci j hj ht)
theorem cat_tr (b base : Nat) (st : List Value) : ((st.map (tr b base)).map fun v => v.category).sum = cat st := by
  unfold cat
  rw [List.map_map]
  congr 1
  apply List.map_congr_left
  intro v _
  exact tr_cat b base v
theorem no_80 (z np c : Nat) (L : Lc) (st : List Value) (h : Hp) (pc' : Nat) (L' : Lc) (r : List Value × Hp) : ¬ act (80, z, np, c, 0, []) L st h = some (.inl (pc', L', r)) := by
  intro ha
  have ha : (match (st.take c).reverse with | .ref o :: as => gd (ob h o (ocY z) ∧ cat (st.drop c) ≤ 8 ∧ c ≤ st.length) (some (.inr (.inl (z, np, .ref o :: as, st.drop c)))) | _ => none) = some (Sum.inl (pc', L', r)) := ha
  split at ha
  · have := (gd_inv ha).2
    cases this
  · cases ha
theorem no_81 (z np c : Nat) (L : Lc) (st : List Value) (h : Hp) (pc' : Nat) (L' : Lc) (r : List Value × Hp) : ¬ act (81, z, np, c, 0, []) L st h = some (.inl (pc', L', r)) := by
  intro ha
  have := (gd_inv (show gd (cat (st.drop c) ≤ 8 ∧ c ≤ st.length) (some (.inr (.inl (z, np, (st.take c).reverse, st.drop c)))) = some (Sum.inl (pc', L', r)) from ha)).2
  cases this
theorem no_82 (z np c : Nat) (L : Lc) (st : List Value) (h : Hp) (pc' : Nat) (L' : Lc) (r : List Value × Hp) : ¬ act (82, z, np, c, 0, []) L st h = some (.inl (pc', L', r)) := by
  intro ha
  have ha : (match (st.take c).reverse with | .ref o :: as => gd (cat (st.drop c) ≤ 8 ∧ c ≤ st.length) (some (.inr (.inl (z, np, .ref o :: as, st.drop c)))) | _ => none) = some (Sum.inl (pc', L', r)) := ha
  split at ha
  · have := (gd_inv ha).2
    cases this
  · cases ha
theorem no_ret (n : Nat) (hn : n = 90 ∨ n = 91 ∨ n = 92 ∨ n = 93 ∨ n = 94) (L : Lc) (st : List Value) (h : Hp) (pc' : Nat) (r : Lc × List Value × Hp) : ¬ act (n, 0, 0, 0, 0, []) L st h = some (.inl (pc', r)) := by
  intro ha
  rcases hn with rfl | rfl | rfl | rfl | rfl
  · have ha : (match st with | [.int v] => (some (Sum.inr (Sum.inr (some (.int v)))) : Act) | _ => none) = some (Sum.inl (pc', r)) := ha
    split at ha <;> cases ha
  · have ha : (match st with | [.int v] => gd (v = 0 ∨ v = 1) (some (Sum.inr (Sum.inr (some (.int v))))) | _ => none) = some (Sum.inl (pc', r)) := ha
    split at ha
    · have := (gd_inv ha).2
      cases this
    · cases ha
  · have ha : (match st with | [.long v] => (some (Sum.inr (Sum.inr (some (.long v)))) : Act) | _ => none) = some (Sum.inl (pc', r)) := ha
    split at ha <;> cases ha
  · have ha : (match st with | [.ref v] => (some (Sum.inr (Sum.inr (some (.ref v)))) : Act) | [.null] => some (Sum.inr (Sum.inr (some .null))) | _ => none) = some (Sum.inl (pc', r)) := ha
    split at ha <;> cases ha
  · have ha : (match st with | [] => (some (Sum.inr (Sum.inr none)) : Act) | _ => none) = some (Sum.inl (pc', r)) := ha
    split at ha <;> cases ha
section SIM
variable {p : Program} {l : Launch} {e : Env} {R : Room} {s : State} {m : MethodId} {args : Array Value} {below : List Frame} {meth : Method} {c : Code} {D : va_G} {cA : Nat → ClassId} {b base n0 n1 y : Nat}
theorem fval_i {h : Hp} {o ci k : Nat} (hf : fty ci k = 0 ∨ fty ci k = 1) : fval b base h o ci k = .int (gi h o k) := by
  unfold fval
  rcases hf with hf | hf <;> rw [hf] <;> rfl
theorem fval_l {h : Hp} {o ci k : Nat} (hf : fty ci k = 2) : fval b base h o ci k = .long (gl h o k) := by
  unfold fval; rw [hf]; rfl
theorem fval_r {h : Hp} {o ci k : Nat} (hf : fty ci k = 3) : fval b base h o ci k = tr b base (rv (gr h o k)) := by
  unfold fval; rw [hf]; exact rv_tr _
theorem entc_congr {h h' : Hp} {o : Nat} (h1 : gi h' o = gi h o) (h2 : gl h' o = gl h o) (h3 : gr h' o = gr h o) : entc cA b base h' o = entc cA b base h o := by
  unfold entc fvals fval
  rw [h1, h2, h3]
theorem up_ne {α : Type} {f : Nat → α} {k j : Nat} {v : α} (h : j ≠ k) : up f k v j = f j := by unfold up; rw [if_neg h]
theorem up_eq {α : Type} {f : Nat → α} {k : Nat} {v : α} : up f k v k = v := by unfold up; rw [if_pos rfl]
theorem fvals_set {h h' : Hp} {o ci k : Nat} {v : Value} (hk : k < kN ci) (hv : fval b base h' o ci k = v) (ho : ∀ j, j ≠ k → fval b base h' o ci j = fval b base h o ci j) : fvals b base h' o ci = (fvals b base h o ci).set k v := by
  apply List.ext_getElem?
  intro j
  by_cases hj : j = k
  · subst hj
    rw [List.getElem?_set_self (by simp [fvals]; exact hk)]
    simp [fvals, hk, hv]
  · rw [List.getElem?_set_ne (fun z => hj z.symm)]
    unfold fvals
    rw [List.getElem?_map, List.getElem?_map]
    cases hr : (List.range (kN ci))[j]? with
    | none => rfl
    | some x =>
      have : x = j := by
        rw [List.getElem?_eq_some_iff] at hr
        obtain ⟨_, hr⟩ := hr
        simp at hr
        exact hr.symm
      subst this
      simp [ho x hj]
/-- the heap behind a store into a cell -/
theorem Wd.store {h h' : Hp} {H H1 : Heap} {o : Nat} (hW : Wd D cA b base h H) (ho : o < hn h) (z : H1.size = H.size) (oq : ∀ q, q ≠ base + o → H1[q]? = H[q]?) (en : hn h' = hn h) (e2 : ∀ o', o' ≠ o → entc cA b base h' o' = entc cA b base h o') (e3 : va_at D classes (base + o, entc cA b base h' o) H1) : Wd D cA b base h' H1 := by
  refine ⟨by rw [z, en]; exact hW.1, fun o' ho' => ?_⟩
  rw [en] at ho'
  by_cases hq : o' = o
  · subst hq; exact e3
  · rw [e2 o' hq]
    exact (hW.2 o' ho').kept (oq (base + o') (by omega))
/-- the heap behind a new cell -/
theorem Wd.grow {h h' : Hp} {H H1 : Heap} (hW : Wd D cA b base h H) (z : H1.size = H.size + 1) (oq : ∀ q, q < H.size → H1[q]? = H[q]?) (en : hn h' = hn h + 1) (e2 : ∀ o', o' ≠ hn h → entc cA b base h' o' = entc cA b base h o') (e3 : va_at D classes (base + hn h, entc cA b base h' (hn h)) H1) : Wd D cA b base h' H1 := by
  refine ⟨by rw [z, en, hW.1]; omega, fun o' ho' => ?_⟩
  rw [en] at ho'
  by_cases hq : o' = hn h
  · subst hq; exact e3
  · rw [e2 o' hq]
    exact (hW.2 o' (by omega)).kept (oq (base + o') (by rw [hW.1]; omega))
theorem va_S.new {A : Nat → Prop} {H0 H H1 : Heap} {locs : List Loc} (h : va_S A H0 H locs) (z : H1.size = H.size + 1) (oq : ∀ q, q < H.size → H1[q]? = H[q]?) : va_S A H0 H1 locs :=
  ⟨by have := h.1; omega, fun q h1 h2 => (oq q (by have := h.1; omega)).trans (h.2.1 q h1 h2), h.2.2⟩
theorem si_e2 {h : Hp} {o k : Nat} {v : Int32} {o' : Nat} (ho : o' ≠ o) : entc cA b base (si h o k v) o' = entc cA b base h o' := entc_congr (up_ne ho) rfl rfl
theorem sl_e2 {h : Hp} {o k : Nat} {v : Int64} {o' : Nat} (ho : o' ≠ o) : entc cA b base (sl h o k v) o' = entc cA b base h o' := entc_congr rfl (up_ne ho) rfl
theorem sr_e2 {h : Hp} {o k : Nat} {v : Option Nat} {o' : Nat} (ho : o' ≠ o) : entc cA b base (sr h o k v) o' = entc cA b base h o' := entc_congr rfl rfl (up_ne ho)
theorem ha_e2 {h : Hp} {o' : Nat} (ho : o' ≠ hn h) : entc cA b base (hnew h) o' = entc cA b base h o' := entc_congr (up_ne ho) (up_ne ho) (up_ne ho)
theorem slT_mono : ∀ {a b : Nat}, a ≤ b → slT a ≤ slT b := by
  intro a b h
  induction h with
  | refl => exact Nat.le_refl _
  | step _ ih => exact Nat.le_trans ih (Nat.le_add_right _ _)
/-- a store into a field -/
theorem r_put {h h' : Hp} {H : Heap} {locs : List Loc} {cells slots : Nat} {Q : State → Prop} {pc i ci k o : Nat} {ls : Array Slot} {st : List Value} {v : Value} (C : Ctx p R s m args meth c D cA b base n0 n1 y) (hY : Dy s D cA b base n0 h H locs cells slots) (hq : (ocY y, i, ci, k) ∈ flT) (hob : ob h o ci)
    (hfin : (kT ci k).2.2.2 = false ∨ (vkY y = 2 ∧ (kT ci k).1 = kC (ocY y))) (hnar : narrow (kY ci k) v = v) (hfit : fits (kY ci k) v = true) (en : hn h' = hn h) (ex : h'.2.2.2.2 = h.2.2.2.2) (e2 : ∀ o', o' ≠ o → entc cA b base h' o' = entc cA b base h o') (e3 : fvals b base h' o ci = (fvals b base h o ci).set k v)
    (hd : decode (byY y) pc = .ok (.putfield i, 3)) (kk : ∀ H1 locs1, Dy s D cA b base n0 h' H1 locs1 cells slots → W p l e R s m args below meth c H1 locs1 cells slots Q (F0 m (pc + 3) ls st)) : W p l e R s m args below meth c H locs cells slots Q (F0 m pc ls (v :: .ref (base + o) :: st)) := by
  obtain ⟨hx, hb, hml, hown, hts, hNW, hK, hini, hyn, hbb, hbs, hrc, hrs⟩ := C
  obtain ⟨hW, hS, hc1, hc2, hX0⟩ := hY
  obtain ⟨hci, hk⟩ := fC_fl _ hq
  have hlink := hts _ (gW_fl hq)
  have hP := hW.one hob.1 (ent_ob (cA := cA) (b := b) (base := base) hob)
  have hcl := cl_at ci hci
  have hap := va_apart (own := kC (ocY y)) hts (gW_lay ci hci) (kY ci) (fC_ty ci hci) (fC_nm ci hci) hK hcl
  obtain ⟨r, h1, cell, q1, q2, q3, q4⟩ := hP 0 _ rfl
  have hr : r = (kC ci, kT ci, kN ci) := Option.some.inj (h1.symm.trans hcl)
  subst hr
  obtain ⟨hS1, hfc, kCl, hkC, hkind⟩ := hK.1 ci _ hcl
  obtain ⟨cf, kf, fi, f, hi, hsl⟩ := hS1 k hk
  have hlay := hts _ (gW_lay ci hci _ (u_in_lay hk))
  have hst := (u_facts hfc hkC (u_lays hts (gW_lay ci hci) hk) hi).1
  have hlen : k < (fvals b base h o ci).length := by simp [fvals]; exact hk
  have fin : ∀ H' : Heap, H'[base + o]? = some (cell.setSlot f.slot v) → H'.size = H.size → (∀ q, q ≠ base + o → H'[q]? = H[q]?) → W p l e R s m args below meth c H' (locs ++ [⟨base + o, f.slot⟩]) cells slots Q (F0 m (pc + 3) ls st) := by
    intro H' e1 z oq
    rw [hsl] at e1 ⊢
    refine kk H' _ ⟨hW.store hob.1 z oq en e2 ?_, hS.put z oq (by show base ≤ base + o; omega), by rw [en]; exact hc1, by rw [en]; exact hc2, by unfold hL hX; rw [ex]; exact hX0⟩
    rw [ent_ob (h := h') ⟨by rw [en]; exact hob.1, hob.2⟩, e3]
    exact ⟨_, hcl, t_OB.to (V := updV (vp_V (fvals b base h o ci)) k v) ⟨_, e1, q2, q3, t_set q4 hap hk v⟩ (fun j _ => vp_updV_set hlen v j)⟩
  rcases hfin with hfin | ⟨hv2, hdec⟩
  · unfold u_lay at hlay
    rw [if_neg (by rw [hfin]; decide)] at hlay
    have h6 := u_store hfc hkC hkind hlay hi (fC_ty ci hci k hk) hnar hfit
    exact W.putK hx hb (f := f) ⟨hown, hlink, ⟨_, _, _, hi⟩, hst⟩ (by rw [q2]; exact h6) q1 q3 (by rw [hsl]; exact k2_hasslot (q4 k hk)) rfl rfl hd fin
  · by_cases hff : (kT ci k).2.2.2 = true
    · unfold u_lay at hlay
      rw [if_pos hff] at hlay
      have hcf : m.cls = cf := by
        obtain ⟨_, _, c', _, _, _, -, -, hf', -, -, -, hown2, -⟩ := Cond.laysFinal_spec hlay
        have e1 : c' = cf := by have := hi.symm.trans hf'; simp at this; exact this.1.symm
        rw [hdec] at hown2
        rw [← e1]; exact Option.some.inj (hown.symm.trans hown2)
      have h6 := u_fits hfc hkC hkind (Or.inr hlay) hi (fC_ty ci hci k hk) hnar hfit
      exact W.putFinK hx hb hown hlink hi hst hcf (hini hv2) (by rw [q2]; exact h6) q1 q3 (by rw [hsl]; exact k2_hasslot (q4 k hk)) rfl rfl hd fin
    · unfold u_lay at hlay
      rw [if_neg hff] at hlay
      have h6 := u_store hfc hkC hkind hlay hi (fC_ty ci hci k hk) hnar hfit
      exact W.putK hx hb (f := f) ⟨hown, hlink, ⟨_, _, _, hi⟩, hst⟩ (by rw [q2]; exact h6) q1 q3 (by rw [hsl]; exact k2_hasslot (q4 k hk)) rfl rfl hd fin
theorem ent_1 {h : Hp} {o : Nat} (ho : ar h 1 o) : entc cA b base h o = .inl (cA 0, (SH o).2, .inl (gi h o)) := by
  unfold entc
  have := ho.2
  split <;> simp_all
theorem ent_2 {h : Hp} {o : Nat} (ho : ar h 2 o) : entc cA b base h o = .inl (cA 1, (SH o).2, .inr (.inl (gl h o))) := by
  unfold entc
  have := ho.2
  split <;> simp_all
theorem ent_3 {h : Hp} {o : Nat} (ho : ar h 3 o) : entc cA b base h o = .inl (cA 2, (SH o).2, .inr (.inr (.inr (.inr (fun k => (gr h o k).map (adr b base)))))) := by
  unfold entc
  have := ho.2
  split <;> simp_all
theorem inb_vp {i : Int32} {n : Nat} (h : inb i n) : vp_in i n := fun z => z.elim h.1 (fun q => Nat.not_le.mpr h.2 q)

/-- one word that is neither a call nor an end -/
def StepOK (p : Program) (l : Launch) (e : Env) (R : Room) (s : State) (m : MethodId) (args : Array Value) (below : List Frame) (meth : Method) (c : Code) (D : va_G) (cA : Nat → ClassId) (b base n0 n1 y : Nat) (ins : Instr) : Prop :=
  ∀ (pc len pc' : Nat) (op : Op) (L L' : Lc) (st st' : List Value) (h h' : Hp) (H : Heap) (locs : List Loc) (cells slots : Nat) (ls : Array Slot) (Q : State → Prop), Ctx p R s m args meth c D cA b base n0 n1 y → 1 ≤ R.frames → 64 ≤ R.locals → decode (byY y) pc = .ok (ins, len) → den y pc ins len = some op → act op L st h = some (.inl (pc', L', st', h')) →
    Dy s D cA b base n0 h H locs cells slots → lv_has ls L.length (lvL b base 0 L) → L.length = mxY y → hn h' ≤ n1 →
    (∀ H' locs' cells' slots' ls', Dy s D cA b base n0 h' H' locs' cells' slots' → lv_has ls' L'.length (lvL b base 0 L') → L'.length = mxY y → W p l e R s m args below meth c H' locs' cells' slots' Q (F0 m pc' ls' (st'.map (tr b base)))) →
    W p l e R s m args below meth c H locs cells slots Q (F0 m pc ls (st.map (tr b base)))
theorem S_iload_n (i : Fin 4) : StepOK p l e R s m args below meth c D cA b base n0 n1 y (.iload_n i) := by
  intro pc len pc' op L L' st st' h h' H locs cells slots ls Q C hfr hlo hd hden ha hY hl hLn hle k
  have C' := C
  have hY' := hY
  obtain ⟨hx, hb, hml, hown, hts, hNW, hK, hini, hyn, hbb, hbs, hrc, hrs⟩ := C
  obtain ⟨hW, hS, hc1, hc2, hX0⟩ := hY
  obtain ⟨rfl, rfl⟩ := one_inv hden
  have ha : (match lk L i.val with | some (.int x) => nx (pc + 1) L (.int x :: st) h | _ => none) = some (.inl (pc', L', st', h')) := ha
  split at ha
  · rename_i x hx0
    obtain ⟨rfl, rfl, rfl, rfl⟩ := nx_inv ha
    exact lv_iload_n hx hb hd rfl (lv_get hl hx0) (k H locs cells slots ls hY' hl hLn)
  · cases ha
theorem S_iload (i : Nat) : StepOK p l e R s m args below meth c D cA b base n0 n1 y (.iload i) := by
  intro pc len pc' op L L' st st' h h' H locs cells slots ls Q C hfr hlo hd hden ha hY hl hLn hle k
  have C' := C
  have hY' := hY
  obtain ⟨hx, hb, hml, hown, hts, hNW, hK, hini, hyn, hbb, hbs, hrc, hrs⟩ := C
  obtain ⟨hW, hS, hc1, hc2, hX0⟩ := hY
  obtain ⟨rfl, rfl⟩ := one_inv hden
  have ha : (match lk L i with | some (.int x) => nx (pc + 2) L (.int x :: st) h | _ => none) = some (.inl (pc', L', st', h')) := ha
  split at ha
  · rename_i x hx0
    obtain ⟨rfl, rfl, rfl, rfl⟩ := nx_inv ha
    exact lv_iload hx hb hd (lv_get hl hx0) (k H locs cells slots ls hY' hl hLn)
  · cases ha
theorem S_lload_n (i : Fin 4) : StepOK p l e R s m args below meth c D cA b base n0 n1 y (.lload_n i) := by
  intro pc len pc' op L L' st st' h h' H locs cells slots ls Q C hfr hlo hd hden ha hY hl hLn hle k
  have C' := C
  have hY' := hY
  obtain ⟨hx, hb, hml, hown, hts, hNW, hK, hini, hyn, hbb, hbs, hrc, hrs⟩ := C
  obtain ⟨hW, hS, hc1, hc2, hX0⟩ := hY
  obtain ⟨rfl, rfl⟩ := one_inv hden
  have ha : (match lk L i.val with | some (.long x) => nx (pc + 1) L (.long x :: st) h | _ => none) = some (.inl (pc', L', st', h')) := ha
  split at ha
  · rename_i x hx0
    obtain ⟨rfl, rfl, rfl, rfl⟩ := nx_inv ha
    exact lv_lload_n hx hb hd rfl (lv_get hl hx0) (k H locs cells slots ls hY' hl hLn)
  · cases ha
theorem S_lload (i : Nat) : StepOK p l e R s m args below meth c D cA b base n0 n1 y (.lload i) := by
  intro pc len pc' op L L' st st' h h' H locs cells slots ls Q C hfr hlo hd hden ha hY hl hLn hle k
  have C' := C
  have hY' := hY
  obtain ⟨hx, hb, hml, hown, hts, hNW, hK, hini, hyn, hbb, hbs, hrc, hrs⟩ := C
  obtain ⟨hW, hS, hc1, hc2, hX0⟩ := hY
  obtain ⟨rfl, rfl⟩ := one_inv hden
  have ha : (match lk L i with | some (.long x) => nx (pc + 2) L (.long x :: st) h | _ => none) = some (.inl (pc', L', st', h')) := ha
  split at ha
  · rename_i x hx0
    obtain ⟨rfl, rfl, rfl, rfl⟩ := nx_inv ha
    exact lv_lload hx hb hd (lv_get hl hx0) (k H locs cells slots ls hY' hl hLn)
  · cases ha
theorem S_aload_n (i : Fin 4) : StepOK p l e R s m args below meth c D cA b base n0 n1 y (.aload_n i) := by
  intro pc len pc' op L L' st st' h h' H locs cells slots ls Q C hfr hlo hd hden ha hY hl hLn hle k
  have C' := C
  have hY' := hY
  obtain ⟨hx, hb, hml, hown, hts, hNW, hK, hini, hyn, hbb, hbs, hrc, hrs⟩ := C
  obtain ⟨hW, hS, hc1, hc2, hX0⟩ := hY
  obtain ⟨rfl, rfl⟩ := one_inv hden
  have ha : (match lk L i.val with | some (.ref x) => nx (pc + 1) L (.ref x :: st) h | _ => none) = some (.inl (pc', L', st', h')) := ha
  split at ha
  · rename_i x hx0
    obtain ⟨rfl, rfl, rfl, rfl⟩ := nx_inv ha
    exact lv_aload_n hx hb hd rfl (lv_get hl hx0) (k H locs cells slots ls hY' hl hLn)
  · cases ha
theorem S_aload (i : Nat) : StepOK p l e R s m args below meth c D cA b base n0 n1 y (.aload i) := by
  intro pc len pc' op L L' st st' h h' H locs cells slots ls Q C hfr hlo hd hden ha hY hl hLn hle k
  have C' := C
  have hY' := hY
  obtain ⟨hx, hb, hml, hown, hts, hNW, hK, hini, hyn, hbb, hbs, hrc, hrs⟩ := C
  obtain ⟨hW, hS, hc1, hc2, hX0⟩ := hY
  obtain ⟨rfl, rfl⟩ := one_inv hden
  have ha : (match lk L i with | some (.ref x) => nx (pc + 2) L (.ref x :: st) h | _ => none) = some (.inl (pc', L', st', h')) := ha
  split at ha
  · rename_i x hx0
    obtain ⟨rfl, rfl, rfl, rfl⟩ := nx_inv ha
    exact lv_aload hx hb hd (lv_get hl hx0) (k H locs cells slots ls hY' hl hLn)
  · cases ha
theorem S_istore_n (i : Fin 4) : StepOK p l e R s m args below meth c D cA b base n0 n1 y (.istore_n i) := by
  intro pc len pc' op L L' st st' h h' H locs cells slots ls Q C hfr hlo hd hden ha hY hl hLn hle k
  have C' := C
  have hY' := hY
  obtain ⟨hx, hb, hml, hown, hts, hNW, hK, hini, hyn, hbb, hbs, hrc, hrs⟩ := C
  obtain ⟨hW, hS, hc1, hc2, hX0⟩ := hY
  obtain ⟨rfl, rfl⟩ := one_inv hden
  rcases st with _ | ⟨w0, st⟩
  · exact absurd (show (none : Act) = _ from ha) (by simp)
  cases w0 with
  | int a1 =>
    have ha : gd (i.val < L.length) (nx (pc + 1) (st1 L i.val (.int a1)) st h) = some (.inl (pc', L', st', h')) := ha
    obtain ⟨hi, ha⟩ := gd_inv ha
    obtain ⟨rfl, rfl, rfl, rfl⟩ := nx_inv ha
    refine lv_istore_n hx hb hd rfl hl hi rfl (fun ls' hl' => ?_)
    exact k H locs cells slots ls' hY' (by rw [st1_len]; exact lv_st1 rfl hl') (by rw [st1_len]; exact hLn)
  | _ => exact absurd (show (none : Act) = _ from ha) (by simp)
theorem S_istore (i : Nat) : StepOK p l e R s m args below meth c D cA b base n0 n1 y (.istore i) := by
  intro pc len pc' op L L' st st' h h' H locs cells slots ls Q C hfr hlo hd hden ha hY hl hLn hle k
  have C' := C
  have hY' := hY
  obtain ⟨hx, hb, hml, hown, hts, hNW, hK, hini, hyn, hbb, hbs, hrc, hrs⟩ := C
  obtain ⟨hW, hS, hc1, hc2, hX0⟩ := hY
  obtain ⟨rfl, rfl⟩ := one_inv hden
  rcases st with _ | ⟨w0, st⟩
  · exact absurd (show (none : Act) = _ from ha) (by simp)
  cases w0 with
  | int a1 =>
    have ha : gd (i < L.length) (nx (pc + 2) (st1 L i (.int a1)) st h) = some (.inl (pc', L', st', h')) := ha
    obtain ⟨hi, ha⟩ := gd_inv ha
    obtain ⟨rfl, rfl, rfl, rfl⟩ := nx_inv ha
    refine lv_istore hx hb hd hl hi rfl (fun ls' hl' => ?_)
    exact k H locs cells slots ls' hY' (by rw [st1_len]; exact lv_st1 rfl hl') (by rw [st1_len]; exact hLn)
  | _ => exact absurd (show (none : Act) = _ from ha) (by simp)
theorem S_lstore_n (i : Fin 4) : StepOK p l e R s m args below meth c D cA b base n0 n1 y (.lstore_n i) := by
  intro pc len pc' op L L' st st' h h' H locs cells slots ls Q C hfr hlo hd hden ha hY hl hLn hle k
  have C' := C
  have hY' := hY
  obtain ⟨hx, hb, hml, hown, hts, hNW, hK, hini, hyn, hbb, hbs, hrc, hrs⟩ := C
  obtain ⟨hW, hS, hc1, hc2, hX0⟩ := hY
  obtain ⟨rfl, rfl⟩ := one_inv hden
  rcases st with _ | ⟨w0, st⟩
  · exact absurd (show (none : Act) = _ from ha) (by simp)
  cases w0 with
  | long a1 =>
    have ha : gd (i.val + 1 < L.length) (nx (pc + 1) (st2 L i.val (.long a1)) st h) = some (.inl (pc', L', st', h')) := ha
    obtain ⟨hi, ha⟩ := gd_inv ha
    obtain ⟨rfl, rfl, rfl, rfl⟩ := nx_inv ha
    refine lv_lstore_n hx hb hd rfl hl hi rfl (fun ls' hl' => ?_)
    exact k H locs cells slots ls' hY' (by rw [st2_len]; exact lv_st2 rfl hi hl') (by rw [st2_len]; exact hLn)
  | _ => exact absurd (show (none : Act) = _ from ha) (by simp)
theorem S_lstore (i : Nat) : StepOK p l e R s m args below meth c D cA b base n0 n1 y (.lstore i) := by
  intro pc len pc' op L L' st st' h h' H locs cells slots ls Q C hfr hlo hd hden ha hY hl hLn hle k
  have C' := C
  have hY' := hY
  obtain ⟨hx, hb, hml, hown, hts, hNW, hK, hini, hyn, hbb, hbs, hrc, hrs⟩ := C
  obtain ⟨hW, hS, hc1, hc2, hX0⟩ := hY
  obtain ⟨rfl, rfl⟩ := one_inv hden
  rcases st with _ | ⟨w0, st⟩
  · exact absurd (show (none : Act) = _ from ha) (by simp)
  cases w0 with
  | long a1 =>
    have ha : gd (i + 1 < L.length) (nx (pc + 2) (st2 L i (.long a1)) st h) = some (.inl (pc', L', st', h')) := ha
    obtain ⟨hi, ha⟩ := gd_inv ha
    obtain ⟨rfl, rfl, rfl, rfl⟩ := nx_inv ha
    refine lv_lstore hx hb hd hl hi rfl (fun ls' hl' => ?_)
    exact k H locs cells slots ls' hY' (by rw [st2_len]; exact lv_st2 rfl hi hl') (by rw [st2_len]; exact hLn)
  | _ => exact absurd (show (none : Act) = _ from ha) (by simp)
theorem S_astore_n (i : Fin 4) : StepOK p l e R s m args below meth c D cA b base n0 n1 y (.astore_n i) := by
  intro pc len pc' op L L' st st' h h' H locs cells slots ls Q C hfr hlo hd hden ha hY hl hLn hle k
  have C' := C
  have hY' := hY
  obtain ⟨hx, hb, hml, hown, hts, hNW, hK, hini, hyn, hbb, hbs, hrc, hrs⟩ := C
  obtain ⟨hW, hS, hc1, hc2, hX0⟩ := hY
  obtain ⟨rfl, rfl⟩ := one_inv hden
  rcases st with _ | ⟨w0, st⟩
  · exact absurd (show (none : Act) = _ from ha) (by simp)
  cases w0 with
  | ref a1 =>
    have ha : gd (i.val < L.length) (nx (pc + 1) (st1 L i.val (.ref a1)) st h) = some (.inl (pc', L', st', h')) := ha
    obtain ⟨hi, ha⟩ := gd_inv ha
    obtain ⟨rfl, rfl, rfl, rfl⟩ := nx_inv ha
    refine lv_astore_n hx hb hd rfl hl hi rfl (fun ls' hl' => ?_)
    exact k H locs cells slots ls' hY' (by rw [st1_len]; exact lv_st1 rfl hl') (by rw [st1_len]; exact hLn)
  | _ => exact absurd (show (none : Act) = _ from ha) (by simp)
theorem S_astore (i : Nat) : StepOK p l e R s m args below meth c D cA b base n0 n1 y (.astore i) := by
  intro pc len pc' op L L' st st' h h' H locs cells slots ls Q C hfr hlo hd hden ha hY hl hLn hle k
  have C' := C
  have hY' := hY
  obtain ⟨hx, hb, hml, hown, hts, hNW, hK, hini, hyn, hbb, hbs, hrc, hrs⟩ := C
  obtain ⟨hW, hS, hc1, hc2, hX0⟩ := hY
  obtain ⟨rfl, rfl⟩ := one_inv hden
  rcases st with _ | ⟨w0, st⟩
  · exact absurd (show (none : Act) = _ from ha) (by simp)
  cases w0 with
  | ref a1 =>
    have ha : gd (i < L.length) (nx (pc + 2) (st1 L i (.ref a1)) st h) = some (.inl (pc', L', st', h')) := ha
    obtain ⟨hi, ha⟩ := gd_inv ha
    obtain ⟨rfl, rfl, rfl, rfl⟩ := nx_inv ha
    refine lv_astore hx hb hd hl hi rfl (fun ls' hl' => ?_)
    exact k H locs cells slots ls' hY' (by rw [st1_len]; exact lv_st1 rfl hl') (by rw [st1_len]; exact hLn)
  | _ => exact absurd (show (none : Act) = _ from ha) (by simp)
theorem S_iconst (n : Int) : StepOK p l e R s m args below meth c D cA b base n0 n1 y (.iconst n) := by
  intro pc len pc' op L L' st st' h h' H locs cells slots ls Q C hfr hlo hd hden ha hY hl hLn hle k
  have C' := C
  have hY' := hY
  obtain ⟨hx, hb, hml, hown, hts, hNW, hK, hini, hyn, hbb, hbs, hrc, hrs⟩ := C
  obtain ⟨hW, hS, hc1, hc2, hX0⟩ := hY
  obtain ⟨-, hden⟩ := if_inv hden
  obtain ⟨rfl, rfl⟩ := one_inv hden
  obtain ⟨rfl, rfl, rfl, rfl⟩ := nx_inv (show nx (pc + 1) L (.int (Int32.ofInt n) :: st) h = _ from ha)
  exact lv_iconst hx hb hd rfl (k H locs cells slots ls hY' hl hLn)
theorem S_bipush (n : Int) : StepOK p l e R s m args below meth c D cA b base n0 n1 y (.bipush n) := by
  intro pc len pc' op L L' st st' h h' H locs cells slots ls Q C hfr hlo hd hden ha hY hl hLn hle k
  have C' := C
  have hY' := hY
  obtain ⟨hx, hb, hml, hown, hts, hNW, hK, hini, hyn, hbb, hbs, hrc, hrs⟩ := C
  obtain ⟨hW, hS, hc1, hc2, hX0⟩ := hY
  obtain ⟨hr, hden⟩ := if_inv hden
  obtain ⟨rfl, rfl⟩ := one_inv hden
  obtain ⟨rfl, rfl, rfl, rfl⟩ := nx_inv (show nx (pc + 2) L (.int (Int32.ofInt n) :: st) h = _ from ha)
  exact lv_bipush hx hb hd (i8_ok hr) (k H locs cells slots ls hY' hl hLn)
theorem S_sipush (n : Int) : StepOK p l e R s m args below meth c D cA b base n0 n1 y (.sipush n) := by
  intro pc len pc' op L L' st st' h h' H locs cells slots ls Q C hfr hlo hd hden ha hY hl hLn hle k
  have C' := C
  have hY' := hY
  obtain ⟨hx, hb, hml, hown, hts, hNW, hK, hini, hyn, hbb, hbs, hrc, hrs⟩ := C
  obtain ⟨hW, hS, hc1, hc2, hX0⟩ := hY
  obtain ⟨hr, hden⟩ := if_inv hden
  obtain ⟨rfl, rfl⟩ := one_inv hden
  obtain ⟨rfl, rfl, rfl, rfl⟩ := nx_inv (show nx (pc + 3) L (.int (Int32.ofInt n) :: st) h = _ from ha)
  exact lv_sipush hx hb hd (i16_ok hr) (k H locs cells slots ls hY' hl hLn)
theorem S_ldc (i : Nat) : StepOK p l e R s m args below meth c D cA b base n0 n1 y (.ldc i) := by
  intro pc len pc' op L L' st st' h h' H locs cells slots ls Q C hfr hlo hd hden ha hY hl hLn hle k
  have C' := C
  have hY' := hY
  obtain ⟨hx, hb, hml, hown, hts, hNW, hK, hini, hyn, hbb, hbs, hrc, hrs⟩ := C
  obtain ⟨hW, hS, hc1, hc2, hX0⟩ := hY
  obtain ⟨v, hv, hden⟩ := Option.bind_eq_some_iff.mp hden
  obtain ⟨rfl, rfl⟩ := one_inv hden
  obtain ⟨rfl, rfl, rfl, rfl⟩ := nx_inv (show nx (pc + 2) L (.int (Int32.ofInt v) :: st) h = _ from ha)
  exact lv_ldc hx hb hown (hts _ (gW_ki (find_inv hv))) hd (k H locs cells slots ls hY' hl hLn)
theorem S_ldc_w (i : Nat) : StepOK p l e R s m args below meth c D cA b base n0 n1 y (.ldc_w i) := by
  intro pc len pc' op L L' st st' h h' H locs cells slots ls Q C hfr hlo hd hden ha hY hl hLn hle k
  have C' := C
  have hY' := hY
  obtain ⟨hx, hb, hml, hown, hts, hNW, hK, hini, hyn, hbb, hbs, hrc, hrs⟩ := C
  obtain ⟨hW, hS, hc1, hc2, hX0⟩ := hY
  obtain ⟨v, hv, hden⟩ := Option.bind_eq_some_iff.mp hden
  obtain ⟨rfl, rfl⟩ := one_inv hden
  obtain ⟨rfl, rfl, rfl, rfl⟩ := nx_inv (show nx (pc + 3) L (.int (Int32.ofInt v) :: st) h = _ from ha)
  exact lv_ldcw hx hb hown (hts _ (gW_ki (find_inv hv))) hd (k H locs cells slots ls hY' hl hLn)
theorem S_lconst (n : Fin 2) : StepOK p l e R s m args below meth c D cA b base n0 n1 y (.lconst n) := by
  intro pc len pc' op L L' st st' h h' H locs cells slots ls Q C hfr hlo hd hden ha hY hl hLn hle k
  have C' := C
  have hY' := hY
  obtain ⟨hx, hb, hml, hown, hts, hNW, hK, hini, hyn, hbb, hbs, hrc, hrs⟩ := C
  obtain ⟨hW, hS, hc1, hc2, hX0⟩ := hY
  obtain ⟨rfl, rfl⟩ := one_inv hden
  obtain ⟨rfl, rfl, rfl, rfl⟩ := nx_inv (show nx (pc + 1) L (.long (Int64.ofInt (n.val : Int)) :: st) h = _ from ha)
  exact lv_lconst hx hb hd (by rfl) (k H locs cells slots ls hY' hl hLn)
theorem S_ldc2_w (i : Nat) : StepOK p l e R s m args below meth c D cA b base n0 n1 y (.ldc2_w i) := by
  intro pc len pc' op L L' st st' h h' H locs cells slots ls Q C hfr hlo hd hden ha hY hl hLn hle k
  have C' := C
  have hY' := hY
  obtain ⟨hx, hb, hml, hown, hts, hNW, hK, hini, hyn, hbb, hbs, hrc, hrs⟩ := C
  obtain ⟨hW, hS, hc1, hc2, hX0⟩ := hY
  obtain ⟨v, hv, hden⟩ := Option.bind_eq_some_iff.mp hden
  obtain ⟨rfl, rfl⟩ := one_inv hden
  obtain ⟨rfl, rfl, rfl, rfl⟩ := nx_inv (show nx (pc + 3) L (.long (Int64.ofInt v) :: st) h = _ from ha)
  exact lv_ldc2 hx hb hown (hts _ (gW_kl (find_inv hv))) hd (k H locs cells slots ls hY' hl hLn)
theorem S_aconst_null  : StepOK p l e R s m args below meth c D cA b base n0 n1 y (.aconst_null) := by
  intro pc len pc' op L L' st st' h h' H locs cells slots ls Q C hfr hlo hd hden ha hY hl hLn hle k
  have C' := C
  have hY' := hY
  obtain ⟨hx, hb, hml, hown, hts, hNW, hK, hini, hyn, hbb, hbs, hrc, hrs⟩ := C
  obtain ⟨hW, hS, hc1, hc2, hX0⟩ := hY
  obtain ⟨rfl, rfl⟩ := one_inv hden
  obtain ⟨rfl, rfl, rfl, rfl⟩ := nx_inv (show nx (pc + 1) L (.null :: st) h = _ from ha)
  exact lv_null hx hb hd (k H locs cells slots ls hY' hl hLn)
theorem S_iinc (i : Nat) (n : Int) : StepOK p l e R s m args below meth c D cA b base n0 n1 y (.iinc i n) := by
  intro pc len pc' op L L' st st' h h' H locs cells slots ls Q C hfr hlo hd hden ha hY hl hLn hle k
  have C' := C
  have hY' := hY
  obtain ⟨hx, hb, hml, hown, hts, hNW, hK, hini, hyn, hbb, hbs, hrc, hrs⟩ := C
  obtain ⟨hW, hS, hc1, hc2, hX0⟩ := hY
  obtain ⟨rfl, rfl⟩ := one_inv hden
  have ha : (match lk L i with | some (.int x) => nx (pc + 3) (st1 L i (.int (x + Int32.ofInt n))) st h | _ => none) = some (.inl (pc', L', st', h')) := ha
  split at ha
  · rename_i x hx0
    obtain ⟨rfl, rfl, rfl, rfl⟩ := nx_inv ha
    have hmem : (i, Value.int x) ∈ lvL b base 0 L := by have h9 := lvL_lk (b := b) (base := base) L 0 i _ hx0; rw [Nat.zero_add] at h9; exact h9
    obtain ⟨kk, hkk⟩ := List.getElem?_of_mem hmem
    have hi : i < L.length := by
      have := lv_lt (lv_get hl hx0)
      rw [hl.1] at this; exact this
    refine lv_iinc hx hb hd hl hkk rfl hi rfl (fun ls' hl' => ?_)
    exact k H locs cells slots ls' hY' (by rw [st1_len]; exact lv_st1 rfl hl') (by rw [st1_len]; exact hLn)
  · cases ha
theorem S_iadd  : StepOK p l e R s m args below meth c D cA b base n0 n1 y (.iadd) := by
  intro pc len pc' op L L' st st' h h' H locs cells slots ls Q C hfr hlo hd hden ha hY hl hLn hle k
  have C' := C
  have hY' := hY
  obtain ⟨hx, hb, hml, hown, hts, hNW, hK, hini, hyn, hbb, hbs, hrc, hrs⟩ := C
  obtain ⟨hW, hS, hc1, hc2, hX0⟩ := hY
  obtain ⟨rfl, rfl⟩ := one_inv hden
  rcases st with _ | ⟨w0, st⟩
  · exact absurd (show (none : Act) = _ from ha) (by simp)
  cases w0 with
  | int a1 =>
    rcases st with _ | ⟨w1, st⟩
    · exact absurd (show (none : Act) = _ from ha) (by simp)
    cases w1 with
    | int a2 =>
      obtain ⟨rfl, rfl, rfl, rfl⟩ := nx_inv (show nx (pc + 1) L (.int (a2 + a1) :: st) h = _ from ha)
      exact lv_iadd hx hb hd (k H locs cells slots ls hY' hl hLn)
    | _ => exact absurd (show (none : Act) = _ from ha) (by simp)
  | _ => exact absurd (show (none : Act) = _ from ha) (by simp)
theorem S_isub  : StepOK p l e R s m args below meth c D cA b base n0 n1 y (.isub) := by
  intro pc len pc' op L L' st st' h h' H locs cells slots ls Q C hfr hlo hd hden ha hY hl hLn hle k
  have C' := C
  have hY' := hY
  obtain ⟨hx, hb, hml, hown, hts, hNW, hK, hini, hyn, hbb, hbs, hrc, hrs⟩ := C
  obtain ⟨hW, hS, hc1, hc2, hX0⟩ := hY
  obtain ⟨rfl, rfl⟩ := one_inv hden
  rcases st with _ | ⟨w0, st⟩
  · exact absurd (show (none : Act) = _ from ha) (by simp)
  cases w0 with
  | int a1 =>
    rcases st with _ | ⟨w1, st⟩
    · exact absurd (show (none : Act) = _ from ha) (by simp)
    cases w1 with
    | int a2 =>
      obtain ⟨rfl, rfl, rfl, rfl⟩ := nx_inv (show nx (pc + 1) L (.int (a2 - a1) :: st) h = _ from ha)
      exact lv_isub hx hb hd (k H locs cells slots ls hY' hl hLn)
    | _ => exact absurd (show (none : Act) = _ from ha) (by simp)
  | _ => exact absurd (show (none : Act) = _ from ha) (by simp)
theorem S_imul  : StepOK p l e R s m args below meth c D cA b base n0 n1 y (.imul) := by
  intro pc len pc' op L L' st st' h h' H locs cells slots ls Q C hfr hlo hd hden ha hY hl hLn hle k
  have C' := C
  have hY' := hY
  obtain ⟨hx, hb, hml, hown, hts, hNW, hK, hini, hyn, hbb, hbs, hrc, hrs⟩ := C
  obtain ⟨hW, hS, hc1, hc2, hX0⟩ := hY
  obtain ⟨rfl, rfl⟩ := one_inv hden
  rcases st with _ | ⟨w0, st⟩
  · exact absurd (show (none : Act) = _ from ha) (by simp)
  cases w0 with
  | int a1 =>
    rcases st with _ | ⟨w1, st⟩
    · exact absurd (show (none : Act) = _ from ha) (by simp)
    cases w1 with
    | int a2 =>
      obtain ⟨rfl, rfl, rfl, rfl⟩ := nx_inv (show nx (pc + 1) L (.int (a2 * a1) :: st) h = _ from ha)
      exact lv_imul hx hb hd (k H locs cells slots ls hY' hl hLn)
    | _ => exact absurd (show (none : Act) = _ from ha) (by simp)
  | _ => exact absurd (show (none : Act) = _ from ha) (by simp)
theorem S_iand  : StepOK p l e R s m args below meth c D cA b base n0 n1 y (.iand) := by
  intro pc len pc' op L L' st st' h h' H locs cells slots ls Q C hfr hlo hd hden ha hY hl hLn hle k
  have C' := C
  have hY' := hY
  obtain ⟨hx, hb, hml, hown, hts, hNW, hK, hini, hyn, hbb, hbs, hrc, hrs⟩ := C
  obtain ⟨hW, hS, hc1, hc2, hX0⟩ := hY
  obtain ⟨rfl, rfl⟩ := one_inv hden
  rcases st with _ | ⟨w0, st⟩
  · exact absurd (show (none : Act) = _ from ha) (by simp)
  cases w0 with
  | int a1 =>
    rcases st with _ | ⟨w1, st⟩
    · exact absurd (show (none : Act) = _ from ha) (by simp)
    cases w1 with
    | int a2 =>
      obtain ⟨rfl, rfl, rfl, rfl⟩ := nx_inv (show nx (pc + 1) L (.int (a2 &&& a1) :: st) h = _ from ha)
      exact lv_iand hx hb hd (k H locs cells slots ls hY' hl hLn)
    | _ => exact absurd (show (none : Act) = _ from ha) (by simp)
  | _ => exact absurd (show (none : Act) = _ from ha) (by simp)
theorem S_ior  : StepOK p l e R s m args below meth c D cA b base n0 n1 y (.ior) := by
  intro pc len pc' op L L' st st' h h' H locs cells slots ls Q C hfr hlo hd hden ha hY hl hLn hle k
  have C' := C
  have hY' := hY
  obtain ⟨hx, hb, hml, hown, hts, hNW, hK, hini, hyn, hbb, hbs, hrc, hrs⟩ := C
  obtain ⟨hW, hS, hc1, hc2, hX0⟩ := hY
  obtain ⟨rfl, rfl⟩ := one_inv hden
  rcases st with _ | ⟨w0, st⟩
  · exact absurd (show (none : Act) = _ from ha) (by simp)
  cases w0 with
  | int a1 =>
    rcases st with _ | ⟨w1, st⟩
    · exact absurd (show (none : Act) = _ from ha) (by simp)
    cases w1 with
    | int a2 =>
      obtain ⟨rfl, rfl, rfl, rfl⟩ := nx_inv (show nx (pc + 1) L (.int (a2 ||| a1) :: st) h = _ from ha)
      exact lv_ior hx hb hd (k H locs cells slots ls hY' hl hLn)
    | _ => exact absurd (show (none : Act) = _ from ha) (by simp)
  | _ => exact absurd (show (none : Act) = _ from ha) (by simp)
theorem S_ishl  : StepOK p l e R s m args below meth c D cA b base n0 n1 y (.ishl) := by
  intro pc len pc' op L L' st st' h h' H locs cells slots ls Q C hfr hlo hd hden ha hY hl hLn hle k
  have C' := C
  have hY' := hY
  obtain ⟨hx, hb, hml, hown, hts, hNW, hK, hini, hyn, hbb, hbs, hrc, hrs⟩ := C
  obtain ⟨hW, hS, hc1, hc2, hX0⟩ := hY
  obtain ⟨rfl, rfl⟩ := one_inv hden
  rcases st with _ | ⟨w0, st⟩
  · exact absurd (show (none : Act) = _ from ha) (by simp)
  cases w0 with
  | int a1 =>
    rcases st with _ | ⟨w1, st⟩
    · exact absurd (show (none : Act) = _ from ha) (by simp)
    cases w1 with
    | int a2 =>
      obtain ⟨rfl, rfl, rfl, rfl⟩ := nx_inv (show nx (pc + 1) L (.int (a2 <<< (a1 &&& 31)) :: st) h = _ from ha)
      exact lv_ishl hx hb hd (k H locs cells slots ls hY' hl hLn)
    | _ => exact absurd (show (none : Act) = _ from ha) (by simp)
  | _ => exact absurd (show (none : Act) = _ from ha) (by simp)
theorem S_ishr  : StepOK p l e R s m args below meth c D cA b base n0 n1 y (.ishr) := by
  intro pc len pc' op L L' st st' h h' H locs cells slots ls Q C hfr hlo hd hden ha hY hl hLn hle k
  have C' := C
  have hY' := hY
  obtain ⟨hx, hb, hml, hown, hts, hNW, hK, hini, hyn, hbb, hbs, hrc, hrs⟩ := C
  obtain ⟨hW, hS, hc1, hc2, hX0⟩ := hY
  obtain ⟨rfl, rfl⟩ := one_inv hden
  rcases st with _ | ⟨w0, st⟩
  · exact absurd (show (none : Act) = _ from ha) (by simp)
  cases w0 with
  | int a1 =>
    rcases st with _ | ⟨w1, st⟩
    · exact absurd (show (none : Act) = _ from ha) (by simp)
    cases w1 with
    | int a2 =>
      obtain ⟨rfl, rfl, rfl, rfl⟩ := nx_inv (show nx (pc + 1) L (.int (a2 >>> (a1 &&& 31)) :: st) h = _ from ha)
      exact lv_ishr hx hb hd (k H locs cells slots ls hY' hl hLn)
    | _ => exact absurd (show (none : Act) = _ from ha) (by simp)
  | _ => exact absurd (show (none : Act) = _ from ha) (by simp)
theorem S_iushr  : StepOK p l e R s m args below meth c D cA b base n0 n1 y (.iushr) := by
  intro pc len pc' op L L' st st' h h' H locs cells slots ls Q C hfr hlo hd hden ha hY hl hLn hle k
  have C' := C
  have hY' := hY
  obtain ⟨hx, hb, hml, hown, hts, hNW, hK, hini, hyn, hbb, hbs, hrc, hrs⟩ := C
  obtain ⟨hW, hS, hc1, hc2, hX0⟩ := hY
  obtain ⟨rfl, rfl⟩ := one_inv hden
  rcases st with _ | ⟨w0, st⟩
  · exact absurd (show (none : Act) = _ from ha) (by simp)
  cases w0 with
  | int a1 =>
    rcases st with _ | ⟨w1, st⟩
    · exact absurd (show (none : Act) = _ from ha) (by simp)
    cases w1 with
    | int a2 =>
      obtain ⟨rfl, rfl, rfl, rfl⟩ := nx_inv (show nx (pc + 1) L (.int ((a2.toUInt32 >>> (a1.toUInt32 &&& Int32.toUInt32 31)).toInt32) :: st) h = _ from ha)
      exact lv_iushr hx hb hd rfl (k H locs cells slots ls hY' hl hLn)
    | _ => exact absurd (show (none : Act) = _ from ha) (by simp)
  | _ => exact absurd (show (none : Act) = _ from ha) (by simp)
theorem S_idiv  : StepOK p l e R s m args below meth c D cA b base n0 n1 y (.idiv) := by
  intro pc len pc' op L L' st st' h h' H locs cells slots ls Q C hfr hlo hd hden ha hY hl hLn hle k
  have C' := C
  have hY' := hY
  obtain ⟨hx, hb, hml, hown, hts, hNW, hK, hini, hyn, hbb, hbs, hrc, hrs⟩ := C
  obtain ⟨hW, hS, hc1, hc2, hX0⟩ := hY
  obtain ⟨rfl, rfl⟩ := one_inv hden
  rcases st with _ | ⟨w0, st⟩
  · exact absurd (show (none : Act) = _ from ha) (by simp)
  cases w0 with
  | int a1 =>
    rcases st with _ | ⟨w1, st⟩
    · exact absurd (show (none : Act) = _ from ha) (by simp)
    cases w1 with
    | int a2 =>
      obtain ⟨h0, ha⟩ := gd_inv (show gd (¬ a1 = 0) (nx (pc + 1) L (.int (a2 / a1) :: st) h) = _ from ha)
      obtain ⟨rfl, rfl, rfl, rfl⟩ := nx_inv ha
      exact lv_idiv hx hb hd h0 (k H locs cells slots ls hY' hl hLn)
    | _ => exact absurd (show (none : Act) = _ from ha) (by simp)
  | _ => exact absurd (show (none : Act) = _ from ha) (by simp)
theorem S_irem  : StepOK p l e R s m args below meth c D cA b base n0 n1 y (.irem) := by
  intro pc len pc' op L L' st st' h h' H locs cells slots ls Q C hfr hlo hd hden ha hY hl hLn hle k
  have C' := C
  have hY' := hY
  obtain ⟨hx, hb, hml, hown, hts, hNW, hK, hini, hyn, hbb, hbs, hrc, hrs⟩ := C
  obtain ⟨hW, hS, hc1, hc2, hX0⟩ := hY
  obtain ⟨rfl, rfl⟩ := one_inv hden
  rcases st with _ | ⟨w0, st⟩
  · exact absurd (show (none : Act) = _ from ha) (by simp)
  cases w0 with
  | int a1 =>
    rcases st with _ | ⟨w1, st⟩
    · exact absurd (show (none : Act) = _ from ha) (by simp)
    cases w1 with
    | int a2 =>
      obtain ⟨h0, ha⟩ := gd_inv (show gd (¬ a1 = 0) (nx (pc + 1) L (.int (a2 - a2 / a1 * a1) :: st) h) = _ from ha)
      obtain ⟨rfl, rfl, rfl, rfl⟩ := nx_inv ha
      exact lv_irem hx hb hd h0 (k H locs cells slots ls hY' hl hLn)
    | _ => exact absurd (show (none : Act) = _ from ha) (by simp)
  | _ => exact absurd (show (none : Act) = _ from ha) (by simp)
theorem S_ladd  : StepOK p l e R s m args below meth c D cA b base n0 n1 y (.ladd) := by
  intro pc len pc' op L L' st st' h h' H locs cells slots ls Q C hfr hlo hd hden ha hY hl hLn hle k
  have C' := C
  have hY' := hY
  obtain ⟨hx, hb, hml, hown, hts, hNW, hK, hini, hyn, hbb, hbs, hrc, hrs⟩ := C
  obtain ⟨hW, hS, hc1, hc2, hX0⟩ := hY
  obtain ⟨rfl, rfl⟩ := one_inv hden
  rcases st with _ | ⟨w0, st⟩
  · exact absurd (show (none : Act) = _ from ha) (by simp)
  cases w0 with
  | long a1 =>
    rcases st with _ | ⟨w1, st⟩
    · exact absurd (show (none : Act) = _ from ha) (by simp)
    cases w1 with
    | long a2 =>
      obtain ⟨rfl, rfl, rfl, rfl⟩ := nx_inv (show nx (pc + 1) L (.long (a2 + a1) :: st) h = _ from ha)
      exact lv_ladd hx hb hd (k H locs cells slots ls hY' hl hLn)
    | _ => exact absurd (show (none : Act) = _ from ha) (by simp)
  | _ => exact absurd (show (none : Act) = _ from ha) (by simp)
theorem S_lsub  : StepOK p l e R s m args below meth c D cA b base n0 n1 y (.lsub) := by
  intro pc len pc' op L L' st st' h h' H locs cells slots ls Q C hfr hlo hd hden ha hY hl hLn hle k
  have C' := C
  have hY' := hY
  obtain ⟨hx, hb, hml, hown, hts, hNW, hK, hini, hyn, hbb, hbs, hrc, hrs⟩ := C
  obtain ⟨hW, hS, hc1, hc2, hX0⟩ := hY
  obtain ⟨rfl, rfl⟩ := one_inv hden
  rcases st with _ | ⟨w0, st⟩
  · exact absurd (show (none : Act) = _ from ha) (by simp)
  cases w0 with
  | long a1 =>
    rcases st with _ | ⟨w1, st⟩
    · exact absurd (show (none : Act) = _ from ha) (by simp)
    cases w1 with
    | long a2 =>
      obtain ⟨rfl, rfl, rfl, rfl⟩ := nx_inv (show nx (pc + 1) L (.long (a2 - a1) :: st) h = _ from ha)
      exact lv_lsub hx hb hd (k H locs cells slots ls hY' hl hLn)
    | _ => exact absurd (show (none : Act) = _ from ha) (by simp)
  | _ => exact absurd (show (none : Act) = _ from ha) (by simp)
theorem S_lmul  : StepOK p l e R s m args below meth c D cA b base n0 n1 y (.lmul) := by
  intro pc len pc' op L L' st st' h h' H locs cells slots ls Q C hfr hlo hd hden ha hY hl hLn hle k
  have C' := C
  have hY' := hY
  obtain ⟨hx, hb, hml, hown, hts, hNW, hK, hini, hyn, hbb, hbs, hrc, hrs⟩ := C
  obtain ⟨hW, hS, hc1, hc2, hX0⟩ := hY
  obtain ⟨rfl, rfl⟩ := one_inv hden
  rcases st with _ | ⟨w0, st⟩
  · exact absurd (show (none : Act) = _ from ha) (by simp)
  cases w0 with
  | long a1 =>
    rcases st with _ | ⟨w1, st⟩
    · exact absurd (show (none : Act) = _ from ha) (by simp)
    cases w1 with
    | long a2 =>
      obtain ⟨rfl, rfl, rfl, rfl⟩ := nx_inv (show nx (pc + 1) L (.long (a2 * a1) :: st) h = _ from ha)
      exact lv_lmul hx hb hd (k H locs cells slots ls hY' hl hLn)
    | _ => exact absurd (show (none : Act) = _ from ha) (by simp)
  | _ => exact absurd (show (none : Act) = _ from ha) (by simp)
theorem S_ldiv  : StepOK p l e R s m args below meth c D cA b base n0 n1 y (.ldiv) := by
  intro pc len pc' op L L' st st' h h' H locs cells slots ls Q C hfr hlo hd hden ha hY hl hLn hle k
  have C' := C
  have hY' := hY
  obtain ⟨hx, hb, hml, hown, hts, hNW, hK, hini, hyn, hbb, hbs, hrc, hrs⟩ := C
  obtain ⟨hW, hS, hc1, hc2, hX0⟩ := hY
  obtain ⟨rfl, rfl⟩ := one_inv hden
  rcases st with _ | ⟨w0, st⟩
  · exact absurd (show (none : Act) = _ from ha) (by simp)
  cases w0 with
  | long a1 =>
    rcases st with _ | ⟨w1, st⟩
    · exact absurd (show (none : Act) = _ from ha) (by simp)
    cases w1 with
    | long a2 =>
      obtain ⟨h0, ha⟩ := gd_inv (show gd (¬ a1 = 0) (nx (pc + 1) L (.long (a2 / a1) :: st) h) = _ from ha)
      obtain ⟨rfl, rfl, rfl, rfl⟩ := nx_inv ha
      exact lv_ldiv hx hb hd h0 (k H locs cells slots ls hY' hl hLn)
    | _ => exact absurd (show (none : Act) = _ from ha) (by simp)
  | _ => exact absurd (show (none : Act) = _ from ha) (by simp)
theorem S_lrem  : StepOK p l e R s m args below meth c D cA b base n0 n1 y (.lrem) := by
  intro pc len pc' op L L' st st' h h' H locs cells slots ls Q C hfr hlo hd hden ha hY hl hLn hle k
  have C' := C
  have hY' := hY
  obtain ⟨hx, hb, hml, hown, hts, hNW, hK, hini, hyn, hbb, hbs, hrc, hrs⟩ := C
  obtain ⟨hW, hS, hc1, hc2, hX0⟩ := hY
  obtain ⟨rfl, rfl⟩ := one_inv hden
  rcases st with _ | ⟨w0, st⟩
  · exact absurd (show (none : Act) = _ from ha) (by simp)
  cases w0 with
  | long a1 =>
    rcases st with _ | ⟨w1, st⟩
    · exact absurd (show (none : Act) = _ from ha) (by simp)
    cases w1 with
    | long a2 =>
      obtain ⟨h0, ha⟩ := gd_inv (show gd (¬ a1 = 0) (nx (pc + 1) L (.long (a2 - a2 / a1 * a1) :: st) h) = _ from ha)
      obtain ⟨rfl, rfl, rfl, rfl⟩ := nx_inv ha
      exact lv_lrem hx hb hd h0 (k H locs cells slots ls hY' hl hLn)
    | _ => exact absurd (show (none : Act) = _ from ha) (by simp)
  | _ => exact absurd (show (none : Act) = _ from ha) (by simp)
theorem S_lcmp  : StepOK p l e R s m args below meth c D cA b base n0 n1 y (.lcmp) := by
  intro pc len pc' op L L' st st' h h' H locs cells slots ls Q C hfr hlo hd hden ha hY hl hLn hle k
  have C' := C
  have hY' := hY
  obtain ⟨hx, hb, hml, hown, hts, hNW, hK, hini, hyn, hbb, hbs, hrc, hrs⟩ := C
  obtain ⟨hW, hS, hc1, hc2, hX0⟩ := hY
  obtain ⟨rfl, rfl⟩ := one_inv hden
  rcases st with _ | ⟨w0, st⟩
  · exact absurd (show (none : Act) = _ from ha) (by simp)
  cases w0 with
  | long a1 =>
    rcases st with _ | ⟨w1, st⟩
    · exact absurd (show (none : Act) = _ from ha) (by simp)
    cases w1 with
    | long a2 =>
      obtain ⟨rfl, rfl, rfl, rfl⟩ := nx_inv (show nx (pc + 1) L (.int (lg_cmp a2 a1) :: st) h = _ from ha)
      exact W.lcmp hx hb hd (k H locs cells slots ls hY' hl hLn)
    | _ => exact absurd (show (none : Act) = _ from ha) (by simp)
  | _ => exact absurd (show (none : Act) = _ from ha) (by simp)
theorem S_ineg  : StepOK p l e R s m args below meth c D cA b base n0 n1 y (.ineg) := by
  intro pc len pc' op L L' st st' h h' H locs cells slots ls Q C hfr hlo hd hden ha hY hl hLn hle k
  have C' := C
  have hY' := hY
  obtain ⟨hx, hb, hml, hown, hts, hNW, hK, hini, hyn, hbb, hbs, hrc, hrs⟩ := C
  obtain ⟨hW, hS, hc1, hc2, hX0⟩ := hY
  obtain ⟨rfl, rfl⟩ := one_inv hden
  rcases st with _ | ⟨w0, st⟩
  · exact absurd (show (none : Act) = _ from ha) (by simp)
  cases w0 with
  | int a1 =>
    obtain ⟨rfl, rfl, rfl, rfl⟩ := nx_inv (show nx (pc + 1) L (.int (-a1) :: st) h = _ from ha)
    exact lv_ineg hx hb hd (k H locs cells slots ls hY' hl hLn)
  | _ => exact absurd (show (none : Act) = _ from ha) (by simp)
theorem S_i2l  : StepOK p l e R s m args below meth c D cA b base n0 n1 y (.i2l) := by
  intro pc len pc' op L L' st st' h h' H locs cells slots ls Q C hfr hlo hd hden ha hY hl hLn hle k
  have C' := C
  have hY' := hY
  obtain ⟨hx, hb, hml, hown, hts, hNW, hK, hini, hyn, hbb, hbs, hrc, hrs⟩ := C
  obtain ⟨hW, hS, hc1, hc2, hX0⟩ := hY
  obtain ⟨rfl, rfl⟩ := one_inv hden
  rcases st with _ | ⟨w0, st⟩
  · exact absurd (show (none : Act) = _ from ha) (by simp)
  cases w0 with
  | int a1 =>
    obtain ⟨rfl, rfl, rfl, rfl⟩ := nx_inv (show nx (pc + 1) L (.long a1.toInt64 :: st) h = _ from ha)
    exact lv_i2l hx hb hd rfl (k H locs cells slots ls hY' hl hLn)
  | _ => exact absurd (show (none : Act) = _ from ha) (by simp)
theorem S_goto (f : Int) : StepOK p l e R s m args below meth c D cA b base n0 n1 y (.goto f) := by
  intro pc len pc' op L L' st st' h h' H locs cells slots ls Q C hfr hlo hd hden ha hY hl hLn hle k
  have C' := C
  have hY' := hY
  obtain ⟨hx, hb, hml, hown, hts, hNW, hK, hini, hyn, hbb, hbs, hrc, hrs⟩ := C
  obtain ⟨hW, hS, hc1, hc2, hX0⟩ := hY
  obtain ⟨hr, hden⟩ := if_inv hden
  obtain ⟨rfl, rfl⟩ := one_inv hden
  obtain ⟨rfl, rfl, rfl, rfl⟩ := nx_inv (show nx ((pc : Int) + f).toNat L st h = _ from ha)
  exact lv_goto hx hb hd (tgt_ok hr) (k H locs cells slots ls hY' hl hLn)
theorem S_ifCond (cc : Jvm.ClassFile.Cond) (f : Int) : StepOK p l e R s m args below meth c D cA b base n0 n1 y (.ifCond cc f) := by
  intro pc len pc' op L L' st st' h h' H locs cells slots ls Q C hfr hlo hd hden ha hY hl hLn hle k
  have C' := C
  have hY' := hY
  obtain ⟨hx, hb, hml, hown, hts, hNW, hK, hini, hyn, hbb, hbs, hrc, hrs⟩ := C
  obtain ⟨hW, hS, hc1, hc2, hX0⟩ := hY
  obtain ⟨hr, hden⟩ := if_inv hden
  obtain ⟨rfl, rfl⟩ := one_inv hden
  cases cc with
  | eq =>
    rcases st with _ | ⟨w0, st⟩
    · exact absurd (show (none : Act) = _ from ha) (by simp)
    cases w0 with
    | int a1 =>
      obtain ⟨hpc, rfl, rfl, rfl⟩ := br_inv (show br (a1 = 0) ((pc : Int) + f).toNat (pc + 3) L st h = _ from ha)
      refine lv_if_eq hx hb hd (tgt_ok hr) (fun hc => ?_) (fun hc => ?_)
      · rcases hpc with ⟨hn, rfl⟩ | ⟨hn, rfl⟩
        · exact k H locs cells slots ls hY' hl hLn
        · first | exact absurd hc hn | exact absurd hn hc
      · rcases hpc with ⟨hn, rfl⟩ | ⟨hn, rfl⟩
        · first | exact absurd hc hn | exact absurd hn hc
        · exact k H locs cells slots ls hY' hl hLn
    | _ => exact absurd (show (none : Act) = _ from ha) (by simp)
  | ne =>
    rcases st with _ | ⟨w0, st⟩
    · exact absurd (show (none : Act) = _ from ha) (by simp)
    cases w0 with
    | int a1 =>
      obtain ⟨hpc, rfl, rfl, rfl⟩ := br_inv (show br (¬ a1 = 0) ((pc : Int) + f).toNat (pc + 3) L st h = _ from ha)
      refine lv_if_ne hx hb hd (tgt_ok hr) (fun hc => ?_) (fun hc => ?_)
      · rcases hpc with ⟨hn, rfl⟩ | ⟨hn, rfl⟩
        · exact k H locs cells slots ls hY' hl hLn
        · first | exact absurd hc hn | exact absurd hn hc
      · rcases hpc with ⟨hn, rfl⟩ | ⟨hn, rfl⟩
        · first | exact absurd hc hn | exact absurd hn hc
        · exact k H locs cells slots ls hY' hl hLn
    | _ => exact absurd (show (none : Act) = _ from ha) (by simp)
  | lt =>
    rcases st with _ | ⟨w0, st⟩
    · exact absurd (show (none : Act) = _ from ha) (by simp)
    cases w0 with
    | int a1 =>
      obtain ⟨hpc, rfl, rfl, rfl⟩ := br_inv (show br (a1 < 0) ((pc : Int) + f).toNat (pc + 3) L st h = _ from ha)
      refine lv_if_lt hx hb hd (tgt_ok hr) (fun hc => ?_) (fun hc => ?_)
      · rcases hpc with ⟨hn, rfl⟩ | ⟨hn, rfl⟩
        · exact k H locs cells slots ls hY' hl hLn
        · first | exact absurd hc hn | exact absurd hn hc
      · rcases hpc with ⟨hn, rfl⟩ | ⟨hn, rfl⟩
        · first | exact absurd hc hn | exact absurd hn hc
        · exact k H locs cells slots ls hY' hl hLn
    | _ => exact absurd (show (none : Act) = _ from ha) (by simp)
  | ge =>
    rcases st with _ | ⟨w0, st⟩
    · exact absurd (show (none : Act) = _ from ha) (by simp)
    cases w0 with
    | int a1 =>
      obtain ⟨hpc, rfl, rfl, rfl⟩ := br_inv (show br (0 ≤ a1) ((pc : Int) + f).toNat (pc + 3) L st h = _ from ha)
      refine lv_if_ge hx hb hd (tgt_ok hr) (fun hc => ?_) (fun hc => ?_)
      · rcases hpc with ⟨hn, rfl⟩ | ⟨hn, rfl⟩
        · exact k H locs cells slots ls hY' hl hLn
        · first | exact absurd hc hn | exact absurd hn hc
      · rcases hpc with ⟨hn, rfl⟩ | ⟨hn, rfl⟩
        · first | exact absurd hc hn | exact absurd hn hc
        · exact k H locs cells slots ls hY' hl hLn
    | _ => exact absurd (show (none : Act) = _ from ha) (by simp)
  | gt =>
    rcases st with _ | ⟨w0, st⟩
    · exact absurd (show (none : Act) = _ from ha) (by simp)
    cases w0 with
    | int a1 =>
      obtain ⟨hpc, rfl, rfl, rfl⟩ := br_inv (show br (0 < a1) ((pc : Int) + f).toNat (pc + 3) L st h = _ from ha)
      refine lv_if_gt hx hb hd (tgt_ok hr) (fun hc => ?_) (fun hc => ?_)
      · rcases hpc with ⟨hn, rfl⟩ | ⟨hn, rfl⟩
        · exact k H locs cells slots ls hY' hl hLn
        · first | exact absurd hc hn | exact absurd hn hc
      · rcases hpc with ⟨hn, rfl⟩ | ⟨hn, rfl⟩
        · first | exact absurd hc hn | exact absurd hn hc
        · exact k H locs cells slots ls hY' hl hLn
    | _ => exact absurd (show (none : Act) = _ from ha) (by simp)
  | le =>
    rcases st with _ | ⟨w0, st⟩
    · exact absurd (show (none : Act) = _ from ha) (by simp)
    cases w0 with
    | int a1 =>
      obtain ⟨hpc, rfl, rfl, rfl⟩ := br_inv (show br (a1 ≤ 0) ((pc : Int) + f).toNat (pc + 3) L st h = _ from ha)
      refine lv_if_le hx hb hd (tgt_ok hr) (fun hc => ?_) (fun hc => ?_)
      · rcases hpc with ⟨hn, rfl⟩ | ⟨hn, rfl⟩
        · exact k H locs cells slots ls hY' hl hLn
        · first | exact absurd hc hn | exact absurd hn hc
      · rcases hpc with ⟨hn, rfl⟩ | ⟨hn, rfl⟩
        · first | exact absurd hc hn | exact absurd hn hc
        · exact k H locs cells slots ls hY' hl hLn
    | _ => exact absurd (show (none : Act) = _ from ha) (by simp)
theorem S_if_icmp (cc : Jvm.ClassFile.Cond) (f : Int) : StepOK p l e R s m args below meth c D cA b base n0 n1 y (.if_icmp cc f) := by
  intro pc len pc' op L L' st st' h h' H locs cells slots ls Q C hfr hlo hd hden ha hY hl hLn hle k
  have C' := C
  have hY' := hY
  obtain ⟨hx, hb, hml, hown, hts, hNW, hK, hini, hyn, hbb, hbs, hrc, hrs⟩ := C
  obtain ⟨hW, hS, hc1, hc2, hX0⟩ := hY
  obtain ⟨hr, hden⟩ := if_inv hden
  obtain ⟨rfl, rfl⟩ := one_inv hden
  cases cc with
  | eq =>
    rcases st with _ | ⟨w0, st⟩
    · exact absurd (show (none : Act) = _ from ha) (by simp)
    cases w0 with
    | int a1 =>
      rcases st with _ | ⟨w1, st⟩
      · exact absurd (show (none : Act) = _ from ha) (by simp)
      cases w1 with
      | int a2 =>
        obtain ⟨hpc, rfl, rfl, rfl⟩ := br_inv (show br (a2 = a1) ((pc : Int) + f).toNat (pc + 3) L st h = _ from ha)
        refine lv_icmp_eq hx hb hd (tgt_ok hr) (fun hc => ?_) (fun hc => ?_)
        · rcases hpc with ⟨hn, rfl⟩ | ⟨hn, rfl⟩
          · exact k H locs cells slots ls hY' hl hLn
          · first | exact absurd hc hn | exact absurd hn hc
        · rcases hpc with ⟨hn, rfl⟩ | ⟨hn, rfl⟩
          · first | exact absurd hc hn | exact absurd hn hc
          · exact k H locs cells slots ls hY' hl hLn
      | _ => exact absurd (show (none : Act) = _ from ha) (by simp)
    | _ => exact absurd (show (none : Act) = _ from ha) (by simp)
  | ne =>
    rcases st with _ | ⟨w0, st⟩
    · exact absurd (show (none : Act) = _ from ha) (by simp)
    cases w0 with
    | int a1 =>
      rcases st with _ | ⟨w1, st⟩
      · exact absurd (show (none : Act) = _ from ha) (by simp)
      cases w1 with
      | int a2 =>
        obtain ⟨hpc, rfl, rfl, rfl⟩ := br_inv (show br (¬ a2 = a1) ((pc : Int) + f).toNat (pc + 3) L st h = _ from ha)
        refine lv_icmp_ne hx hb hd (tgt_ok hr) (fun hc => ?_) (fun hc => ?_)
        · rcases hpc with ⟨hn, rfl⟩ | ⟨hn, rfl⟩
          · exact k H locs cells slots ls hY' hl hLn
          · first | exact absurd hc hn | exact absurd hn hc
        · rcases hpc with ⟨hn, rfl⟩ | ⟨hn, rfl⟩
          · first | exact absurd hc hn | exact absurd hn hc
          · exact k H locs cells slots ls hY' hl hLn
      | _ => exact absurd (show (none : Act) = _ from ha) (by simp)
    | _ => exact absurd (show (none : Act) = _ from ha) (by simp)
  | lt =>
    rcases st with _ | ⟨w0, st⟩
    · exact absurd (show (none : Act) = _ from ha) (by simp)
    cases w0 with
    | int a1 =>
      rcases st with _ | ⟨w1, st⟩
      · exact absurd (show (none : Act) = _ from ha) (by simp)
      cases w1 with
      | int a2 =>
        obtain ⟨hpc, rfl, rfl, rfl⟩ := br_inv (show br (a2 < a1) ((pc : Int) + f).toNat (pc + 3) L st h = _ from ha)
        refine lv_icmp_lt hx hb hd (tgt_ok hr) (fun hc => ?_) (fun hc => ?_)
        · rcases hpc with ⟨hn, rfl⟩ | ⟨hn, rfl⟩
          · exact k H locs cells slots ls hY' hl hLn
          · first | exact absurd hc hn | exact absurd hn hc
        · rcases hpc with ⟨hn, rfl⟩ | ⟨hn, rfl⟩
          · first | exact absurd hc hn | exact absurd hn hc
          · exact k H locs cells slots ls hY' hl hLn
      | _ => exact absurd (show (none : Act) = _ from ha) (by simp)
    | _ => exact absurd (show (none : Act) = _ from ha) (by simp)
  | ge =>
    rcases st with _ | ⟨w0, st⟩
    · exact absurd (show (none : Act) = _ from ha) (by simp)
    cases w0 with
    | int a1 =>
      rcases st with _ | ⟨w1, st⟩
      · exact absurd (show (none : Act) = _ from ha) (by simp)
      cases w1 with
      | int a2 =>
        obtain ⟨hpc, rfl, rfl, rfl⟩ := br_inv (show br (a1 ≤ a2) ((pc : Int) + f).toNat (pc + 3) L st h = _ from ha)
        refine lv_icmp_ge hx hb hd (tgt_ok hr) (fun hc => ?_) (fun hc => ?_)
        · rcases hpc with ⟨hn, rfl⟩ | ⟨hn, rfl⟩
          · exact k H locs cells slots ls hY' hl hLn
          · first | exact absurd hc hn | exact absurd hn hc
        · rcases hpc with ⟨hn, rfl⟩ | ⟨hn, rfl⟩
          · first | exact absurd hc hn | exact absurd hn hc
          · exact k H locs cells slots ls hY' hl hLn
      | _ => exact absurd (show (none : Act) = _ from ha) (by simp)
    | _ => exact absurd (show (none : Act) = _ from ha) (by simp)
  | gt =>
    rcases st with _ | ⟨w0, st⟩
    · exact absurd (show (none : Act) = _ from ha) (by simp)
    cases w0 with
    | int a1 =>
      rcases st with _ | ⟨w1, st⟩
      · exact absurd (show (none : Act) = _ from ha) (by simp)
      cases w1 with
      | int a2 =>
        obtain ⟨hpc, rfl, rfl, rfl⟩ := br_inv (show br (a1 < a2) ((pc : Int) + f).toNat (pc + 3) L st h = _ from ha)
        refine lv_icmp_gt hx hb hd (tgt_ok hr) (fun hc => ?_) (fun hc => ?_)
        · rcases hpc with ⟨hn, rfl⟩ | ⟨hn, rfl⟩
          · exact k H locs cells slots ls hY' hl hLn
          · first | exact absurd hc hn | exact absurd hn hc
        · rcases hpc with ⟨hn, rfl⟩ | ⟨hn, rfl⟩
          · first | exact absurd hc hn | exact absurd hn hc
          · exact k H locs cells slots ls hY' hl hLn
      | _ => exact absurd (show (none : Act) = _ from ha) (by simp)
    | _ => exact absurd (show (none : Act) = _ from ha) (by simp)
  | le =>
    rcases st with _ | ⟨w0, st⟩
    · exact absurd (show (none : Act) = _ from ha) (by simp)
    cases w0 with
    | int a1 =>
      rcases st with _ | ⟨w1, st⟩
      · exact absurd (show (none : Act) = _ from ha) (by simp)
      cases w1 with
      | int a2 =>
        obtain ⟨hpc, rfl, rfl, rfl⟩ := br_inv (show br (a2 ≤ a1) ((pc : Int) + f).toNat (pc + 3) L st h = _ from ha)
        refine lv_icmp_le hx hb hd (tgt_ok hr) (fun hc => ?_) (fun hc => ?_)
        · rcases hpc with ⟨hn, rfl⟩ | ⟨hn, rfl⟩
          · exact k H locs cells slots ls hY' hl hLn
          · first | exact absurd hc hn | exact absurd hn hc
        · rcases hpc with ⟨hn, rfl⟩ | ⟨hn, rfl⟩
          · first | exact absurd hc hn | exact absurd hn hc
          · exact k H locs cells slots ls hY' hl hLn
      | _ => exact absurd (show (none : Act) = _ from ha) (by simp)
    | _ => exact absurd (show (none : Act) = _ from ha) (by simp)
theorem S_ifnull (f : Int) : StepOK p l e R s m args below meth c D cA b base n0 n1 y (.ifnull f) := by
  intro pc len pc' op L L' st st' h h' H locs cells slots ls Q C hfr hlo hd hden ha hY hl hLn hle k
  have C' := C
  have hY' := hY
  obtain ⟨hx, hb, hml, hown, hts, hNW, hK, hini, hyn, hbb, hbs, hrc, hrs⟩ := C
  obtain ⟨hW, hS, hc1, hc2, hX0⟩ := hY
  obtain ⟨hr, hden⟩ := if_inv hden
  obtain ⟨rfl, rfl⟩ := one_inv hden
  rcases st with _ | ⟨w0, st⟩
  · exact absurd (show (none : Act) = _ from ha) (by simp)
  cases w0 with
  | ref a1 =>
    obtain ⟨rfl, rfl, rfl, rfl⟩ := nx_inv (show nx (pc + 3) L st h = _ from ha)
    exact lv_ifnull hx hb hd (k H locs cells slots ls hY' hl hLn)
  | null =>
    obtain ⟨rfl, rfl, rfl, rfl⟩ := nx_inv (show nx ((pc : Int) + f).toNat L st h = _ from ha)
    exact lv_ifnullN hx hb hd (tgt_ok hr) (k H locs cells slots ls hY' hl hLn)
  | _ => exact absurd (show (none : Act) = _ from ha) (by simp)
theorem S_dup  : StepOK p l e R s m args below meth c D cA b base n0 n1 y (.dup) := by
  intro pc len pc' op L L' st st' h h' H locs cells slots ls Q C hfr hlo hd hden ha hY hl hLn hle k
  have C' := C
  have hY' := hY
  obtain ⟨hx, hb, hml, hown, hts, hNW, hK, hini, hyn, hbb, hbs, hrc, hrs⟩ := C
  obtain ⟨hW, hS, hc1, hc2, hX0⟩ := hY
  obtain ⟨rfl, rfl⟩ := one_inv hden
  rcases st with _ | ⟨w0, st⟩
  · exact absurd (show (none : Act) = _ from ha) (by simp)
  obtain ⟨hc, ha⟩ := gd_inv (show gd (w0.category = 1) (nx (pc + 1) L (w0 :: w0 :: st) h) = _ from ha)
  obtain ⟨rfl, rfl, rfl, rfl⟩ := nx_inv ha
  exact lv_dup hx hb hd (by rw [tr_cat]; exact hc) (k H locs cells slots ls hY' hl hLn)
theorem S_dup2  : StepOK p l e R s m args below meth c D cA b base n0 n1 y (.dup2) := by
  intro pc len pc' op L L' st st' h h' H locs cells slots ls Q C hfr hlo hd hden ha hY hl hLn hle k
  have C' := C
  have hY' := hY
  obtain ⟨hx, hb, hml, hown, hts, hNW, hK, hini, hyn, hbb, hbs, hrc, hrs⟩ := C
  obtain ⟨hW, hS, hc1, hc2, hX0⟩ := hY
  obtain ⟨rfl, rfl⟩ := one_inv hden
  rcases st with _ | ⟨w0, st⟩
  · exact absurd (show (none : Act) = _ from ha) (by simp)
  rcases st with _ | ⟨w1, st⟩
  · exact absurd (show (none : Act) = _ from ha) (by simp)
  obtain ⟨hc, ha⟩ := gd_inv (show gd (w0.category = 1 ∧ w1.category = 1) (nx (pc + 1) L (w0 :: w1 :: w0 :: w1 :: st) h) = _ from ha)
  obtain ⟨rfl, rfl, rfl, rfl⟩ := nx_inv ha
  exact lv_dup2_11 hx hb hd (by rw [tr_cat]; exact hc.1) (by rw [tr_cat]; exact hc.2) (k H locs cells slots ls hY' hl hLn)
theorem S_pop  : StepOK p l e R s m args below meth c D cA b base n0 n1 y (.pop) := by
  intro pc len pc' op L L' st st' h h' H locs cells slots ls Q C hfr hlo hd hden ha hY hl hLn hle k
  have C' := C
  have hY' := hY
  obtain ⟨hx, hb, hml, hown, hts, hNW, hK, hini, hyn, hbb, hbs, hrc, hrs⟩ := C
  obtain ⟨hW, hS, hc1, hc2, hX0⟩ := hY
  obtain ⟨rfl, rfl⟩ := one_inv hden
  rcases st with _ | ⟨w0, st⟩
  · exact absurd (show (none : Act) = _ from ha) (by simp)
  obtain ⟨hc, ha⟩ := gd_inv (show gd (w0.category = 1) (nx (pc + 1) L st h) = _ from ha)
  obtain ⟨rfl, rfl, rfl, rfl⟩ := nx_inv ha
  exact lv_pop hx hb hd (by rw [tr_cat]; exact hc) (k H locs cells slots ls hY' hl hLn)
theorem S_getfield (i : Nat) : StepOK p l e R s m args below meth c D cA b base n0 n1 y (.getfield i) := by
  intro pc len pc' op L L' st st' h h' H locs cells slots ls Q C hfr hlo hd hden ha hY hl hLn hle k
  have C' := C
  have hY' := hY
  obtain ⟨hx, hb, hml, hown, hts, hNW, hK, hini, hyn, hbb, hbs, hrc, hrs⟩ := C
  obtain ⟨hW, hS, hc1, hc2, hX0⟩ := hY
  obtain ⟨q, hq, hden⟩ := Option.bind_eq_some_iff.mp hden
  obtain ⟨ci, kf⟩ := q
  have hm := find_inv hq
  obtain ⟨hci, hkf⟩ := fC_fl _ hm
  obtain ⟨rfl, rfl⟩ := one_inv hden
  rcases st with _ | ⟨w0, st⟩
  · rcases fty_lt ci kf with ht | ht | ht | ht <;> (simp only [ht] at ha; exact absurd (show (none : Act) = _ from ha) (by simp))
  cases w0 with
  | ref a1 =>
    have main : ∀ v : Value, ob h a1 ci → fval b base h a1 ci kf = tr b base v → pc + 3 = pc' ∧ L = L' ∧ v :: st = st' ∧ h = h' → W p l e R s m args below meth c H locs cells slots Q (F0 m pc ls (List.map (tr b base) (.ref a1 :: st))) := by
      rintro v hob hv ⟨rfl, rfl, rfl, rfl⟩
      refine W.eq (g2 := F0 m pc ls (.ref (base + a1) :: st.map (tr b base))) (by show F0 m pc ls (.ref (adr b base a1) :: _) = _; rw [adr_ob hob]) ?_
      refine va_get (D := D) (cl := classes) (tys := tysA cA) (ws := [(base + a1, .inr (ci, fvals b base h a1 ci))]) (C := kC ci) (T := kT ci) (N := kN ci) (ref := (kT ci kf).1) (v := fval b base h a1 ci kf) hx hb hts (gW_lay ci hci) hown hK (hW.one hob.1 (ent_ob hob)) 0 rfl (cl_at _ hci) kf hkf (hts _ (gW_fl hm)) (fun _ z => z) (by simp [fvals, hkf]) hd ?_
      rw [hv]
      exact k H locs cells slots ls hY' hl hLn
    rcases fty_lt ci kf with ht | ht | ht | ht
    · simp only [ht] at ha
      obtain ⟨hob, ha⟩ := gd_inv (show gd (ob h a1 ci) (nx (pc + 3) L (.int (gi h a1 kf) :: st) h) = _ from ha)
      exact main _ hob (fval_i (Or.inl ht)) (nx_inv ha)
    · simp only [ht] at ha
      obtain ⟨hob, ha⟩ := gd_inv (show gd (ob h a1 ci) (nx (pc + 3) L (.int (gi h a1 kf) :: st) h) = _ from ha)
      exact main _ hob (fval_i (Or.inr ht)) (nx_inv ha)
    · simp only [ht] at ha
      obtain ⟨hob, ha⟩ := gd_inv (show gd (ob h a1 ci) (nx (pc + 3) L (.long (gl h a1 kf) :: st) h) = _ from ha)
      exact main _ hob (fval_l ht) (nx_inv ha)
    · simp only [ht] at ha
      obtain ⟨hob, ha⟩ := gd_inv (show gd (ob h a1 ci) (nx (pc + 3) L (rv (gr h a1 kf) :: st) h) = _ from ha)
      exact main _ hob (fval_r ht) (nx_inv ha)
  | _ => rcases fty_lt ci kf with ht | ht | ht | ht <;> (simp only [ht] at ha; exact absurd (show (none : Act) = _ from ha) (by simp))
theorem S_putfield (i : Nat) : StepOK p l e R s m args below meth c D cA b base n0 n1 y (.putfield i) := by
  intro pc len pc' op L L' st st' h h' H locs cells slots ls Q C hfr hlo hd hden ha hY hl hLn hle k
  have C' := C
  have hY' := hY
  obtain ⟨hx, hb, hml, hown, hts, hNW, hK, hini, hyn, hbb, hbs, hrc, hrs⟩ := C
  obtain ⟨hW, hS, hc1, hc2, hX0⟩ := hY
  obtain ⟨q, hq, hden⟩ := Option.bind_eq_some_iff.mp hden
  obtain ⟨ci, kf⟩ := q
  have hm := find_inv hq
  obtain ⟨hci, hkf⟩ := fC_fl _ hm
  by_cases hff : (kT ci kf).2.2.2 = true
  · simp only [hff, if_true] at hden
    obtain ⟨⟨ht, hv2, hdec⟩, hden⟩ := if_inv hden
    obtain ⟨rfl, rfl⟩ := one_inv hden
    rcases st with _ | ⟨w0, st⟩
    · exact absurd (show (none : Act) = _ from ha) (by simp)
    cases w0 with
    | ref a1 =>
      rcases st with _ | ⟨w1, st⟩
      · exact absurd (show (none : Act) = _ from ha) (by simp)
      cases w1 with
      | ref a2 =>
        obtain ⟨hob0, ha⟩ := gd_inv (show gd (ob h a2 ci) (nx (pc + 3) L st (sr h a2 kf (some a1))) = _ from ha)
        obtain ⟨rfl, rfl, rfl, rfl⟩ := nx_inv ha
        have hob : ob h a2 ci := hob0
        refine W.eq (g2 := F0 m pc ls (.ref (adr b base a1) :: .ref (base + a2) :: st.map (tr b base))) (by show F0 m pc ls (_ :: .ref (adr b base a2) :: _) = _; rw [adr_ob hob]; rfl) ?_
        refine r_put (h' := sr h a2 kf (some a1)) (ci := ci) (k := kf) C' hY' hm hob (Or.inr ⟨hv2, hdec⟩) (nar_refT _ (fK_ref ci hci kf hkf ht)) (fit_refT _ (fK_ref ci hci kf hkf ht)) rfl rfl (fun o' ho' => sr_e2 ho') (fvals_set hkf (by rw [fval_r ht]; show tr b base (rv (up (gr h) a2 (up (gr h a2) kf (some a1)) a2 kf)) = _; rw [up_eq, up_eq]; rfl) (fun j hj => by unfold fval; show (match fty ci j with | 2 => Value.long (gl h a2 j) | 3 => va_rf ((up (gr h) a2 (up (gr h a2) kf (some a1)) a2 j).map (adr b base)) | _ => .int (gi h a2 j)) = _; rw [up_eq, up_ne hj]; rfl)) hd (fun H1 locs1 hY1 => ?_)
        exact k H1 locs1 cells slots ls hY1 hl hLn
      | _ => exact absurd (show (none : Act) = _ from ha) (by simp)
    | _ => exact absurd (show (none : Act) = _ from ha) (by simp)
  · have hnf : (kT ci kf).2.2.2 = false := by simpa using hff
    simp only [hnf] at hden
    have hden : (if len = 3 then some ((match fty ci kf with | 0 => 63 | 1 => 64 | 2 => 65 | _ => 66, ci, pc + len, kf, 0, []) : Op) else none) = some op := hden
    obtain ⟨rfl, rfl⟩ := one_inv hden
    rcases fty_lt ci kf with ht | ht | ht | ht
    · simp only [ht] at ha
      rcases st with _ | ⟨w0, st⟩
      · exact absurd (show (none : Act) = _ from ha) (by simp)
      cases w0 with
      | int a1 =>
        rcases st with _ | ⟨w1, st⟩
        · exact absurd (show (none : Act) = _ from ha) (by simp)
        cases w1 with
        | ref a2 =>
          obtain ⟨hob0, ha⟩ := gd_inv (show gd (ob h a2 ci) (nx (pc + 3) L st (si h a2 kf a1)) = _ from ha)
          obtain ⟨rfl, rfl, rfl, rfl⟩ := nx_inv ha
          have hob : ob h a2 ci := hob0
          refine W.eq (g2 := F0 m pc ls (.int a1 :: .ref (base + a2) :: st.map (tr b base))) (by show F0 m pc ls (_ :: .ref (adr b base a2) :: _) = _; rw [adr_ob hob]; rfl) ?_
          refine r_put (h' := si h a2 kf a1) (ci := ci) (k := kf) C' hY' hm hob (Or.inl hnf) (by rw [kY_0 ht] <;> rfl) (by rw [kY_0 ht] <;> rfl) rfl rfl (fun o' ho' => si_e2 ho') (fvals_set hkf (by rw [fval_i (Or.inl ht)]; show Value.int (up (gi h) a2 (up (gi h a2) kf a1) a2 kf) = _; rw [up_eq, up_eq]) (fun j hj => by unfold fval; show (match fty ci j with | 2 => Value.long (gl h a2 j) | 3 => va_rf ((gr h a2 j).map (adr b base)) | _ => .int (up (gi h) a2 (up (gi h a2) kf a1) a2 j)) = _; rw [up_eq, up_ne hj]; rfl)) hd (fun H1 locs1 hY1 => ?_)
          exact k H1 locs1 cells slots ls hY1 hl hLn
        | _ => exact absurd (show (none : Act) = _ from ha) (by simp)
      | _ => exact absurd (show (none : Act) = _ from ha) (by simp)
    · simp only [ht] at ha
      rcases st with _ | ⟨w0, st⟩
      · exact absurd (show (none : Act) = _ from ha) (by simp)
      cases w0 with
      | int a1 =>
        rcases st with _ | ⟨w1, st⟩
        · exact absurd (show (none : Act) = _ from ha) (by simp)
        cases w1 with
        | ref a2 =>
          obtain ⟨hob0, ha⟩ := gd_inv (show gd (ob h a2 ci ∧ (a1 = 0 ∨ a1 = 1)) (nx (pc + 3) L st (si h a2 kf a1)) = _ from ha)
          obtain ⟨rfl, rfl, rfl, rfl⟩ := nx_inv ha
          have hob : ob h a2 ci := hob0.1
          refine W.eq (g2 := F0 m pc ls (.int a1 :: .ref (base + a2) :: st.map (tr b base))) (by show F0 m pc ls (_ :: .ref (adr b base a2) :: _) = _; rw [adr_ob hob]; rfl) ?_
          refine r_put (h' := si h a2 kf a1) (ci := ci) (k := kf) C' hY' hm hob (Or.inl hnf) (by rw [kY_1 ht] <;> (rcases hob0.2 with h9 | h9 <;> rw [h9] <;> rfl)) (by rw [kY_1 ht] <;> (rcases hob0.2 with h9 | h9 <;> rw [h9] <;> rfl)) rfl rfl (fun o' ho' => si_e2 ho') (fvals_set hkf (by rw [fval_i (Or.inr ht)]; show Value.int (up (gi h) a2 (up (gi h a2) kf a1) a2 kf) = _; rw [up_eq, up_eq]) (fun j hj => by unfold fval; show (match fty ci j with | 2 => Value.long (gl h a2 j) | 3 => va_rf ((gr h a2 j).map (adr b base)) | _ => .int (up (gi h) a2 (up (gi h a2) kf a1) a2 j)) = _; rw [up_eq, up_ne hj]; rfl)) hd (fun H1 locs1 hY1 => ?_)
          exact k H1 locs1 cells slots ls hY1 hl hLn
        | _ => exact absurd (show (none : Act) = _ from ha) (by simp)
      | _ => exact absurd (show (none : Act) = _ from ha) (by simp)
    · simp only [ht] at ha
      rcases st with _ | ⟨w0, st⟩
      · exact absurd (show (none : Act) = _ from ha) (by simp)
      cases w0 with
      | long a1 =>
        rcases st with _ | ⟨w1, st⟩
        · exact absurd (show (none : Act) = _ from ha) (by simp)
        cases w1 with
        | ref a2 =>
          obtain ⟨hob0, ha⟩ := gd_inv (show gd (ob h a2 ci) (nx (pc + 3) L st (sl h a2 kf a1)) = _ from ha)
          obtain ⟨rfl, rfl, rfl, rfl⟩ := nx_inv ha
          have hob : ob h a2 ci := hob0
          refine W.eq (g2 := F0 m pc ls (.long a1 :: .ref (base + a2) :: st.map (tr b base))) (by show F0 m pc ls (_ :: .ref (adr b base a2) :: _) = _; rw [adr_ob hob]; rfl) ?_
          refine r_put (h' := sl h a2 kf a1) (ci := ci) (k := kf) C' hY' hm hob (Or.inl hnf) (by rw [kY_2 ht] <;> rfl) (by rw [kY_2 ht] <;> rfl) rfl rfl (fun o' ho' => sl_e2 ho') (fvals_set hkf (by rw [fval_l ht]; show Value.long (up (gl h) a2 (up (gl h a2) kf a1) a2 kf) = _; rw [up_eq, up_eq]) (fun j hj => by unfold fval; show (match fty ci j with | 2 => Value.long (up (gl h) a2 (up (gl h a2) kf a1) a2 j) | 3 => va_rf ((gr h a2 j).map (adr b base)) | _ => .int (gi h a2 j)) = _; rw [up_eq, up_ne hj]; rfl)) hd (fun H1 locs1 hY1 => ?_)
          exact k H1 locs1 cells slots ls hY1 hl hLn
        | _ => exact absurd (show (none : Act) = _ from ha) (by simp)
      | _ => exact absurd (show (none : Act) = _ from ha) (by simp)
    · simp only [ht] at ha
      rcases st with _ | ⟨w0, st⟩
      · exact absurd (show (none : Act) = _ from ha) (by simp)
      cases w0 with
      | ref a1 =>
        rcases st with _ | ⟨w1, st⟩
        · exact absurd (show (none : Act) = _ from ha) (by simp)
        cases w1 with
        | ref a2 =>
          obtain ⟨hob0, ha⟩ := gd_inv (show gd (ob h a2 ci) (nx (pc + 3) L st (sr h a2 kf (some a1))) = _ from ha)
          obtain ⟨rfl, rfl, rfl, rfl⟩ := nx_inv ha
          have hob : ob h a2 ci := hob0
          refine W.eq (g2 := F0 m pc ls (.ref (adr b base a1) :: .ref (base + a2) :: st.map (tr b base))) (by show F0 m pc ls (_ :: .ref (adr b base a2) :: _) = _; rw [adr_ob hob]; rfl) ?_
          refine r_put (h' := sr h a2 kf (some a1)) (ci := ci) (k := kf) C' hY' hm hob (Or.inl hnf) (nar_refT _ (fK_ref ci hci kf hkf ht)) (fit_refT _ (fK_ref ci hci kf hkf ht)) rfl rfl (fun o' ho' => sr_e2 ho') (fvals_set hkf (by rw [fval_r ht]; show tr b base (rv (up (gr h) a2 (up (gr h a2) kf (some a1)) a2 kf)) = _; rw [up_eq, up_eq]; rfl) (fun j hj => by unfold fval; show (match fty ci j with | 2 => Value.long (gl h a2 j) | 3 => va_rf ((up (gr h) a2 (up (gr h a2) kf (some a1)) a2 j).map (adr b base)) | _ => .int (gi h a2 j)) = _; rw [up_eq, up_ne hj]; rfl)) hd (fun H1 locs1 hY1 => ?_)
          exact k H1 locs1 cells slots ls hY1 hl hLn
        | _ => exact absurd (show (none : Act) = _ from ha) (by simp)
      | _ => exact absurd (show (none : Act) = _ from ha) (by simp)
theorem S_iaload  : StepOK p l e R s m args below meth c D cA b base n0 n1 y (.iaload) := by
  intro pc len pc' op L L' st st' h h' H locs cells slots ls Q C hfr hlo hd hden ha hY hl hLn hle k
  have C' := C
  have hY' := hY
  obtain ⟨hx, hb, hml, hown, hts, hNW, hK, hini, hyn, hbb, hbs, hrc, hrs⟩ := C
  obtain ⟨hW, hS, hc1, hc2, hX0⟩ := hY
  by_cases hyL : y = nY - 1
  · rw [show den y pc .iaload len = (if len = 1 then some ((77, 0, pc + len, 0, 0, []) : Op) else none) by simp only [den, if_pos hyL]] at hden
    obtain ⟨rfl, rfl⟩ := one_inv hden
    rcases st with _ | ⟨w0, st⟩
    · exact absurd (show (none : Act) = _ from ha) (by simp)
    cases w0 with
    | int a1 =>
      rcases st with _ | ⟨w1, st⟩
      · exact absurd (show (none : Act) = _ from ha) (by simp)
      cases w1 with
      | ref a2 =>
        by_cases h9 : a2 = 999
        · subst h9
          obtain ⟨hin, ha⟩ := gd_inv (show gd (inb a1 (hL h)) (nx (pc + 1) L (.int (hX h a1.toNatClampNeg) :: st) h) = _ from ha)
          obtain ⟨rfl, rfl, rfl, rfl⟩ := nx_inv ha
          exact va_sld (A := fun q => base ≤ q) hx hb hX0 (Nat.lt_of_lt_of_le hbb hbs) (Nat.not_le.mpr hbb) hS (inb_vp hin) hd (k H locs cells slots ls hY' hl hLn)
        · have ha : (match ((.int a1 :: .ref a2 :: st) : List Value) with | .int i :: .ref 999 :: st => gd (inb i (hL h)) (nx (pc + 1) L (.int (hX h i.toNatClampNeg) :: st) h) | _ => none) = some (Sum.inl (pc', L', st', h')) := ha
          split at ha
          · rename_i heq
            injection heq with e1 e2
            injection e2 with e3 e4
            injection e3 with e5
            exact absurd e5 h9
          · cases ha
      | _ => exact absurd (show (none : Act) = _ from ha) (by simp)
    | _ => exact absurd (show (none : Act) = _ from ha) (by simp)
  · rw [show den y pc .iaload len = (if len = 1 then some ((70, 0, pc + len, 0, 0, []) : Op) else none) by simp only [den, if_neg hyL]] at hden
    obtain ⟨rfl, rfl⟩ := one_inv hden
    rcases st with _ | ⟨w0, st⟩
    · exact absurd (show (none : Act) = _ from ha) (by simp)
    cases w0 with
    | int a1 =>
      rcases st with _ | ⟨w1, st⟩
      · exact absurd (show (none : Act) = _ from ha) (by simp)
      cases w1 with
      | ref a2 =>
        obtain ⟨⟨hob, hin⟩, ha⟩ := gd_inv (show gd (ar h 1 a2 ∧ inb a1 (SH a2).2) (nx (pc + 1) L (.int (gi h a2 a1.toNatClampNeg) :: st) h) = _ from ha)
        obtain ⟨rfl, rfl, rfl, rfl⟩ := nx_inv ha
        refine W.eq (g2 := F0 m pc ls (.int a1 :: .ref (base + a2) :: st.map (tr b base))) (by show F0 m pc ls (_ :: .ref (adr b base a2) :: _) = _; rw [adr_ar hob (by decide)]; rfl) ?_
        exact va_iald hx hb (D := D) (cl := classes) (tys := tysA cA) hK (hW.one hob.1 (ent_1 hob)) 0 0 rfl rfl (inb_vp hin) hd (k H locs cells slots ls hY' hl hLn)
      | _ => exact absurd (show (none : Act) = _ from ha) (by simp)
    | _ => exact absurd (show (none : Act) = _ from ha) (by simp)
theorem S_iastore  : StepOK p l e R s m args below meth c D cA b base n0 n1 y (.iastore) := by
  intro pc len pc' op L L' st st' h h' H locs cells slots ls Q C hfr hlo hd hden ha hY hl hLn hle k
  have C' := C
  have hY' := hY
  obtain ⟨hx, hb, hml, hown, hts, hNW, hK, hini, hyn, hbb, hbs, hrc, hrs⟩ := C
  obtain ⟨hW, hS, hc1, hc2, hX0⟩ := hY
  obtain ⟨rfl, rfl⟩ := one_inv hden
  rcases st with _ | ⟨w0, st⟩
  · exact absurd (show (none : Act) = _ from ha) (by simp)
  cases w0 with
  | int a1 =>
    rcases st with _ | ⟨w1, st⟩
    · exact absurd (show (none : Act) = _ from ha) (by simp)
    cases w1 with
    | int a2 =>
      rcases st with _ | ⟨w2, st⟩
      · exact absurd (show (none : Act) = _ from ha) (by simp)
      cases w2 with
      | ref a3 =>
        obtain ⟨⟨hob, hin⟩, ha⟩ := gd_inv (show gd (ar h 1 a3 ∧ inb a2 (SH a3).2) (nx (pc + 1) L st (si h a3 a2.toNatClampNeg a1)) = _ from ha)
        obtain ⟨rfl, rfl, rfl, rfl⟩ := nx_inv ha
        refine W.eq (g2 := F0 m pc ls (.int a1 :: .int a2 :: .ref (base + a3) :: st.map (tr b base))) (by show F0 m pc ls (_ :: _ :: .ref (adr b base a3) :: _) = _; rw [adr_ar hob (by decide)]; rfl) ?_
        have hP := hW.one hob.1 (ent_1 (cA := cA) (b := b) (base := base) hob)
        refine W.iast hx hb (hP 0 _ rfl) ((hK.2 0 _ rfl).1 (SH a3).2 (fun j => .int (gi h a3 j))) (fun q => by cases q) (by show ¬ (a2 < 0 ∨ (arrV _ _ _).slots.size ≤ _); rw [arrV_size]; exact inb_vp hin) rfl rfl hd fun H1 e z oq => ?_
        refine k H1 _ cells slots ls ⟨hW.store hob.1 z oq rfl (fun o' ho' => si_e2 ho') ?_, hS.put z oq (by show base ≤ base + a3; omega), hc1, hc2, hX0⟩ hl hLn
        rw [ent_1 (h := si h a3 a2.toNatClampNeg a1) hob]
        show H1[base + a3]? = some (vp_cell _ _)
        rw [e, vp_cell_i, vp_cell_i, arrV_store]
        congr 2
        funext q
        show updV (fun j => Value.int (gi h a3 j)) a2.toNatClampNeg (.int a1) q = .int (up (gi h) a3 (up (gi h a3) a2.toNatClampNeg a1) a3 q)
        rw [up_eq]
        unfold updV up
        split <;> rfl
      | _ => exact absurd (show (none : Act) = _ from ha) (by simp)
    | _ => exact absurd (show (none : Act) = _ from ha) (by simp)
  | _ => exact absurd (show (none : Act) = _ from ha) (by simp)
theorem S_laload  : StepOK p l e R s m args below meth c D cA b base n0 n1 y (.laload) := by
  intro pc len pc' op L L' st st' h h' H locs cells slots ls Q C hfr hlo hd hden ha hY hl hLn hle k
  have C' := C
  have hY' := hY
  obtain ⟨hx, hb, hml, hown, hts, hNW, hK, hini, hyn, hbb, hbs, hrc, hrs⟩ := C
  obtain ⟨hW, hS, hc1, hc2, hX0⟩ := hY
  obtain ⟨rfl, rfl⟩ := one_inv hden
  rcases st with _ | ⟨w0, st⟩
  · exact absurd (show (none : Act) = _ from ha) (by simp)
  cases w0 with
  | int a1 =>
    rcases st with _ | ⟨w1, st⟩
    · exact absurd (show (none : Act) = _ from ha) (by simp)
    cases w1 with
    | ref a2 =>
      obtain ⟨⟨hob, hin⟩, ha⟩ := gd_inv (show gd (ar h 2 a2 ∧ inb a1 (SH a2).2) (nx (pc + 1) L (.long (gl h a2 a1.toNatClampNeg) :: st) h) = _ from ha)
      obtain ⟨rfl, rfl, rfl, rfl⟩ := nx_inv ha
      refine W.eq (g2 := F0 m pc ls (.int a1 :: .ref (base + a2) :: st.map (tr b base))) (by show F0 m pc ls (_ :: .ref (adr b base a2) :: _) = _; rw [adr_ar hob (by decide)]; rfl) ?_
      exact va_lald hx hb (D := D) (cl := classes) (tys := tysA cA) hK (hW.one hob.1 (ent_2 hob)) 0 1 rfl rfl (inb_vp hin) hd (k H locs cells slots ls hY' hl hLn)
    | _ => exact absurd (show (none : Act) = _ from ha) (by simp)
  | _ => exact absurd (show (none : Act) = _ from ha) (by simp)
theorem S_lastore  : StepOK p l e R s m args below meth c D cA b base n0 n1 y (.lastore) := by
  intro pc len pc' op L L' st st' h h' H locs cells slots ls Q C hfr hlo hd hden ha hY hl hLn hle k
  have C' := C
  have hY' := hY
  obtain ⟨hx, hb, hml, hown, hts, hNW, hK, hini, hyn, hbb, hbs, hrc, hrs⟩ := C
  obtain ⟨hW, hS, hc1, hc2, hX0⟩ := hY
  obtain ⟨rfl, rfl⟩ := one_inv hden
  rcases st with _ | ⟨w0, st⟩
  · exact absurd (show (none : Act) = _ from ha) (by simp)
  cases w0 with
  | long a1 =>
    rcases st with _ | ⟨w1, st⟩
    · exact absurd (show (none : Act) = _ from ha) (by simp)
    cases w1 with
    | int a2 =>
      rcases st with _ | ⟨w2, st⟩
      · exact absurd (show (none : Act) = _ from ha) (by simp)
      cases w2 with
      | ref a3 =>
        obtain ⟨⟨hob, hin⟩, ha⟩ := gd_inv (show gd (ar h 2 a3 ∧ inb a2 (SH a3).2) (nx (pc + 1) L st (sl h a3 a2.toNatClampNeg a1)) = _ from ha)
        obtain ⟨rfl, rfl, rfl, rfl⟩ := nx_inv ha
        refine W.eq (g2 := F0 m pc ls (.long a1 :: .int a2 :: .ref (base + a3) :: st.map (tr b base))) (by show F0 m pc ls (_ :: _ :: .ref (adr b base a3) :: _) = _; rw [adr_ar hob (by decide)]; rfl) ?_
        have hP := hW.one hob.1 (ent_2 (cA := cA) (b := b) (base := base) hob)
        refine W.last hx hb (hP 0 _ rfl) ((hK.2 1 _ rfl).1 (SH a3).2 (fun j => .long (gl h a3 j))) (fun q => by cases q) (by show ¬ (a2 < 0 ∨ (arrV _ _ _).slots.size ≤ _); rw [arrV_size]; exact inb_vp hin) rfl rfl hd fun H1 e z oq => ?_
        refine k H1 _ cells slots ls ⟨hW.store hob.1 z oq rfl (fun o' ho' => sl_e2 ho') ?_, hS.put z oq (by show base ≤ base + a3; omega), hc1, hc2, hX0⟩ hl hLn
        rw [ent_2 (h := sl h a3 a2.toNatClampNeg a1) hob]
        show H1[base + a3]? = some (vp_cell _ _)
        rw [e, vp_cell_l, vp_cell_l, arrV_store]
        congr 2
        funext q
        show updV (fun j => Value.long (gl h a3 j)) a2.toNatClampNeg (.long a1) q = .long (up (gl h) a3 (up (gl h a3) a2.toNatClampNeg a1) a3 q)
        rw [up_eq]
        unfold updV up
        split <;> rfl
      | _ => exact absurd (show (none : Act) = _ from ha) (by simp)
    | _ => exact absurd (show (none : Act) = _ from ha) (by simp)
  | _ => exact absurd (show (none : Act) = _ from ha) (by simp)
theorem S_aaload  : StepOK p l e R s m args below meth c D cA b base n0 n1 y (.aaload) := by
  intro pc len pc' op L L' st st' h h' H locs cells slots ls Q C hfr hlo hd hden ha hY hl hLn hle k
  have C' := C
  have hY' := hY
  obtain ⟨hx, hb, hml, hown, hts, hNW, hK, hini, hyn, hbb, hbs, hrc, hrs⟩ := C
  obtain ⟨hW, hS, hc1, hc2, hX0⟩ := hY
  obtain ⟨rfl, rfl⟩ := one_inv hden
  rcases st with _ | ⟨w0, st⟩
  · exact absurd (show (none : Act) = _ from ha) (by simp)
  cases w0 with
  | int a1 =>
    rcases st with _ | ⟨w1, st⟩
    · exact absurd (show (none : Act) = _ from ha) (by simp)
    cases w1 with
    | ref a2 =>
      obtain ⟨⟨hob, hin⟩, ha⟩ := gd_inv (show gd (ar h 3 a2 ∧ inb a1 (SH a2).2) (nx (pc + 1) L (rv (gr h a2 a1.toNatClampNeg) :: st) h) = _ from ha)
      obtain ⟨rfl, rfl, rfl, rfl⟩ := nx_inv ha
      refine W.eq (g2 := F0 m pc ls (.int a1 :: .ref (base + a2) :: st.map (tr b base))) (by show F0 m pc ls (_ :: .ref (adr b base a2) :: _) = _; rw [adr_ar hob (by decide)]; rfl) ?_
      refine va_aldq hx hb (D := D) (cl := classes) (tys := tysA cA) hK (hW.one hob.1 (ent_3 hob)) 0 2 rfl rfl (inb_vp hin) hd ?_
      rw [rv_tr]
      exact k H locs cells slots ls hY' hl hLn
    | _ => exact absurd (show (none : Act) = _ from ha) (by simp)
  | _ => exact absurd (show (none : Act) = _ from ha) (by simp)
theorem S_aastore  : StepOK p l e R s m args below meth c D cA b base n0 n1 y (.aastore) := by
  intro pc len pc' op L L' st st' h h' H locs cells slots ls Q C hfr hlo hd hden ha hY hl hLn hle k
  have C' := C
  have hY' := hY
  obtain ⟨hx, hb, hml, hown, hts, hNW, hK, hini, hyn, hbb, hbs, hrc, hrs⟩ := C
  obtain ⟨hW, hS, hc1, hc2, hX0⟩ := hY
  obtain ⟨rfl, rfl⟩ := one_inv hden
  rcases st with _ | ⟨w0, st⟩
  · exact absurd (show (none : Act) = _ from ha) (by simp)
  cases w0 with
  | ref a1 =>
    rcases st with _ | ⟨w1, st⟩
    · exact absurd (show (none : Act) = _ from ha) (by simp)
    cases w1 with
    | int a2 =>
      rcases st with _ | ⟨w2, st⟩
      · exact absurd (show (none : Act) = _ from ha) (by simp)
      cases w2 with
      | ref a3 =>
        obtain ⟨⟨hob, hin, hv⟩, ha⟩ := gd_inv (show gd (ar h 3 a3 ∧ inb a2 (SH a3).2 ∧ ob h a1 3) (nx (pc + 1) L st (sr h a3 a2.toNatClampNeg (some a1))) = _ from ha)
        obtain ⟨rfl, rfl, rfl, rfl⟩ := nx_inv ha
        refine W.eq (g2 := F0 m pc ls (.ref (base + a1) :: .int a2 :: .ref (base + a3) :: st.map (tr b base))) (by show F0 m pc ls (.ref (adr b base a1) :: _ :: .ref (adr b base a3) :: _) = _; rw [adr_ar hob (by decide), adr_ob hv]; rfl) ?_
        have hP := hW.one hob.1 (ent_3 (cA := cA) (b := b) (base := base) hob)
        have hPv := hW.one hv.1 (ent_ob (cA := cA) (b := b) (base := base) hv)
        obtain ⟨r', hr', cellV, g1, g2, g3, -⟩ := hPv 0 _ rfl
        have hcls := (hK.1 3 _ (cl_at 3 (by decide))).2
        obtain ⟨kA, comp, k1, k2, k3, -⟩ := (hK.2 2 _ rfl).2
        have hcomp : comp = D.1 3 := Option.some.inj (k3.symm.trans hcls.1)
        subst hcomp
        obtain ⟨kC3, hkC, -⟩ := hcls.2
        refine W.aast hx hb (hP 0 _ rfl) (fun q h => by cases h) (fun h => by cases h) k1 k2 rfl hkC ⟨hin.1, by show _ < (arrV _ _ _).slots.size; rw [arrV_size]; exact hin.2⟩ g1 (fun q h => by rw [g3] at h; cases h) (by rw [g2]; exact hkC) (by rw [g2]; exact va_assign hcls) rfl rfl hd fun H1 e z oq => ?_
        refine k H1 _ cells slots ls ⟨hW.store hob.1 z oq rfl (fun o' ho' => sr_e2 ho') ?_, hS.put z oq (by show base ≤ base + a3; omega), hc1, hc2, hX0⟩ hl hLn
        rw [ent_3 (h := sr h a3 a2.toNatClampNeg (some a1)) hob]
        show H1[base + a3]? = some (vp_cell _ _)
        rw [e, vp_cell_q, vp_cell_q, arrV_store]
        congr 2
        funext q
        show updV (fun j => va_rf ((gr h a3 j).map (adr b base))) a2.toNatClampNeg (.ref (base + a1)) q = va_rf ((up (gr h) a3 (up (gr h a3) a2.toNatClampNeg (some a1)) a3 q).map (adr b base))
        rw [up_eq]
        unfold updV up
        split
        · show _ = Value.ref (adr b base a1)
          rw [adr_ob hv]
        · rfl
      | _ => exact absurd (show (none : Act) = _ from ha) (by simp)
    | _ => exact absurd (show (none : Act) = _ from ha) (by simp)
  | _ => exact absurd (show (none : Act) = _ from ha) (by simp)
theorem S_arraylength  : StepOK p l e R s m args below meth c D cA b base n0 n1 y (.arraylength) := by
  intro pc len pc' op L L' st st' h h' H locs cells slots ls Q C hfr hlo hd hden ha hY hl hLn hle k
  have C' := C
  have hY' := hY
  obtain ⟨hx, hb, hml, hown, hts, hNW, hK, hini, hyn, hbb, hbs, hrc, hrs⟩ := C
  obtain ⟨hW, hS, hc1, hc2, hX0⟩ := hY
  by_cases hyL : y = nY - 1
  · rw [show den y pc .arraylength len = (if len = 1 then some ((78, 0, pc + len, 0, 0, []) : Op) else none) by simp only [den, if_pos hyL]] at hden
    obtain ⟨rfl, rfl⟩ := one_inv hden
    rcases st with _ | ⟨w0, st⟩
    · exact absurd (show (none : Act) = _ from ha) (by simp)
    cases w0 with
    | ref a1 =>
      by_cases h9 : a1 = 999
      · subst h9
        obtain ⟨rfl, rfl, rfl, rfl⟩ := nx_inv (show nx (pc + 1) L (.int (Int32.ofNat (hL h)) :: st) h = _ from ha)
        exact va_slen (A := fun q => base ≤ q) hx hb hX0 (Nat.lt_of_lt_of_le hbb hbs) (Nat.not_le.mpr hbb) hS hd (k H locs cells slots ls hY' hl hLn)
      · have ha : (match ((.ref a1 :: st) : List Value) with | .ref 999 :: st => nx (pc + 1) L (.int (Int32.ofNat (hL h)) :: st) h | _ => none) = some (Sum.inl (pc', L', st', h')) := ha
        split at ha
        · rename_i heq
          injection heq with e1 e2
          injection e1 with e5
          exact absurd e5 h9
        · cases ha
    | _ => exact absurd (show (none : Act) = _ from ha) (by simp)
  · rw [show den y pc .arraylength len = (if len = 1 then some ((76, 0, pc + len, 0, 0, []) : Op) else none) by simp only [den, if_neg hyL]] at hden
    obtain ⟨rfl, rfl⟩ := one_inv hden
    rcases st with _ | ⟨w0, st⟩
    · exact absurd (show (none : Act) = _ from ha) (by simp)
    cases w0 with
    | ref a1 =>
      obtain ⟨⟨ho, hsh⟩, ha⟩ := gd_inv (show gd (a1 < hn h ∧ ((SH a1).1 = 1 ∨ (SH a1).1 = 2 ∨ (SH a1).1 = 3)) (nx (pc + 1) L (.int (Int32.ofNat (SH a1).2) :: st) h) = _ from ha)
      obtain ⟨rfl, rfl, rfl, rfl⟩ := nx_inv ha
      rcases hsh with hs1 | hs1 | hs1
      · refine W.eq (g2 := F0 m pc ls (.ref (base + a1) :: st.map (tr b base))) (by show F0 m pc ls (.ref (adr b base a1) :: _) = _; rw [adr_ar ⟨ho, hs1⟩ (by decide)]) ?_
        exact va_alen hx hb (D := D) (cl := classes) (tys := tysA cA) hK (hW.one ho (ent_1 ⟨ho, hs1⟩)) 0 0 rfl rfl rfl hd (k H locs cells slots ls hY' hl hLn)
      · refine W.eq (g2 := F0 m pc ls (.ref (base + a1) :: st.map (tr b base))) (by show F0 m pc ls (.ref (adr b base a1) :: _) = _; rw [adr_ar ⟨ho, hs1⟩ (by decide)]) ?_
        exact va_alen hx hb (D := D) (cl := classes) (tys := tysA cA) hK (hW.one ho (ent_2 ⟨ho, hs1⟩)) 0 1 rfl rfl rfl hd (k H locs cells slots ls hY' hl hLn)
      · refine W.eq (g2 := F0 m pc ls (.ref (base + a1) :: st.map (tr b base))) (by show F0 m pc ls (.ref (adr b base a1) :: _) = _; rw [adr_ar ⟨ho, hs1⟩ (by decide)]) ?_
        exact va_alen hx hb (D := D) (cl := classes) (tys := tysA cA) hK (hW.one ho (ent_3 ⟨ho, hs1⟩)) 0 2 rfl rfl rfl hd (k H locs cells slots ls hY' hl hLn)
    | _ => exact absurd (show (none : Act) = _ from ha) (by simp)
theorem S_invokevirtual (i : Nat) : StepOK p l e R s m args below meth c D cA b base n0 n1 y (.invokevirtual i) := by
  intro pc len pc' op L L' st st' h h' H locs cells slots ls Q C hfr hlo hd hden ha hY hl hLn hle k
  have C' := C
  have hY' := hY
  obtain ⟨hx, hb, hml, hown, hts, hNW, hK, hini, hyn, hbb, hbs, hrc, hrs⟩ := C
  obtain ⟨hW, hS, hc1, hc2, hX0⟩ := hY
  obtain ⟨z, hz, hden⟩ := Option.bind_eq_some_iff.mp hden
  obtain ⟨hv, hden⟩ := if_inv hden
  obtain ⟨rfl, rfl⟩ := one_inv hden
  exact absurd ha (no_80 _ _ _ _ _ _ _ _ _)
theorem S_invokestatic (i : Nat) : StepOK p l e R s m args below meth c D cA b base n0 n1 y (.invokestatic i) := by
  intro pc len pc' op L L' st st' h h' H locs cells slots ls Q C hfr hlo hd hden ha hY hl hLn hle k
  have C' := C
  have hY' := hY
  obtain ⟨hx, hb, hml, hown, hts, hNW, hK, hini, hyn, hbb, hbs, hrc, hrs⟩ := C
  obtain ⟨hW, hS, hc1, hc2, hX0⟩ := hY
  have hden : (match mlN (ocY y) i mlT with
    | some z => if z = 299 then (if len = 3 then some ((53, 0, pc + len, 0, 0, []) : Op) else none) else if z = 300 then (if len = 3 then some ((54, 0, pc + len, 0, 0, []) : Op) else none) else if vkY z = 1 ∧ z < nY - 3 then (if len = 3 then some ((81, z, pc + len, npY z, 0, []) : Op) else none) else none
    | none => (mlN (ocY y) i mzT).bind fun z => if vkY z = 1 ∧ z < nY - 3 then (if len = 3 then some ((81, z, pc + len, npY z, 0, []) : Op) else none) else none) = some op := hden
  cases hz : mlN (ocY y) i mlT with
  | none =>
    rw [hz] at hden
    obtain ⟨z, hz2, hden⟩ := Option.bind_eq_some_iff.mp hden
    obtain ⟨hv, hden⟩ := if_inv hden
    obtain ⟨rfl, rfl⟩ := one_inv hden
    exact absurd ha (no_81 _ _ _ _ _ _ _ _ _)
  | some z =>
    rw [hz] at hden
    by_cases h299 : z = 299
    · subst h299
      obtain ⟨rfl, rfl⟩ := one_inv (show (if len = 3 then some ((53, 0, pc + len, 0, 0, []) : Op) else none) = some op from hden)
      rcases st with _ | ⟨w0, st⟩
      · exact absurd (show (none : Act) = _ from ha) (by simp)
      cases w0 with
      | int a1 =>
        rcases st with _ | ⟨w1, st⟩
        · exact absurd (show (none : Act) = _ from ha) (by simp)
        cases w1 with
        | int a2 =>
          obtain ⟨hcs, ha⟩ := gd_inv (show gd (cat st ≤ 8) (nx (pc + 3) L (.int (if a2 < a1 then a1 else a2) :: st) h) = _ from ha)
          obtain ⟨rfl, rfl, rfl, rfl⟩ := nx_inv ha
          exact va_mmax hx hb (hml.trans (hLn.symm.trans hl.1.symm)) hown (hts _ (gW_ml (find_inv hz))) (hts _ (gW_st (z := 299) (by decide) (by decide))) (hts _ (gW_init 14 (by decide))) (hts _ (gW_code 299 (by decide))) hfr (by rw [cat_tr]; omega) (by omega) (by have := slT_mono (show hn h ≤ n1 from hle); omega) hd (k H locs cells slots ls hY' hl hLn)
        | _ => exact absurd (show (none : Act) = _ from ha) (by simp)
      | _ => exact absurd (show (none : Act) = _ from ha) (by simp)
    · rw [show (match some z with
        | some z => if z = 299 then (if len = 3 then some ((53, 0, pc + len, 0, 0, []) : Op) else none) else if z = 300 then (if len = 3 then some ((54, 0, pc + len, 0, 0, []) : Op) else none) else if vkY z = 1 ∧ z < nY - 3 then (if len = 3 then some ((81, z, pc + len, npY z, 0, []) : Op) else none) else none
        | none => (mlN (ocY y) i mzT).bind fun z => if vkY z = 1 ∧ z < nY - 3 then (if len = 3 then some ((81, z, pc + len, npY z, 0, []) : Op) else none) else none) = (if z = 300 then (if len = 3 then some ((54, 0, pc + len, 0, 0, []) : Op) else none) else if vkY z = 1 ∧ z < nY - 3 then (if len = 3 then some ((81, z, pc + len, npY z, 0, []) : Op) else none) else none) by simp only [if_neg h299]] at hden
      by_cases h300 : z = 300
      · subst h300
        obtain ⟨rfl, rfl⟩ := one_inv (show (if len = 3 then some ((54, 0, pc + len, 0, 0, []) : Op) else none) = some op from hden)
        rcases st with _ | ⟨w0, st⟩
        · exact absurd (show (none : Act) = _ from ha) (by simp)
        cases w0 with
        | int a1 =>
          rcases st with _ | ⟨w1, st⟩
          · exact absurd (show (none : Act) = _ from ha) (by simp)
          cases w1 with
          | int a2 =>
            obtain ⟨hcs, ha⟩ := gd_inv (show gd (cat st ≤ 8) (nx (pc + 3) L (.int (if a1 < a2 then a1 else a2) :: st) h) = _ from ha)
            obtain ⟨rfl, rfl, rfl, rfl⟩ := nx_inv ha
            exact va_mmin hx hb (hml.trans (hLn.symm.trans hl.1.symm)) hown (hts _ (gW_ml (find_inv hz))) (hts _ (gW_st (z := 300) (by decide) (by decide))) (hts _ (gW_init 14 (by decide))) (hts _ (gW_code 300 (by decide))) hfr (by rw [cat_tr]; omega) (by omega) (by have := slT_mono (show hn h ≤ n1 from hle); omega) hd (k H locs cells slots ls hY' hl hLn)
          | _ => exact absurd (show (none : Act) = _ from ha) (by simp)
        | _ => exact absurd (show (none : Act) = _ from ha) (by simp)
      · rw [if_neg h300] at hden
        obtain ⟨hv, hden⟩ := if_inv hden
        obtain ⟨rfl, rfl⟩ := one_inv hden
        exact absurd ha (no_81 _ _ _ _ _ _ _ _ _)
theorem S_invokespecial (i : Nat) : StepOK p l e R s m args below meth c D cA b base n0 n1 y (.invokespecial i) := by
  intro pc len pc' op L L' st st' h h' H locs cells slots ls Q C hfr hlo hd hden ha hY hl hLn hle k
  have C' := C
  have hY' := hY
  obtain ⟨hx, hb, hml, hown, hts, hNW, hK, hini, hyn, hbb, hbs, hrc, hrs⟩ := C
  obtain ⟨hW, hS, hc1, hc2, hX0⟩ := hY
  have hden : (match mlN (ocY y) i mlT with
    | some z => if vkY z = 2 then (if len = 3 then some ((82, z, pc + len, npY z + 1, 0, []) : Op) else none) else none
    | none => if moT.any (fun q => q.1 == ocY y && q.2 == i) = true then (if len = 3 then some ((83, 0, pc + len, 0, 0, []) : Op) else none) else none) = some op := hden
  cases hz : mlN (ocY y) i mlT with
  | some z =>
    rw [hz] at hden
    obtain ⟨hv, hden⟩ := if_inv hden
    obtain ⟨rfl, rfl⟩ := one_inv hden
    exact absurd ha (no_82 _ _ _ _ _ _ _ _ _)
  | none =>
    rw [hz] at hden
    obtain ⟨hv, hden⟩ := if_inv hden
    obtain ⟨rfl, rfl⟩ := one_inv hden
    rcases st with _ | ⟨w0, st⟩
    · exact absurd (show (none : Act) = _ from ha) (by simp)
    cases w0 with
    | ref a1 =>
      obtain ⟨hcs, ha⟩ := gd_inv (show gd (cat st ≤ 8) (nx (pc + 3) L st h) = _ from ha)
      obtain ⟨rfl, rfl, rfl, rfl⟩ := nx_inv ha
      obtain ⟨q, hq1, hq2⟩ := List.any_eq_true.mp hv
      simp at hq2
      obtain ⟨q1, q2⟩ := q
      obtain ⟨e1, e2⟩ := hq2
      simp only at e1 e2
      subst e1 e2
      refine W.objInit hx hb hown (hts _ (gW_mo hq1)) (hts _ gW_oi) (hts _ gW_oc) rfl (by show ls.size = _; rw [hl.1, hLn, hml]) rfl hd hfr (by have := cat_tr b base st; show 2 * 0 + _ + 12 ≤ _; omega) (k H locs cells slots ls hY' hl hLn)
    | _ => exact absurd (show (none : Act) = _ from ha) (by simp)
theorem S_ireturn  : StepOK p l e R s m args below meth c D cA b base n0 n1 y (.ireturn) := by
  intro pc len pc' op L L' st st' h h' H locs cells slots ls Q C hfr hlo hd hden ha hY hl hLn hle k
  have C' := C
  have hY' := hY
  obtain ⟨hx, hb, hml, hown, hts, hNW, hK, hini, hyn, hbb, hbs, hrc, hrs⟩ := C
  obtain ⟨hW, hS, hc1, hc2, hX0⟩ := hY
  have hden : (if rtY y = some .int then (if len = 1 then some ((90, 0, 0, 0, 0, []) : Op) else none) else if rtY y = some .boolean then (if len = 1 then some ((91, 0, 0, 0, 0, []) : Op) else none) else none) = some op := hden
  by_cases h1 : rtY y = some .int
  · rw [if_pos h1] at hden
    obtain ⟨rfl, rfl⟩ := one_inv hden
    exact absurd ha (no_ret 90 (by decide) _ _ _ _ _)
  · rw [if_neg h1] at hden
    obtain ⟨-, hden⟩ := if_inv hden
    obtain ⟨rfl, rfl⟩ := one_inv hden
    exact absurd ha (no_ret 91 (by decide) _ _ _ _ _)
theorem S_lreturn  : StepOK p l e R s m args below meth c D cA b base n0 n1 y (.lreturn) := by
  intro pc len pc' op L L' st st' h h' H locs cells slots ls Q C hfr hlo hd hden ha hY hl hLn hle k
  have C' := C
  have hY' := hY
  obtain ⟨hx, hb, hml, hown, hts, hNW, hK, hini, hyn, hbb, hbs, hrc, hrs⟩ := C
  obtain ⟨hW, hS, hc1, hc2, hX0⟩ := hY
  obtain ⟨-, hden⟩ := if_inv hden
  obtain ⟨rfl, rfl⟩ := one_inv hden
  exact absurd ha (no_ret 92 (by decide) _ _ _ _ _)
theorem S_areturn  : StepOK p l e R s m args below meth c D cA b base n0 n1 y (.areturn) := by
  intro pc len pc' op L L' st st' h h' H locs cells slots ls Q C hfr hlo hd hden ha hY hl hLn hle k
  have C' := C
  have hY' := hY
  obtain ⟨hx, hb, hml, hown, hts, hNW, hK, hini, hyn, hbb, hbs, hrc, hrs⟩ := C
  obtain ⟨hW, hS, hc1, hc2, hX0⟩ := hY
  obtain ⟨-, hden⟩ := if_inv hden
  obtain ⟨rfl, rfl⟩ := one_inv hden
  exact absurd ha (no_ret 93 (by decide) _ _ _ _ _)
theorem S_return_  : StepOK p l e R s m args below meth c D cA b base n0 n1 y (.return_) := by
  intro pc len pc' op L L' st st' h h' H locs cells slots ls Q C hfr hlo hd hden ha hY hl hLn hle k
  have C' := C
  have hY' := hY
  obtain ⟨hx, hb, hml, hown, hts, hNW, hK, hini, hyn, hbb, hbs, hrc, hrs⟩ := C
  obtain ⟨hW, hS, hc1, hc2, hX0⟩ := hY
  obtain ⟨-, hden⟩ := if_inv hden
  obtain ⟨rfl, rfl⟩ := one_inv hden
  exact absurd ha (no_ret 94 (by decide) _ _ _ _ _)
theorem S_new (i : Nat) : StepOK p l e R s m args below meth c D cA b base n0 n1 y (.new i) := by
  intro pc len pc' op L L' st st' h h' H locs cells slots ls Q C hfr hlo hd hden ha hY hl hLn hle k
  have C' := C
  have hY' := hY
  obtain ⟨hx, hb, hml, hown, hts, hNW, hK, hini, hyn, hbb, hbs, hrc, hrs⟩ := C
  obtain ⟨hW, hS, hc1, hc2, hX0⟩ := hY
  obtain ⟨ci, hz, hden⟩ := Option.bind_eq_some_iff.mp hden
  obtain ⟨rfl, rfl⟩ := one_inv hden
  obtain ⟨hsh, hz9⟩ := gd_inv (show gd (SH (hn h) = (0, ci)) (nx (pc + 3) L (.ref (hn h) :: st) (hnew h)) = _ from ha)
  obtain ⟨rfl, rfl, rfl, rfl⟩ := nx_inv hz9
  have hci := SH_ci _ _ hsh
  have hcl := cl_at ci hci
  have hKn := hK.1 ci _ hcl
  have hle : hn h + 1 ≤ n1 := hle
  have hs1 : slT (hn h + 1) = slT (hn h) + kN ci := by simp only [slT, hsh]
  have hs2 := slT_mono hle
  refine W.newcK hx hb hown (hts _ (gW_cl (q := (ocY y, i, ci)) (find_inv hz))) (hts _ (gW_inst ci hci)) (hts _ (gW_init ci (by omega))) rfl hd (by omega) (by omega) hKn.2.1 rfl fun H1 kC1 hkC e1 z1 o1 => ?_
  have hob : ob (hnew h) (hn h) ci := ⟨Nat.lt_succ_self _, hsh⟩
  refine W.eq (g2 := F0 m (pc + 3) ls (.ref (adr b base (hn h)) :: st.map (tr b base))) (by rw [adr_ob hob, ← hW.1]) ?_
  refine k H1 locs (cells + 1) (slots + kN ci) ls ⟨hW.grow z1 (fun q hq => o1 q hq) rfl (fun o' ho' => ha_e2 ho') ?_, hS.new z1 (fun q hq => o1 q hq), by show cells + 1 + n0 = hn h + 1; omega, by show slots + kN ci + slT n0 = slT (hn h + 1); omega, hX0⟩ hl hLn
  rw [ent_ob hob, ← hW.1]
  refine ⟨_, hcl, (u_born (kY ci) hts (gW_lay ci hci) hKn hkC e1 (fC_ty ci hci)).to (fun j hj => ?_)⟩
  have hj : j < kN ci := hj
  show defaultValue (kY ci j) = vp_V (fvals b base (hnew h) (hn h) ci) j
  have : vp_V (fvals b base (hnew h) (hn h) ci) j = fval b base (hnew h) (hn h) ci j := by simp [vp_V, fvals, hj]
  rw [this]
  rcases fty_lt ci j with ht | ht | ht | ht
  · rw [fval_i (Or.inl ht), kY_0 ht]; show _ = Value.int (up (gi h) (hn h) (fun _ => 0) (hn h) j); rw [up_eq]; rfl
  · rw [fval_i (Or.inr ht), kY_1 ht]; show _ = Value.int (up (gi h) (hn h) (fun _ => 0) (hn h) j); rw [up_eq]; rfl
  · rw [fval_l ht, kY_2 ht]; show _ = Value.long (up (gl h) (hn h) (fun _ => 0) (hn h) j); rw [up_eq]; rfl
  · rw [fval_r ht]; show _ = tr b base (rv (up (gr h) (hn h) (fun _ => none) (hn h) j)); rw [up_eq]; exact def_ref ci hci j hj ht
theorem S_newarray (t : ArrayType) : StepOK p l e R s m args below meth c D cA b base n0 n1 y (.newarray t) := by
  intro pc len pc' op L L' st st' h h' H locs cells slots ls Q C hfr hlo hd hden ha hY hl hLn hle k
  have C' := C
  have hY' := hY
  obtain ⟨hx, hb, hml, hown, hts, hNW, hK, hini, hyn, hbb, hbs, hrc, hrs⟩ := C
  obtain ⟨hW, hS, hc1, hc2, hX0⟩ := hY
  cases t with
  | int =>
    obtain ⟨rfl, rfl⟩ := one_inv hden
    rcases st with _ | ⟨w0, st⟩
    · exact absurd (show (none : Act) = _ from ha) (by simp)
    cases w0 with
    | int a1 =>
      obtain ⟨⟨hn0, hnb, hsh⟩, hz9⟩ := gd_inv (show gd (¬ a1 < 0 ∧ a1.toNatClampNeg ≤ 100000 ∧ SH (hn h) = (1, a1.toNatClampNeg)) (nx (pc + 2) L (.ref (hn h) :: st) (hnew h)) = _ from ha)
      obtain ⟨rfl, rfl, rfl, rfl⟩ := nx_inv hz9
      have hle : hn h + 1 ≤ n1 := hle
      have hs1 : slT (hn h + 1) = slT (hn h) + a1.toNatClampNeg := by simp only [slT, hsh]
      have hs2 := slT_mono hle
      refine va_newaK hx hb (atype := .int) (hts _ gW_ai) rfl hd rfl hn0 rfl (by show _ * 4 ≤ _; omega) (by omega) (by omega) rfl fun H1 cA1 e1 z1 o1 hAr hfc => ?_
      have hcA : cA1 = cA 0 := Option.some.inj (hfc.symm.trans (hK.2 0 _ rfl).2)
      subst hcA
      have har : ar (hnew h) 1 (hn h) := ⟨Nat.lt_succ_self _, by rw [hsh]⟩
      refine W.eq (g2 := F0 m (pc + 2) ls (.ref (adr b base (hn h)) :: st.map (tr b base))) (by rw [adr_ar har (by decide), ← hW.1]) ?_
      refine k H1 locs (cells + 1) (slots + a1.toNatClampNeg) ls ⟨hW.grow z1 o1 rfl (fun o' ho' => ha_e2 ho') ?_, hS.new z1 o1, by show cells + 1 + n0 = hn h + 1; omega, by show slots + a1.toNatClampNeg + slT n0 = slT (hn h + 1); omega, hX0⟩ hl hLn
      rw [ent_1 har, ← hW.1]
      show H1[H.size]? = some (vp_cell _ _)
      rw [e1, hsh, vp_cell_i]
      congr 2
      funext j
      show _ = Value.int (up (gi h) (hn h) (fun _ => 0) (hn h) j)
      rw [up_eq]
      rfl
    | _ => exact absurd (show (none : Act) = _ from ha) (by simp)
  | long =>
    obtain ⟨rfl, rfl⟩ := one_inv hden
    rcases st with _ | ⟨w0, st⟩
    · exact absurd (show (none : Act) = _ from ha) (by simp)
    cases w0 with
    | int a1 =>
      obtain ⟨⟨hn0, hnb, hsh⟩, hz9⟩ := gd_inv (show gd (¬ a1 < 0 ∧ a1.toNatClampNeg ≤ 100000 ∧ SH (hn h) = (2, a1.toNatClampNeg)) (nx (pc + 2) L (.ref (hn h) :: st) (hnew h)) = _ from ha)
      obtain ⟨rfl, rfl, rfl, rfl⟩ := nx_inv hz9
      have hle : hn h + 1 ≤ n1 := hle
      have hs1 : slT (hn h + 1) = slT (hn h) + a1.toNatClampNeg := by simp only [slT, hsh]
      have hs2 := slT_mono hle
      refine va_newaK hx hb (atype := .long) (hts _ gW_al) rfl hd rfl hn0 rfl (by show _ * 8 ≤ _; omega) (by omega) (by omega) rfl fun H1 cA1 e1 z1 o1 hAr hfc => ?_
      have hcA : cA1 = cA 1 := Option.some.inj (hfc.symm.trans (hK.2 1 _ rfl).2)
      subst hcA
      have har : ar (hnew h) 2 (hn h) := ⟨Nat.lt_succ_self _, by rw [hsh]⟩
      refine W.eq (g2 := F0 m (pc + 2) ls (.ref (adr b base (hn h)) :: st.map (tr b base))) (by rw [adr_ar har (by decide), ← hW.1]) ?_
      refine k H1 locs (cells + 1) (slots + a1.toNatClampNeg) ls ⟨hW.grow z1 o1 rfl (fun o' ho' => ha_e2 ho') ?_, hS.new z1 o1, by show cells + 1 + n0 = hn h + 1; omega, by show slots + a1.toNatClampNeg + slT n0 = slT (hn h + 1); omega, hX0⟩ hl hLn
      rw [ent_2 har, ← hW.1]
      show H1[H.size]? = some (vp_cell _ _)
      rw [e1, hsh, vp_cell_l]
      congr 2
      funext j
      show _ = Value.long (up (gl h) (hn h) (fun _ => 0) (hn h) j)
      rw [up_eq]
      rfl
    | _ => exact absurd (show (none : Act) = _ from ha) (by simp)
  | _ => exact absurd hden (by simp [den])
theorem S_anewarray (i : Nat) : StepOK p l e R s m args below meth c D cA b base n0 n1 y (.anewarray i) := by
  intro pc len pc' op L L' st st' h h' H locs cells slots ls Q C hfr hlo hd hden ha hY hl hLn hle k
  have C' := C
  have hY' := hY
  obtain ⟨hx, hb, hml, hown, hts, hNW, hK, hini, hyn, hbb, hbs, hrc, hrs⟩ := C
  obtain ⟨hW, hS, hc1, hc2, hX0⟩ := hY
  obtain ⟨hz, hden⟩ := if_inv hden
  obtain ⟨rfl, rfl⟩ := one_inv hden
  rcases st with _ | ⟨w0, st⟩
  · exact absurd (show (none : Act) = _ from ha) (by simp)
  cases w0 with
  | int a1 =>
    obtain ⟨⟨hn0, hnb, hsh⟩, hz9⟩ := gd_inv (show gd (¬ a1 < 0 ∧ a1.toNatClampNeg ≤ 100000 ∧ SH (hn h) = (3, a1.toNatClampNeg)) (nx (pc + 3) L (.ref (hn h) :: st) (hnew h)) = _ from ha)
    obtain ⟨rfl, rfl, rfl, rfl⟩ := nx_inv hz9
    have hle : hn h + 1 ≤ n1 := hle
    have hs1 : slT (hn h + 1) = slT (hn h) + a1.toNatClampNeg := by simp only [slT, hsh]
    have hs2 := slT_mono hle
    refine W.anew hx hb hown (hts _ (gW_cl (q := (ocY y, i, 3)) (find_inv hz))) (va_AO.use hNW.2) rfl hd rfl hn0 (by omega) (by omega) (by omega) fun cA1 kA comp f1 f2 f3 f4 => ?_
    have hcA : cA1 = cA 2 := by
      obtain ⟨_, _, _, _, _, g4⟩ := (hK.2 2 _ rfl).2
      exact Option.some.inj (f1.symm.trans g4)
    subst hcA
    have har : ar (hnew h) 3 (hn h) := ⟨Nat.lt_succ_self _, by rw [hsh]⟩
    generalize hH1 : H.push ({ cls := cA 2, slots := Array.replicate a1.toNatClampNeg .null, vm := .none } : Cell) = H1
    have z1 : H1.size = H.size + 1 := by rw [← hH1, Array.size_push]
    have e1 : H1[H.size]? = some (arrV (cA 2) a1.toNatClampNeg (fun _ => .null)) := by rw [← hH1, Array.getElem?_push_size, ← arrV_new]
    have o1 : ∀ q : Nat, q < H.size → H1[q]? = H[q]? := fun q hq => by rw [← hH1, Array.getElem?_push, if_neg (Nat.ne_of_lt hq)]
    refine W.eq (g2 := F0 m (pc + 3) ls (.ref (adr b base (hn h)) :: st.map (tr b base))) (by rw [adr_ar har (by decide), ← hW.1]) ?_
    refine k H1 locs (cells + 1) (slots + a1.toNatClampNeg) ls ⟨hW.grow z1 o1 rfl (fun o' ho' => ha_e2 ho') ?_, hS.new z1 o1, by show cells + 1 + n0 = hn h + 1; omega, by show slots + a1.toNatClampNeg + slT n0 = slT (hn h + 1); omega, hX0⟩ hl hLn
    rw [ent_3 har, ← hW.1]
    show H1[H.size]? = some (vp_cell _ _)
    rw [e1, hsh, vp_cell_q]
    congr 2
    funext j
    show _ = va_rf ((up (gr h) (hn h) (fun _ => none) (hn h) j).map (adr b base))
    rw [up_eq]
    rfl
  | _ => exact absurd (show (none : Act) = _ from ha) (by simp)
theorem S_tableswitch (d lo hi : Int) (offs : Array Int) : StepOK p l e R s m args below meth c D cA b base n0 n1 y (.tableswitch d lo hi offs) := by
  intro pc len pc' op L L' st st' h h' H locs cells slots ls Q C hfr hlo hd hden ha hY hl hLn hle k
  have C' := C
  have hY' := hY
  obtain ⟨hx, hb, hml, hown, hts, hNW, hK, hini, hyn, hbb, hbs, hrc, hrs⟩ := C
  obtain ⟨hW, hS, hc1, hc2, hX0⟩ := hY
  obtain ⟨hr, hden⟩ := if_inv hden
  have hden := Option.some.inj hden
  subst hden
  simp only [Bool.and_eq_true, decide_eq_true_eq] at hr
  obtain ⟨⟨⟨hdf, hof⟩, hsw⟩, hhi⟩ := hr
  rcases st with _ | ⟨w0, st⟩
  · exact absurd (show (none : Act) = _ from ha) (by simp)
  cases w0 with
  | int a1 =>
    obtain ⟨rfl, rfl, rfl, rfl⟩ := nx_inv (show nx (swk a1 ((pc : Int) + d).toNat (offs.toList.zipIdx.map (fun q => (lo + (q.2 : Int), ((pc : Int) + q.1).toNat)))) L st h = _ from ha)
    by_cases hin : a1.toInt < lo ∨ hi < a1.toInt
    · rw [sw_out (f := fun f => ((pc : Int) + f).toNat) hsw hhi hin] at k
      exact lv_tableOut hx hb hd hin (tgt_ok (by simpa using hdf)) (k H locs cells slots ls hY' hl hLn)
    · obtain ⟨h1, h2⟩ := not_or.mp hin
      obtain ⟨off, ho1, ho2⟩ := sw_in (f := fun f => ((pc : Int) + f).toNat) (t := ((pc : Int) + d).toNat) hsw hhi h1 h2
      rw [ho2] at k
      have hof1 := List.all_eq_true.mp hof off (by rw [Array.mem_toList_iff]; exact Array.mem_of_getElem? ho1)
      exact lv_tableIn hx hb hd h1 h2 ho1 (tgt_ok hof1) (k H locs cells slots ls hY' hl hLn)
  | _ => exact absurd (show (none : Act) = _ from ha) (by simp)
theorem S_lookupswitch (d : Int) (ps : Array (Int × Int)) : StepOK p l e R s m args below meth c D cA b base n0 n1 y (.lookupswitch d ps) := by
  intro pc len pc' op L L' st st' h h' H locs cells slots ls Q C hfr hlo hd hden ha hY hl hLn hle k
  have C' := C
  have hY' := hY
  obtain ⟨hx, hb, hml, hown, hts, hNW, hK, hini, hyn, hbb, hbs, hrc, hrs⟩ := C
  obtain ⟨hW, hS, hc1, hc2, hX0⟩ := hY
  obtain ⟨hr, hden⟩ := if_inv hden
  have hden := Option.some.inj hden
  subst hden
  simp only [Bool.and_eq_true, decide_eq_true_eq] at hr
  obtain ⟨⟨⟨hdf, hof⟩, hsw⟩, hso⟩ := hr
  rcases st with _ | ⟨w0, st⟩
  · exact absurd (show (none : Act) = _ from ha) (by simp)
  cases w0 with
  | int a1 =>
    obtain ⟨rfl, rfl, rfl, rfl⟩ := nx_inv (show nx (swk a1 ((pc : Int) + d).toNat (ps.toList.map (fun q => (q.1, ((pc : Int) + q.2).toNat)))) L st h = _ from ha)
    exact lv_lookup hx hb hd (by simpa using hso) rfl (lk_sw (by simpa using hdf) hof hsw) (k H locs cells slots ls hY' hl hLn)
  | _ => exact absurd (show (none : Act) = _ from ha) (by simp)
theorem STEP (ins : Instr) : StepOK p l e R s m args below meth c D cA b base n0 n1 y ins := by
  cases ins with
  | iload_n i => exact S_iload_n i
  | iload i => exact S_iload i
  | lload_n i => exact S_lload_n i
  | lload i => exact S_lload i
  | aload_n i => exact S_aload_n i
  | aload i => exact S_aload i
  | istore_n i => exact S_istore_n i
  | istore i => exact S_istore i
  | lstore_n i => exact S_lstore_n i
  | lstore i => exact S_lstore i
  | astore_n i => exact S_astore_n i
  | astore i => exact S_astore i
  | iconst n => exact S_iconst n
  | bipush n => exact S_bipush n
  | sipush n => exact S_sipush n
  | ldc i => exact S_ldc i
  | ldc_w i => exact S_ldc_w i
  | lconst n => exact S_lconst n
  | ldc2_w i => exact S_ldc2_w i
  | aconst_null => exact S_aconst_null
  | iinc i n => exact S_iinc i n
  | iadd => exact S_iadd
  | isub => exact S_isub
  | imul => exact S_imul
  | iand => exact S_iand
  | ior => exact S_ior
  | ishl => exact S_ishl
  | ishr => exact S_ishr
  | iushr => exact S_iushr
  | idiv => exact S_idiv
  | irem => exact S_irem
  | ladd => exact S_ladd
  | lsub => exact S_lsub
  | lmul => exact S_lmul
  | ldiv => exact S_ldiv
  | lrem => exact S_lrem
  | lcmp => exact S_lcmp
  | ineg => exact S_ineg
  | i2l => exact S_i2l
  | goto f => exact S_goto f
  | ifCond cc f => exact S_ifCond cc f
  | if_icmp cc f => exact S_if_icmp cc f
  | ifnull f => exact S_ifnull f
  | dup => exact S_dup
  | dup2 => exact S_dup2
  | pop => exact S_pop
  | getfield i => exact S_getfield i
  | putfield i => exact S_putfield i
  | iaload => exact S_iaload
  | iastore => exact S_iastore
  | laload => exact S_laload
  | lastore => exact S_lastore
  | aaload => exact S_aaload
  | aastore => exact S_aastore
  | arraylength => exact S_arraylength
  | invokevirtual i => exact S_invokevirtual i
  | invokestatic i => exact S_invokestatic i
  | invokespecial i => exact S_invokespecial i
  | ireturn => exact S_ireturn
  | lreturn => exact S_lreturn
  | areturn => exact S_areturn
  | return_ => exact S_return_
  | new i => exact S_new i
  | newarray t => exact S_newarray t
  | anewarray i => exact S_anewarray i
  | tableswitch d lo hi offs => exact S_tableswitch d lo hi offs
  | lookupswitch d ps => exact S_lookupswitch d ps
  | _ =>
    intro pc len pc' op L L' st st' h h' H locs cells slots ls Q C hfr hlo hd hden
    exact absurd hden (by simp [den])
end SIM
