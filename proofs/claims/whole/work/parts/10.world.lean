/-! the tables' words by the method's number; the world that a small heap stands for -/
noncomputable def gW : List Cond := lw_tbl.filter goodWord
noncomputable def wsOf (z : Nat) : List Cond := Cond.code (nmY z) (byY z) (mxY z) (rtY z) :: gW
theorem gW_of {L : List Cond} {ps : List Nat} (h : L = ps.filterMap (fun i => lw_tbl[i]?)) {w : Cond} (hw : w ∈ L) (hg : goodWord w = true) : w ∈ gW := by
  rw [h] at hw
  obtain ⟨i, -, hi⟩ := List.mem_filterMap.mp hw
  exact List.mem_filter.mpr ⟨List.mem_of_getElem? hi, hg⟩
theorem gW_good {w : Cond} (h : w ∈ gW) : (w.onTables && w.keeps) = true ∨ ∃ ty, w = .arrayClass ty := good_of_word (List.mem_filter.mp h).2
theorem gW_fl {q : Nat × Nat × Nat × Nat} (h : q ∈ flT) : Cond.fieldLink (kC q.1) q.2.1 (kT q.2.2.1 q.2.2.2).1 (kT q.2.2.1 q.2.2.2).2.1 (kT q.2.2.1 q.2.2.2).2.2.1 ∈ gW := gW_of p_fl (List.mem_map.mpr ⟨q, h, rfl⟩) rfl
theorem gW_ml {q : Nat × Nat × Nat} (h : q ∈ mlT) : Cond.methodLink (kC q.1) q.2.1 (nmY q.2.2) ∈ gW := gW_of p_ml (List.mem_map.mpr ⟨q, h, rfl⟩) rfl
theorem gW_mo {q : Nat × Nat} (h : q ∈ moT) : Cond.methodLink (kC q.1) q.2 objectInit ∈ gW := gW_of p_mo (List.mem_map.mpr ⟨q, h, rfl⟩) rfl
theorem gW_ki {q : Nat × Nat × Int} (h : q ∈ kiT) : Cond.constant (kC q.1) q.2.1 (Int32.ofInt q.2.2) ∈ gW := gW_of p_ki (List.mem_map.mpr ⟨q, h, rfl⟩) rfl
theorem gW_kl {q : Nat × Nat × Int} (h : q ∈ klT) : Cond.constantLong (kC q.1) q.2.1 (Int64.ofInt q.2.2) ∈ gW := gW_of p_kl (List.mem_map.mpr ⟨q, h, rfl⟩) rfl
theorem gW_cl {q : Nat × Nat × Nat} (h : q ∈ clT) : Cond.classLink (kC q.1) q.2.1 (kC q.2.2) ∈ gW := gW_of p_cl (List.mem_map.mpr ⟨q, h, rfl⟩) rfl
theorem gW_init : ∀ c, c < 16 → Cond.initialized (kC c) ∈ gW := by
  intro c hc
  have h : c ∈ initT := by revert c; decide
  exact gW_of p_init (List.mem_map.mpr ⟨c, h, rfl⟩) rfl
theorem gW_inst : ∀ c, c < 13 → Cond.instantiable (kC c) (kN c) ∈ gW := by
  intro c hc
  have h : c ∈ instT := by revert c; decide
  exact gW_of p_inst (List.mem_map.mpr ⟨c, h, rfl⟩) rfl
theorem gW_lay : ∀ c, c < 13 → ∀ w ∈ u_ws (kC c) (kT c) (kN c), w ∈ gW := by
  intro c hc w hw
  refine gW_of p_lay (List.mem_flatMap.mpr ⟨c, List.mem_range.mpr hc, hw⟩) ?_
  obtain ⟨k, -, rfl⟩ := List.mem_map.mp hw
  unfold u_lay
  split <;> rfl
theorem fY_vir : ∀ z, z < nY → vkY z = 0 → z ∈ virT := fun z hz h => List.mem_filter.mpr ⟨List.mem_range.mpr hz, by rw [h]; rfl⟩
theorem gW_vi {z : Nat} (hz : z < nY) (h : vkY z = 0) : Cond.instanceMethod (nmY z) ∈ gW := gW_of p_vi (List.mem_map.mpr ⟨z, fY_vir z hz h, rfl⟩) rfl
theorem gW_vs {z : Nat} (hz : z < nY) (h : vkY z = 0) : Cond.selects (nmY z).cls (nmY z) (nmY z) ∈ gW := gW_of p_vs (List.mem_map.mpr ⟨z, fY_vir z hz h, rfl⟩) rfl
theorem gW_st {z : Nat} (hz : z < nY - 1) (h : vkY z = 1) : Cond.static (nmY z) ∈ gW := gW_of p_st (List.mem_map.mpr ⟨z, List.mem_filter.mpr ⟨List.mem_range.mpr hz, by rw [h]; rfl⟩, rfl⟩) rfl
theorem gW_in {z : Nat} (hz : z < nY) (h : vkY z = 2) : Cond.instanceMethod (nmY z) ∈ gW := gW_of p_in (List.mem_map.mpr ⟨z, List.mem_filter.mpr ⟨List.mem_range.mpr hz, by rw [h]; rfl⟩, rfl⟩) rfl
theorem gW_oi : Cond.instanceMethod objectInit ∈ gW := gW_of p_oi (List.mem_of_getElem? (i := 0) rfl) rfl
theorem gW_oc : Cond.code objectInit ⟨#[0xb1]⟩ 1 none ∈ gW := gW_of p_oi (List.mem_of_getElem? (i := 1) rfl) rfl
theorem gW_ai : Cond.arrayClass .int ∈ gW := gW_of p_oi (List.mem_of_getElem? (i := 2) rfl) rfl
theorem gW_al : Cond.arrayClass .long ∈ gW := gW_of p_oi (List.mem_of_getElem? (i := 3) rfl) rfl
theorem fY_1 : ∀ z, z < nY → (nmY z).cls = kC (ocY z) := by decide +kernel
theorem fY_2 : ∀ z, z < nY → ocY z < 16 := by decide +kernel
theorem fY_3 : ∀ z, z < nY - 3 → plainName (nmY z).cls = true := by decide +kernel
theorem fY_4 : ∀ z, z < nY → mxY z ≤ 40 := by decide +kernel
theorem fY_5 : ∀ z, z < nY → vkY z = 2 → (nmY z).name = "<init>" := by decide +kernel
theorem fY_6 : ∀ z, z < nY → vkY z = 2 → rtY z = none := by decide +kernel
theorem fY_7 : ∀ z, z < nY → vkY z = 0 → ocY z < 13 := by decide +kernel
theorem fY_desc : ∀ z, z < nY → (nmY z).cls ≠ "java/lang/invoke/MethodHandle" ∧ (nmY z).cls ≠ "java/lang/invoke/VarHandle" ∧ (parseMethodDescriptor (nmY z).desc).map (fun d => d.parameters.length) = some (npY z) := by decide +kernel
theorem gW_code : ∀ z, z < nY - 1 → Cond.code (nmY z) (byY z) (mxY z) (rtY z) ∈ gW := by
  have key : ∀ a n (ps : List Nat), ((List.range' a n).map (fun y => Cond.code (nmY y) (byY y) (mxY y) (rtY y))) = ps.filterMap (fun i => lw_tbl[i]?) → ∀ z, a ≤ z → z < a + n → Cond.code (nmY z) (byY z) (mxY z) (rtY z) ∈ gW := by
    intro a n ps h z h1 h2
    exact gW_of h (List.mem_map.mpr ⟨z, List.mem_range'_1.mpr ⟨h1, h2⟩, rfl⟩) rfl
  intro z hz
  have hz : z < 301 := hz
  by_cases h0 : z < 20; · exact key _ _ _ p_code_0 z (by omega) (by omega)
  by_cases h0 : z < 40; · exact key _ _ _ p_code_20 z (by omega) (by omega)
  by_cases h0 : z < 60; · exact key _ _ _ p_code_40 z (by omega) (by omega)
  by_cases h0 : z < 80; · exact key _ _ _ p_code_60 z (by omega) (by omega)
  by_cases h0 : z < 100; · exact key _ _ _ p_code_80 z (by omega) (by omega)
  by_cases h0 : z < 120; · exact key _ _ _ p_code_100 z (by omega) (by omega)
  by_cases h0 : z < 140; · exact key _ _ _ p_code_120 z (by omega) (by omega)
  by_cases h0 : z < 160; · exact key _ _ _ p_code_140 z (by omega) (by omega)
  by_cases h0 : z < 180; · exact key _ _ _ p_code_160 z (by omega) (by omega)
  by_cases h0 : z < 200; · exact key _ _ _ p_code_180 z (by omega) (by omega)
  by_cases h0 : z < 220; · exact key _ _ _ p_code_200 z (by omega) (by omega)
  by_cases h0 : z < 240; · exact key _ _ _ p_code_220 z (by omega) (by omega)
  by_cases h0 : z < 260; · exact key _ _ _ p_code_240 z (by omega) (by omega)
  by_cases h0 : z < 280; · exact key _ _ _ p_code_260 z (by omega) (by omega)
  by_cases h0 : z < 300; · exact key _ _ _ p_code_280 z (by omega) (by omega)
  exact key _ _ _ p_code_300 z (by omega) (by omega)
theorem gW_goodIn {z : Nat} (hz : z < nY - 1) : GoodIn gW (wsOf z) := by
  intro w hw
  rcases List.mem_cons.mp hw with rfl | hw
  · exact ⟨gW_code z hz, gW_good (gW_code z hz)⟩
  · exact ⟨hw, gW_good hw⟩
theorem cl_at : ∀ c, c < 13 → classes[c]? = some (kC c, kT c, kN c) := by
  intro c hc
  simp [classes, List.getElem?_map, List.getElem?_range hc]
theorem fC_ty : ∀ c, c < 13 → ∀ k, k < kN c → parseFieldDescriptor (kT c k).2.2.1 = some (kY c k) := by decide +kernel
theorem fC_nm : ∀ c, c < 13 → ∀ a, a < kN c → ∀ b, b < kN c → a ≠ b → (kT c a).2.1 ≠ (kT c b).2.1 := by decide +kernel
theorem fC_fl : ∀ q ∈ flT, q.2.2.1 < 13 ∧ q.2.2.2 < kN q.2.2.1 := by decide +kernel
/-! addresses, values, cells -/
def adr (b base k : Nat) : Nat := if k = 999 then b else base + k
def tr (b base : Nat) : Value → Value
  | .ref k => .ref (adr b base k)
  | v => v
def fval (b base : Nat) (h : Hp) (o ci k : Nat) : Value := match fty ci k with
  | 2 => .long (gl h o k)
  | 3 => va_rf ((gr h o k).map (adr b base))
  | _ => .int (gi h o k)
def fvals (b base : Nat) (h : Hp) (o ci : Nat) : List Value := (List.range (kN ci)).map (fval b base h o ci)
def entc (cA : Nat → ClassId) (b base : Nat) (h : Hp) (o : Nat) : va_E := match SH o with
  | (0, ci) => .inr (ci, fvals b base h o ci)
  | (1, n) => .inl (cA 0, n, .inl (gi h o))
  | (2, n) => .inl (cA 1, n, .inr (.inl (gl h o)))
  | (_, n) => .inl (cA 2, n, .inr (.inr (.inr (.inr (fun k => (gr h o k).map (adr b base))))))
def tysA (cA : Nat → ClassId) : List (ClassId × FieldType) := [(cA 0, .int), (cA 1, .long), (cA 2, .object (kC 3))]
def Wd (D : va_G) (cA : Nat → ClassId) (b base : Nat) (h : Hp) (H : Heap) : Prop := H.size = base + hn h ∧ ∀ o, o < hn h → va_at D classes (base + o, entc cA b base h o) H
theorem Wd.one {D : va_G} {cA : Nat → ClassId} {b base : Nat} {h : Hp} {H : Heap} (hW : Wd D cA b base h H) {o : Nat} (ho : o < hn h) {e : va_E} (he : entc cA b base h o = e) : va_P D classes [(base + o, e)] H := by
  intro k q hk
  have hz : k < 1 := (List.getElem?_eq_some_iff.mp hk).1
  rw [show k = 0 by omega] at hk
  cases hk
  rw [← he]
  exact hW.2 o ho
theorem adr_ob {b base : Nat} {h : Hp} {o ci : Nat} (hob : ob h o ci) : adr b base o = base + o := by
  unfold adr
  rw [if_neg]
  rintro rfl
  have := hob.2
  simp [SH, shT] at this
theorem adr_ar {b base : Nat} {h : Hp} {o t : Nat} (hob : ar h t o) (ht : t ≠ 9) : adr b base o = base + o := by
  unfold adr
  rw [if_neg]
  rintro rfl
  have := hob.2
  simp [SH, shT] at this
  omega
theorem ent_ob {cA : Nat → ClassId} {b base : Nat} {h : Hp} {o ci : Nat} (hob : ob h o ci) : entc cA b base h o = .inr (ci, fvals b base h o ci) := by
  unfold entc; rw [hob.2]; rfl
theorem SH_ci : ∀ o ci, SH o = (0, ci) → ci < 13 := by
  intro o ci h
  by_cases ho : o < 105
  · have : ∀ o, o < 105 → (SH o).1 = 0 → (SH o).2 < 13 := by decide
    have h2 := this o ho (by rw [h])
    rw [h] at h2
    exact h2
  · unfold SH at h
    rw [List.getD_eq_getElem?_getD, List.getElem?_eq_none (show shT.length ≤ o from Nat.not_lt.mp ho)] at h
    cases h
