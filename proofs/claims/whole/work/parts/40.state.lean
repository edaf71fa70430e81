/-! the state of all, as class and model hold it; what a call of both must do -/
abbrev Gs : Type := Mt × Option Mt × List Mt × (Nat × (Nat → Nat)) × (Nat × (Nat → Nat)) × (Nat → Int32)
noncomputable def gX (s : Gs) : Mt := s.1
noncomputable def gI (s : Gs) : Option Mt := s.2.1
noncomputable def gP (s : Gs) : List Mt := s.2.2.1
noncomputable def gRn (s : Gs) : Nat := s.2.2.2.1.1
noncomputable def gRv (s : Gs) : Nat → Nat := s.2.2.2.1.2
noncomputable def gLn (s : Gs) : Nat := s.2.2.2.2.1.1
noncomputable def gLv (s : Gs) : Nat → Nat := s.2.2.2.2.1.2
noncomputable def gF (s : Gs) : Nat → Int32 := s.2.2.2.2.2
noncomputable def IcI (h : Hp) : Option Mt → Prop
  | none => gi h 0 3 = iN 0
  | some y => gi h 0 3 = iN 1 ∧ At h 13 y
noncomputable def Lo (h : Hp) (n : Nat) (v : Nat → Nat) : Prop := gi h 32 2 = iN n ∧ ∀ k, k < 96 → gi h 33 k = iN (v k)
noncomputable def IC (h : Hp) (s : Gs) : Prop := At h 1 (gX s) ∧ IcI h (gI s) ∧ (∃ nx, Pc h nx (gP s)) ∧ Ro h (gRn s) (gRv s) ∧ Lo h (gLn s) (gLv s) ∧ (∀ k, k < 7 → gi h 86 k = gF s k) ∧ Wt h 31 (fun _ => 0)
noncomputable def IoI (h : Hp) : Option Mt → Prop
  | none => gi h 87 19 = iN 0
  | some y => gi h 87 19 = iN 1 ∧ Kx h 99 y
noncomputable def RoO (h : Hp) (n : Nat) (v : Nat → Nat) : Prop := gi h 87 31 = iN n ∧ ∀ k, k < 12 → gi h 104 k = iN (v k)
noncomputable def LoO (h : Hp) (n : Nat) (v : Nat → Nat) : Prop := gi h 87 10 = iN n ∧ ∀ k, k < 96 → gi h 94 k = iN (v k)
noncomputable def Pd (h : Hp) : Prop := gi h 87 28 = zI (-1) ∨ ∃ m, m ≤ 6 ∧ gi h 87 28 = iN m ∧ gi h 87 27 = iN (cw m) ∧ ∀ k, k < cw m → ∀ p, p < m → gi h 102 (6 * k + p) = mI (wy m k p)
noncomputable def IOr (h : Hp) (s : Gs) : Prop := IoI h (gI s) ∧ Po h (gP s) ∧ RoO h (gRn s) (gRv s) ∧ LoO h (gLn s) (gLv s) ∧ (∀ k, k < 7 → gi h 93 k = gF s k) ∧ Pd h
noncomputable def IO (h : Hp) (s : Gs) : Prop := Ao h (gX s) ∧ IOr h s
noncomputable def GW (s : Gs) : Prop := Wf (gX s) ∧ (∀ y, gI s = some y → Wf y) ∧ (∀ y, y ∈ gP s → Wf y) ∧ ro_ok (gRn s) (gRv s) ∧ gLn s ≤ 96 ∧ ∀ k, gLv s k ≤ 255
noncomputable def Sz : Nat → Prop := fun o => (7 ≤ o ∧ o ≤ 12) ∨ o = 19 ∨ o = 20 ∨ (24 ≤ o ∧ o ≤ 30)
noncomputable def Sy : Nat → Prop := fun o => (88 ≤ o ∧ o ≤ 92) ∨ (95 ≤ o ∧ o ≤ 98) ∨ o = 101 ∨ o = 103
noncomputable def Fy : Nat → Prop := fun k => k = 0 ∨ k = 6 ∨ k = 7 ∨ k = 11 ∨ k = 12 ∨ k = 13 ∨ k = 20 ∨ k = 21 ∨ k = 32
noncomputable def Lc87 : Nat → Prop := fun o => o < 87
noncomputable def Gc87 : Nat → Prop := fun o => 87 ≤ o
theorem IcI.fr {h h' : Hp} {S : Nat → Prop} {i : Option Mt} (hI : IcI h i) (f : Fr S h h') (h0 : ¬ S 0) (h1 : ∀ o, 13 ≤ o → o ≤ 18 → ¬ S o) : IcI h' i := by
  cases i with
  | none => show gi h' 0 3 = _; rw [f.i h0]; exact hI
  | some y => exact ⟨by rw [f.i h0]; exact hI.1, hI.2.fr f h1⟩
theorem Pc.fr {h h' : Hp} {S : Nat → Prop} {nx : Nat} {ps : List Mt} (hP : Pc h nx ps) (f : Fr S h h') (h1 : ∀ o, 36 ≤ o → o ≤ 85 → ¬ S o) : Pc h' nx ps := by
  obtain ⟨p1, p2, p3, p4, p5⟩ := hP
  have e := f.i (h1 36 (by omega) (by omega))
  exact ⟨by rw [e]; exact p1, by rw [e]; exact p2, p3, p4, fun k hk => (p5 k hk).fr f fun o h2 h3 => h1 o (by omega) (by omega)⟩
theorem Lo.fr {h h' : Hp} {n : Nat} {v : Nat → Nat} {S : Nat → Prop} (hR : Lo h n v) (f : Fr S h h') (h1 : ¬ S 32) (h2 : ¬ S 33) : Lo h' n v := by unfold Lo; rw [f.i h1, f.i h2]; exact hR
theorem IC.fr {h h' : Hp} {s : Gs} (hI : IC h s) (f : Fr Sz h h') : IC h' s := by
  obtain ⟨a, b, ⟨nx, c⟩, d, e, g, w⟩ := hI
  refine ⟨a.fr f ?_, b.fr f ?_ ?_, ⟨nx, c.fr f ?_⟩, d.fr f ?_ ?_, e.fr f ?_ ?_, ?_, w.fr f ?_⟩
  · intro o h1 h2; unfold Sz; omega
  · unfold Sz; omega
  · intro o h1 h2; unfold Sz; omega
  · intro o h1 h2; unfold Sz; omega
  · unfold Sz; omega
  · unfold Sz; omega
  · unfold Sz; omega
  · unfold Sz; omega
  · rw [f.i (by unfold Sz; omega)]; exact g
  · unfold Sz; omega
theorem Po.fr {h h' : Hp} {ps : List Mt} {S F : Nat → Prop} (hP : Po h ps) (f : Fo S F h h') (h1 : ¬ S 100) (h2 : ¬ F 25) : Po h' ps := by
  obtain ⟨a, b, c⟩ := hP
  refine ⟨by rw [f.2 25 h2]; exact a, b, ?_⟩
  rw [f.i h1 (by omega)]; exact c
theorem IOr.fr {h h' : Hp} {s : Gs} (hI : IOr h s) (f : Fo Sy Fy h h') : IOr h' s := by
  obtain ⟨a, b, c, d, e, g⟩ := hI
  refine ⟨?_, b.fr f ?_ ?_, ⟨?_, ?_⟩, ⟨?_, ?_⟩, ?_, ?_⟩
  · cases hi : gI s with
    | none => rw [hi] at a; show gi h' 87 19 = _; rw [f.2 19 (by unfold Fy; omega)]; exact a
    | some y => rw [hi] at a; exact ⟨by rw [f.2 19 (by unfold Fy; omega)]; exact a.1, a.2.fr f (by unfold Sy; omega) (by omega)⟩
  · unfold Sy; omega
  · unfold Fy; omega
  · rw [f.2 31 (by unfold Fy; omega)]; exact c.1
  · rw [f.i (o := 104) (by unfold Sy; omega) (by omega)]; exact c.2
  · rw [f.2 10 (by unfold Fy; omega)]; exact d.1
  · rw [f.i (o := 94) (by unfold Sy; omega) (by omega)]; exact d.2
  · rw [f.i (o := 93) (by unfold Sy; omega) (by omega)]; exact e
  · unfold Pd
    rw [f.2 28 (by unfold Fy; omega), f.2 27 (by unfold Fy; omega), f.i (o := 102) (by unfold Sy; omega) (by omega)]; exact g
/-- of the class' calls, those two answer longs -/
noncomputable def isLg (y : Nat) : Bool := y == 172 || y == 179
noncomputable def kdV (y : Nat) (v : Value) : Prop := match isLg y with | true => ∃ x, v = Value.long x | false => ∃ x, v = Value.int x
/-- a call of both: one answer, one state behind it -/
def OpOk (yc ym : Nat) (as : List Value) (s : Gs) : Prop := ∃ v s', kdV yc v ∧ GW s' ∧ (∀ h, Bs h → IC h s → ∃ h', Ret 14 yc (.ref 0 :: as) h (some v) h' ∧ IC h' s' ∧ Fr Lc87 h h') ∧ ∀ h, Bs h → IO h s → ∃ h', Ret 14 ym (.ref 87 :: as) h (some v) h' ∧ IO h' s' ∧ Fr Gc87 h h'
theorem Fo.gc {S F : Nat → Prop} {h h' : Hp} (f : Fo S F h h') (hs : ∀ o, S o → 87 ≤ o) : Fr Gc87 h h' := f.1.mono fun o ho => ho.elim (hs o) (fun e => by unfold Gc87; omega)
theorem op_query {yc ym : Nat} {as : List Value} {s : Gs} (hs : GW s) {v : Value} (hc : ∀ h, Bs h → IC h s → ∃ h', Ret 14 yc (.ref 0 :: as) h (some v) h' ∧ Fr Sz h h') (hm : ∀ h, Bs h → IO h s → ∃ h', Ret 14 ym (.ref 87 :: as) h (some v) h' ∧ Ao h' (gX s) ∧ Fo Sy Fy h h') (hv : kdV yc v := by first | (show ∃ x, _ = Value.int x; exact ⟨_, rfl⟩) | (show ∃ x, _ = Value.long x; exact ⟨_, rfl⟩)) : OpOk yc ym as s := by
  refine ⟨v, s, hv, hs, fun h hB hI => ?_, fun h hB hI => ?_⟩
  · obtain ⟨h', r, f⟩ := hc h hB hI
    exact ⟨h', r, hI.fr f, f.mono fun o ho => by unfold Sz at ho; unfold Lc87; omega⟩
  · obtain ⟨h', r, A, f⟩ := hm h hB hI
    exact ⟨h', r, ⟨A, hI.2.fr f⟩, f.gc fun o ho => by unfold Sy at ho; omega⟩
noncomputable def gRef (s : Gs) (k : Nat) : Gs := (gX s, gI s, gP s, (gRn s, gRv s), (gLn s, gLv s), up (gF s) k (gF s k + iN 1))
theorem op_refuse {yc ym : Nat} {as : List Value} {s : Gs} (hs : GW s) {k : Nat} (hk : k < 7) {v : Value} (hc : ∀ h, Bs h → IC h s → Ret 14 yc (.ref 0 :: as) h (some v) (si h 86 k (gi h 86 k + iN 1))) (hm : ∀ h, Bs h → IO h s → Ret 14 ym (.ref 87 :: as) h (some v) (si (si h 87 7 (iN 0)) 93 k (gi (si h 87 7 (iN 0)) 93 k + iN 1))) (hv : kdV yc v := by first | (show ∃ x, _ = Value.int x; exact ⟨_, rfl⟩) | (show ∃ x, _ = Value.long x; exact ⟨_, rfl⟩)) : OpOk yc ym as s := by
  refine ⟨v, gRef s k, hv, hs, fun h hB hI => ⟨_, hc h hB hI, ?_, (Fr.rf _ h).si (by unfold Lc87; omega) _ _⟩, fun h hB hI => ⟨_, hm h hB hI, ?_, ((Fr.rf _ h).si (by unfold Gc87; omega) _ _).si (by unfold Gc87; omega) _ _⟩⟩
  · have f : Fr (fun o => o = 86) h (si h 86 k (gi h 86 k + iN 1)) := (Fr.rf (fun o => o = 86) h).si rfl _ _
    obtain ⟨a, b, ⟨nx, c⟩, d, e, g, w⟩ := hI
    refine ⟨a.fr f (by intro o _ _; omega), b.fr f (by omega) (by intro o _ _; omega), ⟨nx, c.fr f (by intro o _ _; omega)⟩, d.fr f (by omega) (by omega), e.fr f (by omega) (by omega), ?_, w.fr f (by omega)⟩
    intro j hj
    rw [gi_si, up_s]
    show _ = up (gF s) k (gF s k + iN 1) j
    by_cases ej : j = k
    · rw [up_t ej, up_t ej, g k hk]
    · rw [up_f ej, up_f ej]; exact g j hj
  · have f : Fo Sy Fy h (si h 87 7 (iN 0)) := (Fo.rf _ _ h).sf (by unfold Fy; omega) _
    have A := Ao_f hI.1 (show ¬ 7 = 0 by omega) (by omega) (iN 0)
    obtain ⟨a, b, c, d, e, g⟩ := hI.2.fr f
    have f2 : Fo (fun o => o = 93) (fun _ => False) (si h 87 7 (iN 0)) (si (si h 87 7 (iN 0)) 93 k (gi (si h 87 7 (iN 0)) 93 k + iN 1)) := (Fo.rf (fun o => o = 93) (fun _ => False) (si h 87 7 (iN 0))).sa (o := 93) rfl (by omega) _ _
    refine ⟨A.fr f2 (by intro o _ _; omega) id id, ?_, b.fr f2 (by omega) id, ⟨?_, ?_⟩, ⟨?_, ?_⟩, ?_, ?_⟩
    · show IoI _ (gI s)
      cases hi : gI s with
      | none => rw [hi] at a; show gi _ 87 19 = _; rw [f2.2 19 id]; exact a
      | some y => rw [hi] at a; exact ⟨by rw [f2.2 19 id]; exact a.1, a.2.fr f2 (by omega) (by omega)⟩
    · rw [f2.2 31 id]; exact c.1
    · rw [f2.i (o := 104) (by omega) (by omega)]; exact c.2
    · rw [f2.2 10 id]; exact d.1
    · rw [f2.i (o := 94) (by omega) (by omega)]; exact d.2
    · intro j hj
      rw [gi_si, up_s]
      show _ = up (gF s) k (gF s k + iN 1) j
      by_cases ej : j = k
      · rw [up_t ej, up_t ej, e k hk]
      · rw [up_f ej, up_f ej]; exact e j hj
    · unfold Pd
      rw [f2.2 28 id, f2.2 27 id, f2.i (o := 102) (by omega) (by omega)]; exact g
/-- at the start of the model's call -/
theorem IO_0 {h : Hp} {s : Gs} (hI : IO h s) : Ao (si h 87 7 (iN 0)) (gX s) ∧ IOr (si h 87 7 (iN 0)) s ∧ Fo Sy Fy h (si h 87 7 (iN 0)) := by
  have f : Fo Sy Fy h (si h 87 7 (iN 0)) := (Fo.rf _ _ h).sf (by unfold Fy; omega) _
  exact ⟨Ao_f hI.1 (by omega) (by omega) _, hI.2.fr f, f⟩
theorem Fo_y98 {h h' : Hp} (f : Fo (Sc 98) Fc h h') : Fo Sy Fy h h' := f.mono (fun o ho => by unfold Sc at ho; unfold Sy; omega) (fun k hk => by unfold Fc at hk; unfold Fy; omega)
theorem Fo_yq {h h' : Hp} (f : Fo Sq Fq h h') : Fo Sy Fy h h' := f.mono (fun o ho => by unfold Sq at ho; unfold Sy; omega) (fun k hk => by unfold Fq at hk; unfold Fy; omega)
theorem Fr_zd {h h' : Hp} (f : Fr Sd h h') : Fr Sz h h' := f.mono fun o ho => by unfold Sd at ho; unfold Sz; omega
theorem Fr_zk {h h' : Hp} (f : Fr Sk h h') : Fr Sz h h' := Fr_zd (Sk_d f)
theorem Fr_zp {h h' : Hp} (f : Fr Sp h h') : Fr Sz h h' := f.mono fun o ho => by unfold Sp at ho; unfold Sz; omega
theorem Fr_zl {h h' : Hp} (f : Fr Sl h h') : Fr Sz h h' := f.mono fun o ho => by unfold Sl at ho; unfold Sz; omega
theorem F_facts {h : Hp} (hB : Bs h) : ob h 0 11 ∧ gr h 0 0 = some 1 ∧ gr h 0 1 = some 7 ∧ gr h 0 2 = some 13 ∧ gr h 0 4 = some 19 ∧ gr h 0 5 = some 21 ∧ gr h 0 6 = some 22 ∧ gr h 0 7 = some 23 ∧ gr h 0 8 = some 28 ∧ gr h 0 9 = some 29 ∧ gr h 0 10 = some 32 ∧ gr h 0 11 = some 34 ∧ gr h 0 12 = some 36 ∧ gr h 0 13 = some 86 ∧ ob h 21 9 ∧ ob h 22 4 ∧ ob h 23 5 ∧ ob h 28 2 ∧ ob h 29 0 ∧ ob h 32 7 ∧ ob h 34 8 ∧ ob h 36 6 ∧ ob h 1 3 :=
  ⟨hB.ob (by decide) (by decide), hB.r (by decide), hB.r (by decide), hB.r (by decide), hB.r (by decide), hB.r (by decide), hB.r (by decide), hB.r (by decide), hB.r (by decide), hB.r (by decide), hB.r (by decide), hB.r (by decide), hB.r (by decide), hB.r (by decide), hB.ob (by decide) (by decide), hB.ob (by decide) (by decide), hB.ob (by decide) (by decide), hB.ob (by decide) (by decide), hB.ob (by decide) (by decide), hB.ob (by decide) (by decide), hB.ob (by decide) (by decide), hB.ob (by decide) (by decide), hB.ob (by decide) (by decide)⟩
/-- a raw int in bounds or not -/
theorem raw_lt {c : Int32} {k : Nat} (h : c < iN k) : c < iN k ∧ ¬ iN k ≤ c := ⟨h, Int32.not_le.mpr h⟩
theorem raw_ge {c : Int32} {k : Nat} (h : ¬ c < iN k) : ¬ c < iN k ∧ iN k ≤ c := ⟨h, Int32.not_lt.mp h⟩
theorem raw_gt {c : Int32} {k : Nat} (h : iN k < c) : iN k < c ∧ ¬ c ≤ iN k := ⟨h, Int32.not_le.mpr h⟩
theorem raw_le {c : Int32} {k : Nat} (h : ¬ iN k < c) : ¬ iN k < c ∧ c ≤ iN k := ⟨h, Int32.not_lt.mp h⟩
theorem ex_le {c : Int32} {k : Nat} (h0 : ¬ c < iN 0) (h1 : ¬ iN k < c) (hk : k < 2147483647) : ∃ n, n ≤ k ∧ c = iN n := by
  obtain ⟨n, hn, e⟩ := ex_N (n := k + 1) h0 (by
    intro h2
    apply h1
    rw [Int32.lt_iff_toInt_lt, iN_toInt (by omega)]
    rw [Int32.le_iff_toInt_le, iN_toInt (by omega)] at h2
    omega) (by omega)
  exact ⟨n, by omega, e⟩
