/-! ints as numbers; the small heap's rows; the fixed references -/
theorem iN_ex : ∃ f : Nat → Int32, ∀ k, f k = Int32.ofNat k := ⟨Int32.ofNat, fun _ => rfl⟩
theorem jN_ex : ∃ f : Nat → Int64, ∀ k, f k = Int64.ofNat k := ⟨Int64.ofNat, fun _ => rfl⟩
theorem zI_ex : ∃ f : Int → Int32, ∀ k, f k = Int32.ofInt k := ⟨Int32.ofInt, fun _ => rfl⟩
/-- ints by their numbers; chosen, so that nobody computes them -/
noncomputable def iN : Nat → Int32 := Classical.choose iN_ex
noncomputable def jN : Nat → Int64 := Classical.choose jN_ex
noncomputable def zI : Int → Int32 := Classical.choose zI_ex
theorem iN_def (k : Nat) : iN k = Int32.ofNat k := Classical.choose_spec iN_ex k
theorem jN_def (k : Nat) : jN k = Int64.ofNat k := Classical.choose_spec jN_ex k
theorem zI_def (k : Int) : zI k = Int32.ofInt k := Classical.choose_spec zI_ex k
theorem i0 : (0 : Int32) = iN 0 := (iN_def 0).symm
theorem i1 : (1 : Int32) = iN 1 := (iN_def 1).symm
theorem l0 : (0 : Int64) = jN 0 := (jN_def 0).symm
theorem iNd (a : Nat) : Int32.ofNat a = iN a := (iN_def a).symm
theorem iN_toInt {a : Nat} (ha : a < 2147483648) : (iN a).toInt = a := by rw [iN_def]; exact Int32.toInt_ofNat_of_lt ha
theorem iN_lt {a b : Nat} (ha : a < 2147483648) (hb : b < 2147483648) : (iN a < iN b) = (a < b) := by rw [iN_def, iN_def]; exact propext (Int32.ofNat_lt_iff_lt ha hb)
theorem iN_le {a b : Nat} (ha : a < 2147483648) (hb : b < 2147483648) : (iN a ≤ iN b) = (a ≤ b) := by rw [iN_def, iN_def]; exact propext (Int32.ofNat_le_iff_le ha hb)
theorem iN_inj {a b : Nat} (ha : a < 2147483648) (hb : b < 2147483648) (h : iN a = iN b) : a = b := by
  have h1 := iN_toInt ha
  rw [h, iN_toInt hb] at h1
  omega
theorem iN_eq {a b : Nat} (ha : a < 2147483648) (hb : b < 2147483648) : (iN a = iN b) = (a = b) := propext ⟨iN_inj ha hb, fun h => h ▸ rfl⟩
theorem iN_add (a b : Nat) : iN a + iN b = iN (a + b) := by rw [iN_def, iN_def, iN_def]; exact (Int32.ofNat_add a b).symm
theorem iN_mul (a b : Nat) : iN a * iN b = iN (a * b) := by rw [iN_def, iN_def, iN_def]; exact (Int32.ofNat_mul a b).symm
theorem iN_sub {a b : Nat} (h : b ≤ a) : iN a - iN b = iN (a - b) := by rw [iN_def, iN_def, iN_def]; exact (Int32.ofNat_sub a b h).symm
theorem iN_mod (a b : Nat) : iN a - iN (a / b * b) = iN (a % b) := by
  rw [iN_sub (Nat.div_mul_le_self a b)]
  congr 1
  have := Nat.div_add_mod a b
  rw [Nat.mul_comm] at this
  omega
theorem iN_div {a b : Nat} (ha : a < 2147483648) (hb : b < 2147483648) : iN a / iN b = iN (a / b) := by rw [iN_def, iN_def, iN_def]; exact (Int32.ofNat_div ha hb).symm
theorem iN_clamp {a : Nat} (ha : a < 2147483648) : (iN a).toNatClampNeg = a := by rw [iN_def]; exact Int32.toNatClampNeg_ofNat_of_lt ha
theorem iN_inb {a n : Nat} (ha : a < 2147483648) : inb (iN a) n = (a < n) := by
  unfold inb
  rw [iN_clamp ha, i0, iN_lt ha (by decide)]
  exact propext ⟨fun h => h.2, fun h => ⟨Nat.not_lt_zero _, h⟩⟩
theorem iN_m1 {a : Nat} (h : 1 ≤ a) : iN a + zI (-1) = iN (a - 1) := by
  rw [← iN_sub h, Int32.sub_eq_add_neg, zI_def, iN_def 1]
  rfl
theorem iZ_toInt {z : Int} (h1 : -2147483648 ≤ z) (h2 : z < 2147483648) : (zI z).toInt = z := by rw [zI_def]; exact Int32.toInt_ofInt_of_le h1 h2
theorem iN_Z (k : Nat) : iN k = zI (k : Int) := by rw [iN_def, zI_def]; exact Int32.ofInt_eq_ofNat.symm
theorem zlt_N {z : Int} {a : Nat} (ha : a < 2147483648) (h1 : -2147483648 ≤ z) (h2 : z < 0) : (zI z < iN a) = True := by
  rw [Int32.lt_iff_toInt_lt, iZ_toInt h1 (by omega), iN_toInt ha]; exact propext ⟨fun _ => trivial, fun _ => by omega⟩
theorem zle_N {z : Int} {a : Nat} (ha : a < 2147483648) (h1 : -2147483648 ≤ z) (h2 : z < 0) : (zI z ≤ iN a) = True := by
  rw [Int32.le_iff_toInt_le, iZ_toInt h1 (by omega), iN_toInt ha]; exact propext ⟨fun _ => trivial, fun _ => by omega⟩
theorem zN_lt {z : Int} {a : Nat} (ha : a < 2147483648) (h1 : -2147483648 ≤ z) (h2 : z < 0) : (iN a < zI z) = False := by
  rw [Int32.lt_iff_toInt_lt, iZ_toInt h1 (by omega), iN_toInt ha]; exact propext ⟨fun _ => by omega, fun h => h.elim⟩
theorem zN_le {z : Int} {a : Nat} (ha : a < 2147483648) (h1 : -2147483648 ≤ z) (h2 : z < 0) : (iN a ≤ zI z) = False := by
  rw [Int32.le_iff_toInt_le, iZ_toInt h1 (by omega), iN_toInt ha]; exact propext ⟨fun _ => by omega, fun h => h.elim⟩
theorem zN_eq {z : Int} {a : Nat} (ha : a < 2147483648) (h1 : -2147483648 ≤ z) (h2 : z < 0) : (iN a = zI z) = False := by
  refine propext ⟨fun h => ?_, fun h => h.elim⟩
  have h3 := iN_toInt ha
  rw [h, iZ_toInt h1 (by omega)] at h3
  omega
theorem Nz_eq {z : Int} {a : Nat} (ha : a < 2147483648) (h1 : -2147483648 ≤ z) (h2 : z < 0) : (zI z = iN a) = False := by
  rw [← zN_eq ha h1 h2]; exact propext eq_comm
/-- a mate as the mats hold it: 6 and on, nobody -/
noncomputable def mI (t : Nat) : Int32 := if t < 6 then iN t else zI (-9)
theorem mI_t {t : Nat} (h : t < 6) : mI t = iN t := if_pos h
theorem mI_f {t : Nat} (h : ¬ t < 6) : mI t = zI (-9) := if_neg h
/-- a truth as an int -/
noncomputable def bI (p : Prop) : Int32 := @ite _ p (Classical.propDecidable p) (iN 1) (iN 0)
theorem bI_t {p : Prop} (h : p) : bI p = iN 1 := by unfold bI; rw [if_pos h]
theorem bI_f {p : Prop} (h : ¬ p) : bI p = iN 0 := by unfold bI; rw [if_neg h]
theorem iN_10 : iN 1 ≠ iN 0 := by rw [iN_def, iN_def]; decide
theorem bI_0 (p : Prop) : (bI p = iN 0) = ¬ p := by
  by_cases h : p
  · rw [bI_t h]; exact propext ⟨fun h2 => absurd h2 iN_10, fun h2 => absurd h h2⟩
  · rw [bI_f h]; exact propext ⟨fun _ => h, fun _ => rfl⟩
theorem bI_1 (p : Prop) : (bI p = iN 1) = p := by
  by_cases h : p
  · rw [bI_t h]; exact propext ⟨fun _ => h, fun _ => rfl⟩
  · rw [bI_f h]; exact propext ⟨fun h2 => absurd h2.symm iN_10, fun h2 => absurd h2 h⟩
theorem bI_or (p : Prop) : (¬ p ∨ p) = True := propext ⟨fun _ => trivial, fun _ => (Classical.em p).symm⟩
theorem bI_True : bI True = iN 1 := bI_t trivial
theorem bI_False : bI False = iN 0 := bI_f id
theorem dltT {a b : Nat} (h : a < b) : (a < b) = True := eq_true h
theorem dltF {a b : Nat} (h : ¬ a < b) : (a < b) = False := eq_false h
theorem dleT {a b : Nat} (h : a ≤ b) : (a ≤ b) = True := eq_true h
theorem dleF {a b : Nat} (h : ¬ a ≤ b) : (a ≤ b) = False := eq_false h
theorem deqT {a b : Nat} (h : a = b) : (a = b) = True := eq_true h
theorem deqF {a b : Nat} (h : ¬ a = b) : (a = b) = False := eq_false h
/-! longs -/
theorem jN_toInt {a : Nat} (ha : a < 9223372036854775808) : (jN a).toInt = a := by rw [jN_def]; exact Int64.toInt_ofNat_of_lt ha
theorem jN_lt {a b : Nat} (ha : a < 9223372036854775808) (hb : b < 9223372036854775808) : (jN a < jN b) = (a < b) := by rw [jN_def, jN_def]; exact propext (Int64.ofNat_lt_iff_lt ha hb)
theorem jN_le {a b : Nat} (ha : a < 9223372036854775808) (hb : b < 9223372036854775808) : (jN a ≤ jN b) = (a ≤ b) := by rw [jN_def, jN_def]; exact propext (Int64.ofNat_le_iff_le ha hb)
theorem jN_eq {a b : Nat} (ha : a < 9223372036854775808) (hb : b < 9223372036854775808) : (jN a = jN b) = (a = b) := by
  refine propext ⟨fun h => ?_, fun h => h ▸ rfl⟩
  have h1 := jN_toInt ha
  rw [h, jN_toInt hb] at h1
  omega
theorem jN_add (a b : Nat) : jN a + jN b = jN (a + b) := by rw [jN_def, jN_def, jN_def]; exact (Int64.ofNat_add a b).symm
theorem jN_mul (a b : Nat) : jN a * jN b = jN (a * b) := by rw [jN_def, jN_def, jN_def]; exact (Int64.ofNat_mul a b).symm
theorem jN_sub {a b : Nat} (h : b ≤ a) : jN a - jN b = jN (a - b) := by rw [jN_def, jN_def, jN_def]; exact (Int64.ofNat_sub a b h).symm
theorem jN_div {a b : Nat} (ha : a < 9223372036854775808) (hb : b < 9223372036854775808) : jN a / jN b = jN (a / b) := by rw [jN_def, jN_def, jN_def]; exact (Int64.ofNat_div ha hb).symm
theorem jN_mod (a b : Nat) : jN a - jN (a / b * b) = jN (a % b) := by
  rw [jN_sub (Nat.div_mul_le_self a b)]
  congr 1
  have := Nat.div_add_mod a b
  rw [Nat.mul_comm] at this
  omega
theorem lc_lt (x y : Int64) : (lg_cmp x y < iN 0) = (x < y) := by
  rw [← i0]
  unfold lg_cmp
  have h1 := Int64.lt_iff_toInt_lt (x := x) (y := y)
  have h2 := Int64.lt_iff_toInt_lt (x := y) (y := x)
  by_cases hgt : x > y
  · rw [if_pos hgt]
    exact propext ⟨fun h => absurd h (by decide), fun h => by have := h1.mp h; have := h2.mp hgt; omega⟩
  · rw [if_neg hgt]
    by_cases he : x = y
    · rw [if_pos he]
      exact propext ⟨fun h => absurd h (by decide), fun h => by have := h1.mp h; rw [he] at this; omega⟩
    · rw [if_neg he]
      refine propext ⟨fun _ => h1.mpr ?_, fun _ => by decide⟩
      have h3 : ¬ y.toInt < x.toInt := fun h => hgt (h2.mpr h)
      have h4 : x.toInt ≠ y.toInt := fun h => he (Int64.toInt.inj h)
      omega
theorem lc_gt (x y : Int64) : (iN 0 < lg_cmp x y) = (y < x) := by
  rw [← i0]
  unfold lg_cmp
  by_cases hgt : x > y
  · rw [if_pos hgt]; exact propext ⟨fun _ => hgt, fun _ => by decide⟩
  · rw [if_neg hgt]
    by_cases he : x = y
    · rw [if_pos he]; exact propext ⟨fun h => absurd h (by decide), fun h => absurd h hgt⟩
    · rw [if_neg he]; exact propext ⟨fun h => absurd h (by decide), fun h => absurd h hgt⟩
theorem lc_ge (x y : Int64) : (iN 0 ≤ lg_cmp x y) = (y ≤ x) := by
  have h := lc_lt x y
  have h1 : (iN 0 ≤ lg_cmp x y) = ¬ (lg_cmp x y < iN 0) := propext Int32.not_lt.symm
  rw [h1, h]; exact propext Int64.not_lt
theorem lc_le (x y : Int64) : (lg_cmp x y ≤ iN 0) = (x ≤ y) := by
  have h := lc_gt x y
  have h1 : (lg_cmp x y ≤ iN 0) = ¬ (iN 0 < lg_cmp x y) := propext Int32.not_lt.symm
  rw [h1, h]; exact propext Int64.not_lt
theorem lc_eq (x y : Int64) : (lg_cmp x y = iN 0) = (x = y) := by
  rw [← i0]
  unfold lg_cmp
  by_cases hgt : x > y
  · rw [if_pos hgt]
    refine propext ⟨fun h => absurd h (by decide), fun h => ?_⟩
    subst h
    have := Int64.lt_iff_toInt_lt.mp hgt
    omega
  · rw [if_neg hgt]
    by_cases he : x = y
    · rw [if_pos he]; exact propext ⟨fun _ => he, fun _ => rfl⟩
    · rw [if_neg he]; exact propext ⟨fun h => absurd h (by decide), fun h => absurd h he⟩
theorem iN_l {a : Nat} (ha : a < 2147483648) : (iN a).toInt64 = jN a := by
  refine Int64.toInt.inj ?_
  rw [Int32.toInt_toInt64, iN_toInt ha, jN_toInt (by omega)]
/-! the heap's rows -/
theorem gi_si (h : Hp) (o k : Nat) (v : Int32) : gi (si h o k v) = up (gi h) o (up (gi h o) k v) := rfl
theorem gl_si (h : Hp) (o k : Nat) (v : Int32) : gl (si h o k v) = gl h := rfl
theorem gr_si (h : Hp) (o k : Nat) (v : Int32) : gr (si h o k v) = gr h := rfl
theorem hn_si (h : Hp) (o k : Nat) (v : Int32) : hn (si h o k v) = hn h := rfl
theorem hL_si (h : Hp) (o k : Nat) (v : Int32) : hL (si h o k v) = hL h := rfl
theorem hX_si (h : Hp) (o k : Nat) (v : Int32) : hX (si h o k v) = hX h := rfl
theorem gi_sl (h : Hp) (o k : Nat) (v : Int64) : gi (sl h o k v) = gi h := rfl
theorem gl_sl (h : Hp) (o k : Nat) (v : Int64) : gl (sl h o k v) = up (gl h) o (up (gl h o) k v) := rfl
theorem gr_sl (h : Hp) (o k : Nat) (v : Int64) : gr (sl h o k v) = gr h := rfl
theorem hn_sl (h : Hp) (o k : Nat) (v : Int64) : hn (sl h o k v) = hn h := rfl
theorem ob_si (h : Hp) (o k : Nat) (v : Int32) (a b : Nat) : ob (si h o k v) a b = ob h a b := rfl
theorem ar_si (h : Hp) (o k : Nat) (v : Int32) (a b : Nat) : ar (si h o k v) a b = ar h a b := rfl
theorem ob_sl (h : Hp) (o k : Nat) (v : Int64) (a b : Nat) : ob (sl h o k v) a b = ob h a b := rfl
theorem ar_sl (h : Hp) (o k : Nat) (v : Int64) (a b : Nat) : ar (sl h o k v) a b = ar h a b := rfl
theorem up_t {α : Type} {f : Nat → α} {k j : Nat} {v : α} (h : j = k) : up f k v j = v := if_pos h
theorem up_f {α : Type} {f : Nat → α} {k j : Nat} {v : α} (h : ¬ j = k) : up f k v j = f j := if_neg h
theorem up_s {α : Type} {f : Nat → α} {k : Nat} {v : α} : up f k v k = v := if_pos rfl
/-- the references that stay: cell, field, what is there -/
noncomputable def grT : List (Nat × Nat × Nat) := [(0, 0, 1), (0, 1, 7), (0, 2, 13), (0, 4, 19), (0, 5, 21), (0, 6, 22), (0, 7, 23), (0, 8, 28), (0, 9, 29), (0, 10, 32), (0, 11, 34), (0, 12, 36), (0, 13, 86), (1, 0, 2), (1, 1, 3), (1, 2, 4), (1, 3, 5), (1, 4, 6), (7, 0, 8), (7, 1, 9), (7, 2, 10), (7, 3, 11), (7, 4, 12), (13, 0, 14), (13, 1, 15), (13, 2, 16), (13, 3, 17), (13, 4, 18), (38, 0, 39), (38, 1, 40), (38, 2, 41), (38, 3, 42), (38, 4, 43), (44, 0, 45), (44, 1, 46), (44, 2, 47), (44, 3, 48), (44, 4, 49), (50, 0, 51), (50, 1, 52), (50, 2, 53), (50, 3, 54), (50, 4, 55), (56, 0, 57), (56, 1, 58), (56, 2, 59), (56, 3, 60), (56, 4, 61), (62, 0, 63), (62, 1, 64), (62, 2, 65), (62, 3, 66), (62, 4, 67), (68, 0, 69), (68, 1, 70), (68, 2, 71), (68, 3, 72), (68, 4, 73), (74, 0, 75), (74, 1, 76), (74, 2, 77), (74, 3, 78), (74, 4, 79), (80, 0, 81), (80, 1, 82), (80, 2, 83), (80, 3, 84), (80, 4, 85), (19, 0, 20), (21, 0, 1), (22, 0, 1), (22, 1, 7), (22, 2, 19), (23, 0, 1), (23, 1, 7), (23, 2, 19), (23, 3, 24), (23, 4, 27), (24, 0, 25), (24, 1, 26), (28, 0, 1), (28, 1, 7), (28, 2, 19), (29, 0, 1), (29, 1, 19), (29, 2, 30), (29, 3, 31), (32, 0, 19), (32, 1, 33), (34, 0, 35), (36, 0, 37), (37, 0, 38), (37, 1, 44), (37, 2, 50), (37, 3, 56), (37, 4, 62), (37, 5, 68), (37, 6, 74), (37, 7, 80), (87, 1, 88), (87, 2, 89), (87, 3, 90), (87, 4, 91), (87, 5, 92), (87, 8, 93), (87, 9, 94), (87, 14, 95), (87, 15, 96), (87, 16, 97), (87, 17, 98), (87, 18, 99), (87, 23, 100), (87, 24, 101), (87, 26, 102), (87, 29, 103), (87, 30, 104)]
noncomputable def isM (m : Nat) : Prop := m = 1 ∨ m = 7 ∨ m = 13 ∨ m = 38 ∨ m = 44 ∨ m = 50 ∨ m = 56 ∨ m = 62 ∨ m = 68 ∨ m = 74 ∨ m = 80
noncomputable def Bs (h : Hp) : Prop := hn h = 105 ∧ ∀ q ∈ grT, gr h q.1 q.2.1 = some q.2.2
theorem Bs.si {h : Hp} (hB : Bs h) (o k : Nat) (v : Int32) : Bs (si h o k v) := hB
theorem Bs.sl {h : Hp} (hB : Bs h) (o k : Nat) (v : Int64) : Bs (sl h o k v) := hB
theorem Bs.r {h : Hp} (hB : Bs h) {o k v : Nat} (hq : (o, k, v) ∈ grT) : gr h o k = some v := hB.2 _ hq
theorem Bs.ob {h : Hp} (hB : Bs h) {o ci : Nat} (ho : o < 105) (hs : SH o = (0, ci)) : ob h o ci := ⟨by rw [hB.1]; exact ho, hs⟩
theorem Bs.ar {h : Hp} (hB : Bs h) {o t : Nat} (ho : o < 105) (hs : (SH o).1 = t) : ar h t o := ⟨by rw [hB.1]; exact ho, hs⟩
/-- what a call may have changed: cells of S alone (and the model's keptIn) -/
noncomputable def Fr (S : Nat → Prop) (h h' : Hp) : Prop := hn h' = hn h ∧ hL h' = hL h ∧ hX h' = hX h ∧ (∀ o, ¬ S o → gi h' o = gi h o ∧ gl h' o = gl h o) ∧ ∀ o k, ¬ (o = 87 ∧ k = 22) → gr h' o k = gr h o k
theorem Fr.rf (S : Nat → Prop) (h : Hp) : Fr S h h := ⟨rfl, rfl, rfl, fun _ _ => ⟨rfl, rfl⟩, fun _ _ _ => rfl⟩
theorem Fr.mono {S T : Nat → Prop} {h h' : Hp} (f : Fr S h h') (hs : ∀ o, S o → T o) : Fr T h h' := ⟨f.1, f.2.1, f.2.2.1, fun o ho => f.2.2.2.1 o fun h => ho (hs o h), f.2.2.2.2⟩
theorem Fr.tr {S : Nat → Prop} {h h1 h2 : Hp} (f : Fr S h h1) (g : Fr S h1 h2) : Fr S h h2 := ⟨g.1.trans f.1, g.2.1.trans f.2.1, g.2.2.1.trans f.2.2.1, fun o ho => ⟨(g.2.2.2.1 o ho).1.trans (f.2.2.2.1 o ho).1, (g.2.2.2.1 o ho).2.trans (f.2.2.2.1 o ho).2⟩, fun o k hk => (g.2.2.2.2 o k hk).trans (f.2.2.2.2 o k hk)⟩
theorem Fr.si {S : Nat → Prop} {h h' : Hp} (f : Fr S h h') {o : Nat} (ho : S o) (k : Nat) (v : Int32) : Fr S h (si h' o k v) := ⟨f.1, f.2.1, f.2.2.1, fun p hp => ⟨by rw [gi_si, up_f (fun e : p = o => hp (by rw [e]; exact ho))]; exact (f.2.2.2.1 p hp).1, (f.2.2.2.1 p hp).2⟩, f.2.2.2.2⟩
theorem Fr.sl {S : Nat → Prop} {h h' : Hp} (f : Fr S h h') {o : Nat} (ho : S o) (k : Nat) (v : Int64) : Fr S h (sl h' o k v) := ⟨f.1, f.2.1, f.2.2.1, fun p hp => ⟨(f.2.2.2.1 p hp).1, by rw [gl_sl, up_f (fun e : p = o => hp (by rw [e]; exact ho))]; exact (f.2.2.2.1 p hp).2⟩, f.2.2.2.2⟩
theorem grT_87 : ∀ q ∈ grT, ¬ (q.1 = 87 ∧ q.2.1 = 22) := by decide
theorem Fr.bs {S : Nat → Prop} {h h' : Hp} (f : Fr S h h') (hB : Bs h) : Bs h' := ⟨f.1.trans hB.1, fun q hq => (f.2.2.2.2 _ _ (grT_87 q hq)).trans (hB.2 q hq)⟩
theorem Fr.i {S : Nat → Prop} {h h' : Hp} (f : Fr S h h') {o : Nat} (ho : ¬ S o) : gi h' o = gi h o := (f.2.2.2.1 o ho).1
theorem Fr.l {S : Nat → Prop} {h h' : Hp} (f : Fr S h h') {o : Nat} (ho : ¬ S o) : gl h' o = gl h o := (f.2.2.2.1 o ho).2
/-! loops -/
theorem wp_loop {d y pc : Nat} {Q : Option Value → Hp → Prop} (I : Nat → Lc → Hp → Prop) (n : Nat) (hs : ∀ i L h, i < n → I i L h → (∀ L' h', I (i + 1) L' h' → wp d y pc L' [] h' Q) → wp d y pc L [] h Q) (he : ∀ L h, I n L h → wp d y pc L [] h Q) : ∀ (k i : Nat) (L : Lc) (h : Hp), i + k = n → I i L h → wp d y pc L [] h Q := by
  intro k
  induction k with
  | zero => intro i L h hi hI; exact he L h (by rw [show n = i by omega]; exact hI)
  | succ k ih => intro i L h hi hI; exact hs i L h (by omega) hI (fun L' h' hI' => ih (i + 1) L' h' (by omega) hI')
/-- k turns of f, from i on -/
noncomputable def itr {α : Type} (f : Nat → α → α) : Nat → Nat → α → α
  | _, 0, a => a
  | i, k + 1, a => itr f (i + 1) k (f i a)
theorem itr_0 {α : Type} (f : Nat → α → α) (i : Nat) (a : α) : itr f i 0 a = a := rfl
theorem itr_s {α : Type} (f : Nat → α → α) (i k : Nat) (a : α) : itr f i (k + 1) a = itr f (i + 1) k (f i a) := rfl
/-- the first that is told, of k, from i on -/
noncomputable def itx {ρ : Type} (f : Nat → Option ρ) : Nat → Nat → Option ρ
  | _, 0 => none
  | i, k + 1 => match f i with | some r => some r | none => itx f (i + 1) k
theorem itx_0 {ρ : Type} (f : Nat → Option ρ) (i : Nat) : itx f i 0 = none := rfl
theorem itx_n {ρ : Type} {f : Nat → Option ρ} {i k : Nat} (h : f i = none) : itx f i (k + 1) = itx f (i + 1) k := by show (match f i with | some r => some r | none => itx f (i + 1) k) = _; rw [h]
theorem itx_r {ρ : Type} {f : Nat → Option ρ} {i k : Nat} {r : ρ} (h : f i = some r) : itx f i (k + 1) = some r := by show (match f i with | some r => some r | none => itx f (i + 1) k) = _; rw [h]
/-- a loop that gathers: no cell changed, a rest w of no weight -/
theorem wp_fold {α β : Type} {d y pc : Nat} {Q : Option Value → Hp → Prop} {h : Hp} (Lf : Nat → α → β → Lc) (f : Nat → α → α) (n : Nat) (hs : ∀ i a w, i < n → (∀ w', wp d y pc (Lf (i + 1) (f i a) w') [] h Q) → wp d y pc (Lf i a w) [] h Q) : ∀ (k i : Nat) (a : α) (w : β), i + k = n → (∀ w, wp d y pc (Lf n (itr f i k a) w) [] h Q) → wp d y pc (Lf i a w) [] h Q := by
  intro k
  induction k with
  | zero => intro i a w hi he; have h1 := he w; rw [itr_0] at h1; rw [show i = n by omega]; exact h1
  | succ k ih => intro i a w hi he; exact hs i a w (by omega) (fun w' => ih (i + 1) _ w' (by omega) he)
/-- a loop that looks for the first -/
theorem wp_find {ρ β : Type} {d y pc : Nat} {Q : Option Value → Hp → Prop} {h : Hp} (Lf : Nat → β → Lc) (f : Nat → Option ρ) (n : Nat) (hs : ∀ i w, i < n → f i = none → (∀ w', wp d y pc (Lf (i + 1) w') [] h Q) → wp d y pc (Lf i w) [] h Q) : ∀ (k i : Nat) (w : β), i + k = n → (∀ r, itx f i k = some r → ∀ j w, j < n → f j = some r → wp d y pc (Lf j w) [] h Q) → (itx f i k = none → ∀ w, wp d y pc (Lf n w) [] h Q) → wp d y pc (Lf i w) [] h Q := by
  intro k
  induction k with
  | zero => intro i w hi _ he; rw [show i = n by omega]; exact he rfl w
  | succ k ih =>
    intro i w hi hr he
    cases hf : f i with
    | some r => exact hr r (itx_r hf) i w (by omega) hf
    | none => rw [itx_n hf] at hr he; exact hs i w (by omega) hf (fun w' => ih (i + 1) w' (by omega) hr he)
/-! the constants of the code -/
theorem ci_0 : Int32.ofInt 0 = iN 0 := (Int32.ofInt_eq_ofNat (n := 0)).trans (iN_def 0).symm
theorem ci_1 : Int32.ofInt 1 = iN 1 := (Int32.ofInt_eq_ofNat (n := 1)).trans (iN_def 1).symm
theorem ci_2 : Int32.ofInt 2 = iN 2 := (Int32.ofInt_eq_ofNat (n := 2)).trans (iN_def 2).symm
theorem ci_3 : Int32.ofInt 3 = iN 3 := (Int32.ofInt_eq_ofNat (n := 3)).trans (iN_def 3).symm
theorem ci_4 : Int32.ofInt 4 = iN 4 := (Int32.ofInt_eq_ofNat (n := 4)).trans (iN_def 4).symm
theorem ci_5 : Int32.ofInt 5 = iN 5 := (Int32.ofInt_eq_ofNat (n := 5)).trans (iN_def 5).symm
theorem ci_6 : Int32.ofInt 6 = iN 6 := (Int32.ofInt_eq_ofNat (n := 6)).trans (iN_def 6).symm
theorem ci_7 : Int32.ofInt 7 = iN 7 := (Int32.ofInt_eq_ofNat (n := 7)).trans (iN_def 7).symm
theorem ci_8 : Int32.ofInt 8 = iN 8 := (Int32.ofInt_eq_ofNat (n := 8)).trans (iN_def 8).symm
theorem ci_9 : Int32.ofInt 9 = iN 9 := (Int32.ofInt_eq_ofNat (n := 9)).trans (iN_def 9).symm
theorem ci_10 : Int32.ofInt 10 = iN 10 := (Int32.ofInt_eq_ofNat (n := 10)).trans (iN_def 10).symm
theorem ci_11 : Int32.ofInt 11 = iN 11 := (Int32.ofInt_eq_ofNat (n := 11)).trans (iN_def 11).symm
theorem ci_12 : Int32.ofInt 12 = iN 12 := (Int32.ofInt_eq_ofNat (n := 12)).trans (iN_def 12).symm
theorem ci_13 : Int32.ofInt 13 = iN 13 := (Int32.ofInt_eq_ofNat (n := 13)).trans (iN_def 13).symm
theorem ci_14 : Int32.ofInt 14 = iN 14 := (Int32.ofInt_eq_ofNat (n := 14)).trans (iN_def 14).symm
theorem ci_15 : Int32.ofInt 15 = iN 15 := (Int32.ofInt_eq_ofNat (n := 15)).trans (iN_def 15).symm
theorem ci_16 : Int32.ofInt 16 = iN 16 := (Int32.ofInt_eq_ofNat (n := 16)).trans (iN_def 16).symm
theorem ci_17 : Int32.ofInt 17 = iN 17 := (Int32.ofInt_eq_ofNat (n := 17)).trans (iN_def 17).symm
theorem ci_18 : Int32.ofInt 18 = iN 18 := (Int32.ofInt_eq_ofNat (n := 18)).trans (iN_def 18).symm
theorem ci_19 : Int32.ofInt 19 = iN 19 := (Int32.ofInt_eq_ofNat (n := 19)).trans (iN_def 19).symm
theorem ci_20 : Int32.ofInt 20 = iN 20 := (Int32.ofInt_eq_ofNat (n := 20)).trans (iN_def 20).symm
theorem ci_21 : Int32.ofInt 21 = iN 21 := (Int32.ofInt_eq_ofNat (n := 21)).trans (iN_def 21).symm
theorem ci_22 : Int32.ofInt 22 = iN 22 := (Int32.ofInt_eq_ofNat (n := 22)).trans (iN_def 22).symm
theorem ci_23 : Int32.ofInt 23 = iN 23 := (Int32.ofInt_eq_ofNat (n := 23)).trans (iN_def 23).symm
theorem ci_24 : Int32.ofInt 24 = iN 24 := (Int32.ofInt_eq_ofNat (n := 24)).trans (iN_def 24).symm
theorem ci_25 : Int32.ofInt 25 = iN 25 := (Int32.ofInt_eq_ofNat (n := 25)).trans (iN_def 25).symm
theorem ci_26 : Int32.ofInt 26 = iN 26 := (Int32.ofInt_eq_ofNat (n := 26)).trans (iN_def 26).symm
theorem ci_27 : Int32.ofInt 27 = iN 27 := (Int32.ofInt_eq_ofNat (n := 27)).trans (iN_def 27).symm
theorem ci_28 : Int32.ofInt 28 = iN 28 := (Int32.ofInt_eq_ofNat (n := 28)).trans (iN_def 28).symm
theorem ci_29 : Int32.ofInt 29 = iN 29 := (Int32.ofInt_eq_ofNat (n := 29)).trans (iN_def 29).symm
theorem ci_30 : Int32.ofInt 30 = iN 30 := (Int32.ofInt_eq_ofNat (n := 30)).trans (iN_def 30).symm
theorem ci_31 : Int32.ofInt 31 = iN 31 := (Int32.ofInt_eq_ofNat (n := 31)).trans (iN_def 31).symm
theorem ci_32 : Int32.ofInt 32 = iN 32 := (Int32.ofInt_eq_ofNat (n := 32)).trans (iN_def 32).symm
theorem ci_33 : Int32.ofInt 33 = iN 33 := (Int32.ofInt_eq_ofNat (n := 33)).trans (iN_def 33).symm
theorem ci_34 : Int32.ofInt 34 = iN 34 := (Int32.ofInt_eq_ofNat (n := 34)).trans (iN_def 34).symm
theorem ci_35 : Int32.ofInt 35 = iN 35 := (Int32.ofInt_eq_ofNat (n := 35)).trans (iN_def 35).symm
theorem ci_36 : Int32.ofInt 36 = iN 36 := (Int32.ofInt_eq_ofNat (n := 36)).trans (iN_def 36).symm
theorem ci_37 : Int32.ofInt 37 = iN 37 := (Int32.ofInt_eq_ofNat (n := 37)).trans (iN_def 37).symm
theorem ci_38 : Int32.ofInt 38 = iN 38 := (Int32.ofInt_eq_ofNat (n := 38)).trans (iN_def 38).symm
theorem ci_39 : Int32.ofInt 39 = iN 39 := (Int32.ofInt_eq_ofNat (n := 39)).trans (iN_def 39).symm
theorem ci_40 : Int32.ofInt 40 = iN 40 := (Int32.ofInt_eq_ofNat (n := 40)).trans (iN_def 40).symm
theorem ci_41 : Int32.ofInt 41 = iN 41 := (Int32.ofInt_eq_ofNat (n := 41)).trans (iN_def 41).symm
theorem ci_42 : Int32.ofInt 42 = iN 42 := (Int32.ofInt_eq_ofNat (n := 42)).trans (iN_def 42).symm
theorem ci_43 : Int32.ofInt 43 = iN 43 := (Int32.ofInt_eq_ofNat (n := 43)).trans (iN_def 43).symm
theorem ci_48 : Int32.ofInt 48 = iN 48 := (Int32.ofInt_eq_ofNat (n := 48)).trans (iN_def 48).symm
theorem ci_49 : Int32.ofInt 49 = iN 49 := (Int32.ofInt_eq_ofNat (n := 49)).trans (iN_def 49).symm
theorem ci_50 : Int32.ofInt 50 = iN 50 := (Int32.ofInt_eq_ofNat (n := 50)).trans (iN_def 50).symm
theorem ci_57 : Int32.ofInt 57 = iN 57 := (Int32.ofInt_eq_ofNat (n := 57)).trans (iN_def 57).symm
theorem ci_59 : Int32.ofInt 59 = iN 59 := (Int32.ofInt_eq_ofNat (n := 59)).trans (iN_def 59).symm
theorem ci_60 : Int32.ofInt 60 = iN 60 := (Int32.ofInt_eq_ofNat (n := 60)).trans (iN_def 60).symm
theorem ci_62 : Int32.ofInt 62 = iN 62 := (Int32.ofInt_eq_ofNat (n := 62)).trans (iN_def 62).symm
theorem ci_63 : Int32.ofInt 63 = iN 63 := (Int32.ofInt_eq_ofNat (n := 63)).trans (iN_def 63).symm
theorem ci_96 : Int32.ofInt 96 = iN 96 := (Int32.ofInt_eq_ofNat (n := 96)).trans (iN_def 96).symm
theorem ci_99 : Int32.ofInt 99 = iN 99 := (Int32.ofInt_eq_ofNat (n := 99)).trans (iN_def 99).symm
theorem ci_100 : Int32.ofInt 100 = iN 100 := (Int32.ofInt_eq_ofNat (n := 100)).trans (iN_def 100).symm
theorem ci_101 : Int32.ofInt 101 = iN 101 := (Int32.ofInt_eq_ofNat (n := 101)).trans (iN_def 101).symm
theorem ci_102 : Int32.ofInt 102 = iN 102 := (Int32.ofInt_eq_ofNat (n := 102)).trans (iN_def 102).symm
theorem ci_103 : Int32.ofInt 103 = iN 103 := (Int32.ofInt_eq_ofNat (n := 103)).trans (iN_def 103).symm
theorem ci_104 : Int32.ofInt 104 = iN 104 := (Int32.ofInt_eq_ofNat (n := 104)).trans (iN_def 104).symm
theorem ci_105 : Int32.ofInt 105 = iN 105 := (Int32.ofInt_eq_ofNat (n := 105)).trans (iN_def 105).symm
theorem ci_106 : Int32.ofInt 106 = iN 106 := (Int32.ofInt_eq_ofNat (n := 106)).trans (iN_def 106).symm
theorem ci_107 : Int32.ofInt 107 = iN 107 := (Int32.ofInt_eq_ofNat (n := 107)).trans (iN_def 107).symm
theorem ci_108 : Int32.ofInt 108 = iN 108 := (Int32.ofInt_eq_ofNat (n := 108)).trans (iN_def 108).symm
theorem ci_109 : Int32.ofInt 109 = iN 109 := (Int32.ofInt_eq_ofNat (n := 109)).trans (iN_def 109).symm
theorem ci_110 : Int32.ofInt 110 = iN 110 := (Int32.ofInt_eq_ofNat (n := 110)).trans (iN_def 110).symm
theorem ci_111 : Int32.ofInt 111 = iN 111 := (Int32.ofInt_eq_ofNat (n := 111)).trans (iN_def 111).symm
theorem ci_112 : Int32.ofInt 112 = iN 112 := (Int32.ofInt_eq_ofNat (n := 112)).trans (iN_def 112).symm
theorem ci_113 : Int32.ofInt 113 = iN 113 := (Int32.ofInt_eq_ofNat (n := 113)).trans (iN_def 113).symm
theorem ci_147 : Int32.ofInt 147 = iN 147 := (Int32.ofInt_eq_ofNat (n := 147)).trans (iN_def 147).symm
theorem ci_255 : Int32.ofInt 255 = iN 255 := (Int32.ofInt_eq_ofNat (n := 255)).trans (iN_def 255).symm
theorem ci_456 : Int32.ofInt 456 = iN 456 := (Int32.ofInt_eq_ofNat (n := 456)).trans (iN_def 456).symm
theorem ci_496 : Int32.ofInt 496 = iN 496 := (Int32.ofInt_eq_ofNat (n := 496)).trans (iN_def 496).symm
theorem ci_999 : Int32.ofInt 999 = iN 999 := (Int32.ofInt_eq_ofNat (n := 999)).trans (iN_def 999).symm
theorem ci_1000 : Int32.ofInt 1000 = iN 1000 := (Int32.ofInt_eq_ofNat (n := 1000)).trans (iN_def 1000).symm
theorem ci_12345 : Int32.ofInt 12345 = iN 12345 := (Int32.ofInt_eq_ofNat (n := 12345)).trans (iN_def 12345).symm
theorem ci_65536 : Int32.ofInt 65536 = iN 65536 := (Int32.ofInt_eq_ofNat (n := 65536)).trans (iN_def 65536).symm
theorem ci_252645135 : Int32.ofInt 252645135 = iN 252645135 := (Int32.ofInt_eq_ofNat (n := 252645135)).trans (iN_def 252645135).symm
theorem ci_858993459 : Int32.ofInt 858993459 = iN 858993459 := (Int32.ofInt_eq_ofNat (n := 858993459)).trans (iN_def 858993459).symm
theorem ci_1000000000 : Int32.ofInt 1000000000 = iN 1000000000 := (Int32.ofInt_eq_ofNat (n := 1000000000)).trans (iN_def 1000000000).symm
theorem ci_1103515245 : Int32.ofInt 1103515245 = iN 1103515245 := (Int32.ofInt_eq_ofNat (n := 1103515245)).trans (iN_def 1103515245).symm
theorem ci_1431655765 : Int32.ofInt 1431655765 = iN 1431655765 := (Int32.ofInt_eq_ofNat (n := 1431655765)).trans (iN_def 1431655765).symm
theorem ci_2147483647 : Int32.ofInt 2147483647 = iN 2147483647 := (Int32.ofInt_eq_ofNat (n := 2147483647)).trans (iN_def 2147483647).symm
theorem cl_0 : Int64.ofInt 0 = jN 0 := (Int64.ofInt_eq_ofNat (n := 0)).trans (jN_def 0).symm
theorem cl_1 : Int64.ofInt 1 = jN 1 := (Int64.ofInt_eq_ofNat (n := 1)).trans (jN_def 1).symm
theorem cl_2 : Int64.ofInt 2 = jN 2 := (Int64.ofInt_eq_ofNat (n := 2)).trans (jN_def 2).symm
theorem cl_4 : Int64.ofInt 4 = jN 4 := (Int64.ofInt_eq_ofNat (n := 4)).trans (jN_def 4).symm
theorem cl_5 : Int64.ofInt 5 = jN 5 := (Int64.ofInt_eq_ofNat (n := 5)).trans (jN_def 5).symm
theorem cl_6 : Int64.ofInt 6 = jN 6 := (Int64.ofInt_eq_ofNat (n := 6)).trans (jN_def 6).symm
theorem cl_11 : Int64.ofInt 11 = jN 11 := (Int64.ofInt_eq_ofNat (n := 11)).trans (jN_def 11).symm
theorem cl_16 : Int64.ofInt 16 = jN 16 := (Int64.ofInt_eq_ofNat (n := 16)).trans (jN_def 16).symm
theorem cl_48 : Int64.ofInt 48 = jN 48 := (Int64.ofInt_eq_ofNat (n := 48)).trans (jN_def 48).symm
theorem cl_57 : Int64.ofInt 57 = jN 57 := (Int64.ofInt_eq_ofNat (n := 57)).trans (jN_def 57).symm
theorem cl_60 : Int64.ofInt 60 = jN 60 := (Int64.ofInt_eq_ofNat (n := 60)).trans (jN_def 60).symm
theorem cl_4000000000000000000 : Int64.ofInt 4000000000000000000 = jN 4000000000000000000 := (Int64.ofInt_eq_ofNat (n := 4000000000000000000)).trans (jN_def 4000000000000000000).symm
theorem oc_1 : ocY 1 = 0 := rfl
theorem oc_2 : ocY 2 = 0 := rfl
theorem oc_3 : ocY 3 = 0 := rfl
theorem oc_4 : ocY 4 = 0 := rfl
theorem oc_7 : ocY 7 = 1 := rfl
theorem oc_8 : ocY 8 = 1 := rfl
theorem oc_9 : ocY 9 = 1 := rfl
theorem oc_10 : ocY 10 = 1 := rfl
theorem oc_11 : ocY 11 = 1 := rfl
theorem oc_12 : ocY 12 = 1 := rfl
theorem oc_13 : ocY 13 = 1 := rfl
theorem oc_15 : ocY 15 = 2 := rfl
theorem oc_16 : ocY 16 = 2 := rfl
theorem oc_17 : ocY 17 = 2 := rfl
theorem oc_18 : ocY 18 = 2 := rfl
theorem oc_19 : ocY 19 = 2 := rfl
theorem oc_21 : ocY 21 = 3 := rfl
theorem oc_22 : ocY 22 = 3 := rfl
theorem oc_23 : ocY 23 = 3 := rfl
theorem oc_24 : ocY 24 = 3 := rfl
theorem oc_25 : ocY 25 = 3 := rfl
theorem oc_26 : ocY 26 = 3 := rfl
theorem oc_27 : ocY 27 = 3 := rfl
theorem oc_28 : ocY 28 = 3 := rfl
theorem oc_29 : ocY 29 = 3 := rfl
theorem oc_30 : ocY 30 = 3 := rfl
theorem oc_31 : ocY 31 = 3 := rfl
theorem oc_32 : ocY 32 = 3 := rfl
theorem oc_33 : ocY 33 = 3 := rfl
theorem oc_34 : ocY 34 = 3 := rfl
theorem oc_35 : ocY 35 = 3 := rfl
theorem oc_36 : ocY 36 = 3 := rfl
theorem oc_37 : ocY 37 = 3 := rfl
theorem oc_38 : ocY 38 = 3 := rfl
theorem oc_39 : ocY 39 = 3 := rfl
theorem oc_40 : ocY 40 = 3 := rfl
theorem oc_41 : ocY 41 = 3 := rfl
theorem oc_42 : ocY 42 = 3 := rfl
theorem oc_43 : ocY 43 = 3 := rfl
theorem oc_44 : ocY 44 = 3 := rfl
theorem oc_45 : ocY 45 = 3 := rfl
theorem oc_46 : ocY 46 = 3 := rfl
theorem oc_47 : ocY 47 = 3 := rfl
theorem oc_48 : ocY 48 = 3 := rfl
theorem oc_49 : ocY 49 = 3 := rfl
theorem oc_50 : ocY 50 = 3 := rfl
theorem oc_51 : ocY 51 = 3 := rfl
theorem oc_52 : ocY 52 = 3 := rfl
theorem oc_53 : ocY 53 = 3 := rfl
theorem oc_54 : ocY 54 = 3 := rfl
theorem oc_55 : ocY 55 = 3 := rfl
theorem oc_56 : ocY 56 = 3 := rfl
theorem oc_58 : ocY 58 = 4 := rfl
theorem oc_59 : ocY 59 = 4 := rfl
theorem oc_60 : ocY 60 = 4 := rfl
theorem oc_61 : ocY 61 = 4 := rfl
theorem oc_62 : ocY 62 = 4 := rfl
theorem oc_63 : ocY 63 = 4 := rfl
theorem oc_64 : ocY 64 = 4 := rfl
theorem oc_65 : ocY 65 = 4 := rfl
theorem oc_66 : ocY 66 = 4 := rfl
theorem oc_67 : ocY 67 = 4 := rfl
theorem oc_68 : ocY 68 = 4 := rfl
theorem oc_69 : ocY 69 = 4 := rfl
theorem oc_70 : ocY 70 = 4 := rfl
theorem oc_71 : ocY 71 = 4 := rfl
theorem oc_72 : ocY 72 = 4 := rfl
theorem oc_73 : ocY 73 = 4 := rfl
theorem oc_74 : ocY 74 = 4 := rfl
theorem oc_75 : ocY 75 = 4 := rfl
theorem oc_76 : ocY 76 = 4 := rfl
theorem oc_78 : ocY 78 = 5 := rfl
theorem oc_79 : ocY 79 = 5 := rfl
theorem oc_80 : ocY 80 = 5 := rfl
theorem oc_81 : ocY 81 = 5 := rfl
theorem oc_82 : ocY 82 = 5 := rfl
theorem oc_83 : ocY 83 = 5 := rfl
theorem oc_84 : ocY 84 = 5 := rfl
theorem oc_85 : ocY 85 = 5 := rfl
theorem oc_86 : ocY 86 = 5 := rfl
theorem oc_88 : ocY 88 = 6 := rfl
theorem oc_89 : ocY 89 = 6 := rfl
theorem oc_90 : ocY 90 = 6 := rfl
theorem oc_91 : ocY 91 = 6 := rfl
theorem oc_92 : ocY 92 = 6 := rfl
theorem oc_93 : ocY 93 = 6 := rfl
theorem oc_96 : ocY 96 = 7 := rfl
theorem oc_97 : ocY 97 = 7 := rfl
theorem oc_98 : ocY 98 = 7 := rfl
theorem oc_99 : ocY 99 = 7 := rfl
theorem oc_100 : ocY 100 = 7 := rfl
theorem oc_101 : ocY 101 = 7 := rfl
theorem oc_104 : ocY 104 = 7 := rfl
theorem oc_105 : ocY 105 = 7 := rfl
theorem oc_106 : ocY 106 = 7 := rfl
theorem oc_112 : ocY 112 = 8 := rfl
theorem oc_113 : ocY 113 = 8 := rfl
theorem oc_114 : ocY 114 = 8 := rfl
theorem oc_115 : ocY 115 = 8 := rfl
theorem oc_116 : ocY 116 = 8 := rfl
theorem oc_118 : ocY 118 = 9 := rfl
theorem oc_119 : ocY 119 = 9 := rfl
theorem oc_120 : ocY 120 = 9 := rfl
theorem oc_121 : ocY 121 = 9 := rfl
theorem oc_122 : ocY 122 = 9 := rfl
theorem oc_123 : ocY 123 = 9 := rfl
theorem oc_124 : ocY 124 = 9 := rfl
theorem oc_125 : ocY 125 = 9 := rfl
theorem oc_126 : ocY 126 = 9 := rfl
theorem oc_127 : ocY 127 = 9 := rfl
theorem oc_128 : ocY 128 = 9 := rfl
theorem oc_129 : ocY 129 = 9 := rfl
theorem oc_130 : ocY 130 = 9 := rfl
theorem oc_131 : ocY 131 = 9 := rfl
theorem oc_132 : ocY 132 = 9 := rfl
theorem oc_133 : ocY 133 = 9 := rfl
theorem oc_134 : ocY 134 = 9 := rfl
theorem oc_135 : ocY 135 = 9 := rfl
theorem oc_136 : ocY 136 = 9 := rfl
theorem oc_137 : ocY 137 = 9 := rfl
theorem oc_141 : ocY 141 = 10 := rfl
theorem oc_142 : ocY 142 = 10 := rfl
theorem oc_143 : ocY 143 = 10 := rfl
theorem oc_145 : ocY 145 = 10 := rfl
theorem oc_147 : ocY 147 = 11 := rfl
theorem oc_148 : ocY 148 = 11 := rfl
theorem oc_149 : ocY 149 = 11 := rfl
theorem oc_150 : ocY 150 = 11 := rfl
theorem oc_151 : ocY 151 = 11 := rfl
theorem oc_152 : ocY 152 = 11 := rfl
theorem oc_153 : ocY 153 = 11 := rfl
theorem oc_154 : ocY 154 = 11 := rfl
theorem oc_155 : ocY 155 = 11 := rfl
theorem oc_156 : ocY 156 = 11 := rfl
theorem oc_157 : ocY 157 = 11 := rfl
theorem oc_158 : ocY 158 = 11 := rfl
theorem oc_159 : ocY 159 = 11 := rfl
theorem oc_160 : ocY 160 = 11 := rfl
theorem oc_161 : ocY 161 = 11 := rfl
theorem oc_162 : ocY 162 = 11 := rfl
theorem oc_163 : ocY 163 = 11 := rfl
theorem oc_164 : ocY 164 = 11 := rfl
theorem oc_165 : ocY 165 = 11 := rfl
theorem oc_166 : ocY 166 = 11 := rfl
theorem oc_167 : ocY 167 = 11 := rfl
theorem oc_168 : ocY 168 = 11 := rfl
theorem oc_169 : ocY 169 = 11 := rfl
theorem oc_170 : ocY 170 = 11 := rfl
theorem oc_171 : ocY 171 = 11 := rfl
theorem oc_172 : ocY 172 = 11 := rfl
theorem oc_173 : ocY 173 = 11 := rfl
theorem oc_174 : ocY 174 = 11 := rfl
theorem oc_175 : ocY 175 = 11 := rfl
theorem oc_176 : ocY 176 = 11 := rfl
theorem oc_177 : ocY 177 = 11 := rfl
theorem oc_178 : ocY 178 = 11 := rfl
theorem oc_179 : ocY 179 = 11 := rfl
theorem oc_180 : ocY 180 = 11 := rfl
theorem oc_181 : ocY 181 = 11 := rfl
theorem oc_182 : ocY 182 = 11 := rfl
theorem oc_183 : ocY 183 = 11 := rfl
theorem oc_184 : ocY 184 = 11 := rfl
theorem oc_185 : ocY 185 = 11 := rfl
theorem oc_186 : ocY 186 = 11 := rfl
theorem oc_187 : ocY 187 = 11 := rfl
theorem oc_188 : ocY 188 = 11 := rfl
theorem oc_189 : ocY 189 = 11 := rfl
theorem oc_190 : ocY 190 = 11 := rfl
theorem oc_191 : ocY 191 = 11 := rfl
theorem oc_201 : ocY 201 = 12 := rfl
theorem oc_202 : ocY 202 = 12 := rfl
theorem oc_203 : ocY 203 = 12 := rfl
theorem oc_209 : ocY 209 = 12 := rfl
theorem oc_210 : ocY 210 = 12 := rfl
theorem oc_211 : ocY 211 = 12 := rfl
theorem oc_212 : ocY 212 = 12 := rfl
theorem oc_213 : ocY 213 = 12 := rfl
theorem oc_214 : ocY 214 = 12 := rfl
theorem oc_215 : ocY 215 = 12 := rfl
theorem oc_216 : ocY 216 = 12 := rfl
theorem oc_217 : ocY 217 = 12 := rfl
theorem oc_218 : ocY 218 = 12 := rfl
theorem oc_219 : ocY 219 = 12 := rfl
theorem oc_220 : ocY 220 = 12 := rfl
theorem oc_221 : ocY 221 = 12 := rfl
theorem oc_222 : ocY 222 = 12 := rfl
theorem oc_223 : ocY 223 = 12 := rfl
theorem oc_224 : ocY 224 = 12 := rfl
theorem oc_225 : ocY 225 = 12 := rfl
theorem oc_226 : ocY 226 = 12 := rfl
theorem oc_227 : ocY 227 = 12 := rfl
theorem oc_229 : ocY 229 = 12 := rfl
theorem oc_230 : ocY 230 = 12 := rfl
theorem oc_231 : ocY 231 = 12 := rfl
theorem oc_232 : ocY 232 = 12 := rfl
theorem oc_233 : ocY 233 = 12 := rfl
theorem oc_234 : ocY 234 = 12 := rfl
theorem oc_235 : ocY 235 = 12 := rfl
theorem oc_236 : ocY 236 = 12 := rfl
theorem oc_237 : ocY 237 = 12 := rfl
theorem oc_238 : ocY 238 = 12 := rfl
theorem oc_239 : ocY 239 = 12 := rfl
theorem oc_240 : ocY 240 = 12 := rfl
theorem oc_241 : ocY 241 = 12 := rfl
theorem oc_242 : ocY 242 = 12 := rfl
theorem oc_243 : ocY 243 = 12 := rfl
theorem oc_244 : ocY 244 = 12 := rfl
theorem oc_245 : ocY 245 = 12 := rfl
theorem oc_246 : ocY 246 = 12 := rfl
theorem oc_247 : ocY 247 = 12 := rfl
theorem oc_248 : ocY 248 = 12 := rfl
theorem oc_249 : ocY 249 = 12 := rfl
theorem oc_250 : ocY 250 = 12 := rfl
theorem oc_251 : ocY 251 = 12 := rfl
theorem oc_252 : ocY 252 = 12 := rfl
theorem oc_253 : ocY 253 = 12 := rfl
theorem oc_254 : ocY 254 = 12 := rfl
theorem oc_255 : ocY 255 = 12 := rfl
theorem oc_256 : ocY 256 = 12 := rfl
theorem oc_257 : ocY 257 = 12 := rfl
theorem oc_258 : ocY 258 = 12 := rfl
theorem oc_259 : ocY 259 = 12 := rfl
theorem oc_260 : ocY 260 = 12 := rfl
theorem oc_261 : ocY 261 = 12 := rfl
theorem oc_262 : ocY 262 = 12 := rfl
theorem oc_263 : ocY 263 = 12 := rfl
theorem oc_264 : ocY 264 = 12 := rfl
theorem oc_265 : ocY 265 = 12 := rfl
theorem oc_266 : ocY 266 = 12 := rfl
theorem oc_267 : ocY 267 = 12 := rfl
theorem oc_268 : ocY 268 = 12 := rfl
theorem oc_269 : ocY 269 = 12 := rfl
theorem oc_270 : ocY 270 = 12 := rfl
theorem oc_271 : ocY 271 = 12 := rfl
theorem oc_272 : ocY 272 = 12 := rfl
theorem oc_273 : ocY 273 = 12 := rfl
theorem oc_275 : ocY 275 = 12 := rfl
theorem oc_278 : ocY 278 = 12 := rfl
theorem oc_279 : ocY 279 = 12 := rfl
theorem oc_280 : ocY 280 = 12 := rfl
theorem oc_281 : ocY 281 = 12 := rfl
theorem oc_282 : ocY 282 = 12 := rfl
theorem oc_283 : ocY 283 = 12 := rfl
theorem oc_284 : ocY 284 = 12 := rfl
theorem oc_285 : ocY 285 = 12 := rfl
theorem oc_286 : ocY 286 = 12 := rfl
theorem oc_287 : ocY 287 = 12 := rfl
theorem oc_288 : ocY 288 = 12 := rfl
theorem oc_289 : ocY 289 = 12 := rfl
theorem oc_290 : ocY 290 = 12 := rfl
theorem oc_291 : ocY 291 = 12 := rfl
theorem oc_292 : ocY 292 = 12 := rfl
theorem oc_293 : ocY 293 = 12 := rfl
theorem oc_294 : ocY 294 = 12 := rfl
theorem oc_295 : ocY 295 = 12 := rfl
theorem oc_296 : ocY 296 = 12 := rfl
theorem oc_297 : ocY 297 = 12 := rfl
theorem cm_2000 : Int32.ofInt (-2000) = zI (-2000) := (zI_def _).symm
theorem cm_1000 : Int32.ofInt (-1000) = zI (-1000) := (zI_def _).symm
theorem cm_9 : Int32.ofInt (-9) = zI (-9) := (zI_def _).symm
theorem cm_6 : Int32.ofInt (-6) = zI (-6) := (zI_def _).symm
theorem cm_4 : Int32.ofInt (-4) = zI (-4) := (zI_def _).symm
theorem cm_3 : Int32.ofInt (-3) = zI (-3) := (zI_def _).symm
theorem cm_2 : Int32.ofInt (-2) = zI (-2) := (zI_def _).symm
theorem cm_1 : Int32.ofInt (-1) = zI (-1) := (zI_def _).symm
