theorem ml_vir : ∀ q ∈ mlT, vkY q.2.2 = 0 → q.2.2 < nY - 3 := by decide +kernel
theorem ml_ini : ∀ q ∈ mlT, vkY q.2.2 = 2 → q.2.2 < nY - 3 := by decide +kernel
theorem a80 {z np c : Nat} {L : Lc} {st : List Value} {h : Hp} {a} (ha : act (80, z, np, c, 0, []) L st h = some a) : ∃ o as, (st.take c).reverse = .ref o :: as ∧ (ob h o (ocY z) ∧ cat (st.drop c) ≤ 8 ∧ c ≤ st.length) ∧ a = .inr (.inl (z, np, .ref o :: as, st.drop c)) := by
  have ha : (match (st.take c).reverse with | .ref o :: as => gd (ob h o (ocY z) ∧ cat (st.drop c) ≤ 8 ∧ c ≤ st.length) (some (.inr (.inl (z, np, .ref o :: as, st.drop c)))) | _ => none) = some a := ha
  split at ha
  · rename_i o as heq
    obtain ⟨h1, h2⟩ := gd_inv ha
    exact ⟨o, as, heq, h1, (Option.some.inj h2).symm⟩
  · cases ha
theorem a81 {z np c : Nat} {L : Lc} {st : List Value} {h : Hp} {a} (ha : act (81, z, np, c, 0, []) L st h = some a) : (cat (st.drop c) ≤ 8 ∧ c ≤ st.length) ∧ a = .inr (.inl (z, np, (st.take c).reverse, st.drop c)) := by
  obtain ⟨h1, h2⟩ := gd_inv (show gd (cat (st.drop c) ≤ 8 ∧ c ≤ st.length) (some (.inr (.inl (z, np, (st.take c).reverse, st.drop c)))) = some a from ha)
  exact ⟨h1, (Option.some.inj h2).symm⟩
theorem a82 {z np c : Nat} {L : Lc} {st : List Value} {h : Hp} {a} (ha : act (82, z, np, c, 0, []) L st h = some a) : ∃ o as, (st.take c).reverse = .ref o :: as ∧ (cat (st.drop c) ≤ 8 ∧ c ≤ st.length) ∧ a = .inr (.inl (z, np, .ref o :: as, st.drop c)) := by
  have ha : (match (st.take c).reverse with | .ref o :: as => gd (cat (st.drop c) ≤ 8 ∧ c ≤ st.length) (some (.inr (.inl (z, np, .ref o :: as, st.drop c)))) | _ => none) = some a := ha
  split at ha
  · rename_i o as heq
    obtain ⟨h1, h2⟩ := gd_inv ha
    exact ⟨o, as, heq, h1, (Option.some.inj h2).symm⟩
  · cases ha
theorem a90 {L : Lc} {st : List Value} {h : Hp} {a} (ha : act (90, 0, 0, 0, 0, []) L st h = some a) : ∃ x, st = [.int x] ∧ a = .inr (.inr (some (.int x))) := by
  have ha : (match (generalizing := false) st with | [.int v] => (some (Sum.inr (Sum.inr (some (.int v)))) : Act) | _ => none) = some a := ha
  split at ha
  · exact ⟨_, rfl, (Option.some.inj ha).symm⟩
  · cases ha
theorem a91 {L : Lc} {st : List Value} {h : Hp} {a} (ha : act (91, 0, 0, 0, 0, []) L st h = some a) : ∃ x, st = [.int x] ∧ (x = 0 ∨ x = 1) ∧ a = .inr (.inr (some (.int x))) := by
  have ha : (match (generalizing := false) st with | [.int v] => gd (v = 0 ∨ v = 1) (some (Sum.inr (Sum.inr (some (.int v))))) | _ => none) = some a := ha
  split at ha
  · obtain ⟨h1, h2⟩ := gd_inv ha
    exact ⟨_, rfl, h1, (Option.some.inj h2).symm⟩
  · cases ha
theorem a92 {L : Lc} {st : List Value} {h : Hp} {a} (ha : act (92, 0, 0, 0, 0, []) L st h = some a) : ∃ x, st = [.long x] ∧ a = .inr (.inr (some (.long x))) := by
  have ha : (match (generalizing := false) st with | [.long v] => (some (Sum.inr (Sum.inr (some (.long v)))) : Act) | _ => none) = some a := ha
  split at ha
  · exact ⟨_, rfl, (Option.some.inj ha).symm⟩
  · cases ha
theorem a93 {L : Lc} {st : List Value} {h : Hp} {a} (ha : act (93, 0, 0, 0, 0, []) L st h = some a) : (∃ x, st = [.ref x] ∧ a = .inr (.inr (some (.ref x)))) ∨ (st = [.null] ∧ a = .inr (.inr (some .null))) := by
  have ha : (match (generalizing := false) st with | [.ref v] => (some (Sum.inr (Sum.inr (some (.ref v)))) : Act) | [.null] => some (Sum.inr (Sum.inr (some .null))) | _ => none) = some a := ha
  split at ha
  · exact Or.inl ⟨_, rfl, (Option.some.inj ha).symm⟩
  · exact Or.inr ⟨rfl, (Option.some.inj ha).symm⟩
  · cases ha
theorem a94 {L : Lc} {st : List Value} {h : Hp} {a} (ha : act (94, 0, 0, 0, 0, []) L st h = some a) : st = [] ∧ a = .inr (.inr none) := by
  have ha : (match (generalizing := false) st with | [] => (some (Sum.inr (Sum.inr none)) : Act) | _ => none) = some a := ha
  split at ha
  · exact ⟨rfl, (Option.some.inj ha).symm⟩
  · cases ha
theorem push_tr (b base : Nat) (w : Option Value) (rest : List Value) : (w.toList ++ rest).map (tr b base) = (w.map (tr b base)).toList ++ rest.map (tr b base) := by cases w <;> rfl
theorem st_cut {b base c : Nat} {st as : List Value} (h : (st.take c).reverse = as) : st.map (tr b base) = (as.map (tr b base)).reverse ++ (st.drop c).map (tr b base) := by
  rw [← List.map_reverse, ← List.map_append, ← h, List.reverse_reverse, List.take_append_drop]
theorem st_len {c : Nat} {st as : List Value} (h : (st.take c).reverse = as) (hc : c ≤ st.length) : as.length = c := by
  rw [← h, List.length_reverse, List.length_take]; omega
set_option maxHeartbeats 1000000 in
theorem SIM (l : Launch) : ∀ (k d y pc : Nat) (L : Lc) (st : List Value) (h : Hp) (v : Option Value) (h' : Hp), y < nY → run k d y pc L st h = some (v, h') → SIMAT l d y pc L st h v h' := by
  intro k
  induction k with
  | zero => intro d y pc L st h v h' _ hr; simp [run] at hr
  | succ k ih =>
    intro d y pc L st h v h' hy hr p e R s m args below meth c D cA b base n0 H locs cells slots Q ls C hfr hlo hY hl hLn fin
    unfold run at hr
    cases hc : icode y pc with
    | none => rw [hc] at hr; simp at hr
    | some e0 =>
      obtain ⟨op, hd⟩ := e0
      rw [hc] at hr
      simp only at hr
      obtain ⟨ins, len, hdec, hden⟩ := code_ok hy hc
      cases ha : act op L st h with
      | none => rw [ha] at hr; simp at hr
      | some a =>
        rw [ha] at hr
        rcases a with ⟨pc', L', st', h1⟩ | ⟨z, np, as, rest⟩ | w
        · have hr : run k d y pc' L' st' h1 = some (v, h') := hr
          refine STEP ins pc len pc' op L L' st st' h h1 H locs cells slots ls Q C (by omega) (by omega) hdec hden ha hY hl hLn (run_ok _ _ _ _ _ _ _ _ _ hr).2 ?_
          intro H' locs' cells' slots' ls' hY' hl' hLn'
          exact ih d y pc' L' st' h1 v h' hy hr p e R s m args below meth c D cA b base n0 H' locs' cells' slots' Q ls' C hfr hlo hY' hl' hLn' fin
        · cases d with
          | zero => simp at hr
          | succ d =>
            simp only at hr
            by_cases he : (ent1 as).length ≤ mxY z
            · rw [if_pos he] at hr
              cases hq : run k d z 0 (ent as (mxY z)) [] h with
              | none => rw [hq] at hr; simp at hr
              | some q =>
                rw [hq] at hr
                obtain ⟨w, h1⟩ := q
                have hr : run k (d + 1) y np L (w.toList ++ rest) h1 = some (v, h') := hr
                obtain ⟨hsc, hle1⟩ := run_ok _ _ _ _ _ _ _ _ _ hq
                obtain ⟨-, hle2⟩ := run_ok _ _ _ _ _ _ _ _ _ hr
                have C' := C
                have hY' := hY
                obtain ⟨hx, hb, hml, hown, hts, hNW, hK, hini, hyn, hbb, hbs, hrc, hrs⟩ := C
                obtain ⟨hW, hS, hc1, hc2, hX0⟩ := hY
                have hs1 := slT_mono hle1
                have hs2 := slT_mono hle2
                have hf : cells + (hn h1 - hn h) ≤ R.cells ∧ slots + (slT (hn h1) - slT (hn h)) ≤ R.slots := ⟨by omega, by omega⟩
                have go : np = pc + 3 → ∀ H1 locs1, Dy s D cA b base n0 h1 H1 locs1 (cells + (hn h1 - hn h)) (slots + (slT (hn h1) - slT (hn h))) → W p l e R s m args below meth c H1 locs1 (cells + (hn h1 - hn h)) (slots + (slT (hn h1) - slT (hn h))) Q (F0 m (pc + 3) ls ((w.map (tr b base)).toList ++ rest.map (tr b base))) := by
                  intro hnp H1 locs1 hY1
                  have := ih (d + 1) y np L (w.toList ++ rest) h1 v h' hy hr p e R s m args below meth c D cA b base n0 H1 locs1 _ _ Q ls C' hfr hlo hY1 hl hLn fin
                  rw [push_tr, hnp] at this
                  exact this
                have met : z < nY - 3 → Met l (nmY z) (wsOf z) (rmD d (hn h1 - hn h) (slT (hn h1) - slT (hn h))) (MPc D cA b base as h) (MQc D cA b base w h1) (hn h1 - hn h) (slT (hn h1) - slT (hn h)) (fun q => base ≤ q) := fun hz => METOF (ih d z 0 _ _ h w h1 (Nat.lt_of_lt_of_le hz (by decide)) hq) hz he hle1
                have hRm : z < nY → (rmD d (hn h1 - hn h) (slT (hn h1) - slT (hn h))).frames + 1 ≤ R.frames ∧ 8 + (mxY z + 11) + (rmD d (hn h1 - hn h) (slT (hn h1) - slT (hn h))).locals ≤ R.locals := fun hz => by
                  have := fY_4 z hz
                  exact ⟨hfr, by show 8 + (mxY z + 11) + 64 * (d + 1) ≤ R.locals; omega⟩
                rcases KIND hden with hk | ⟨i, z', rfl, hlk, hv, rfl, rfl⟩ | ⟨i, z', rfl, hlk, hv, hz3, rfl, rfl⟩ | ⟨i, z', rfl, hlk, hv, rfl, rfl⟩ | ⟨-, -, -, rfl⟩ | ⟨-, -, -, rfl⟩ | ⟨-, -, -, rfl⟩ | ⟨-, -, -, rfl⟩ | ⟨-, -, -, rfl⟩
                · obtain ⟨r, hr9⟩ := act_plain hk ha
                  cases hr9
                · obtain ⟨o, as0, hcut, ⟨hob, hcat, hclen⟩, heq⟩ := a80 ha
                  cases heq
                  have hmem := find_inv hlk
                  have hz3 : z < nY - 3 := (ml_vir _ hmem hv)
                  have hz : z < nY := Nat.lt_of_lt_of_le hz3 (by decide)
                  have hlen := st_len hcut hclen
                  have hci := fY_7 z hz hv
                  refine after_call hbs (va_runV (b := adr b base o) (C := (nmY z).cls) (As := as0.map (tr b base)) (rest := (st.drop (npY z + 1)).map (tr b base)) (n := npY z) (own := kC (ocY y)) ⟨hx, hb, hml, hown, hts⟩ (met hz3) (cwV (npY z) hts ?_ rfl rfl rfl ⟨rfl, fY_desc z hz⟩ (hRm hz)) ⟨MPc_blind, ?_, ?_⟩ rfl ?_ (hl.1.trans hLn) ?_ (lv_room (by rw [cat_tr]; exact hcat)) hdec hf) hY' hsc (by omega) (by omega) (go rfl)
                  · intro x hxm
                    rcases List.mem_append.mp hxm with hxm | hxm
                    · simp only [List.mem_cons, List.not_mem_nil, or_false] at hxm
                      rcases hxm with rfl | rfl | rfl | rfl
                      · exact ⟨gW_ml hmem, gW_good (gW_ml hmem)⟩
                      · exact ⟨gW_vi hz hv, gW_good (gW_vi hz hv)⟩
                      · exact ⟨gW_vs hz hv, gW_good (gW_vs hz hv)⟩
                      · rw [fY_1 z hz]; exact ⟨gW_init _ (by omega), gW_good (gW_init _ (by omega))⟩
                    · exact gW_goodIn (Nat.lt_of_lt_of_le hz3 (by decide)) x hxm
                  · rw [fY_1 z hz, adr_ob hob]
                    exact va_recv (q0 := 0) (fs := fvals b base h o (ocY z)) hK (hW.one hob.1 (ent_ob hob)) (cl_at _ hci) rfl
                  · exact MPc_at C' hY'
                  · simp at hlen ⊢; exact hlen
                  · show st.map (tr b base) = _
                    rw [st_cut hcut]
                    simp [tr]
                · obtain ⟨⟨hcat, hclen⟩, heq⟩ := a81 ha
                  cases heq
                  have hz : z < nY := Nat.lt_of_lt_of_le hz3 (by decide)
                  have hz1 : z < nY - 1 := Nat.lt_of_lt_of_le hz3 (by decide)
                  have hlen := st_len (c := npY z) (st := st) rfl hclen
                  have hst : (Cond.static (nmY z)).before args s = true := hts _ (gW_st hz1 hv)
                  have hin : (Cond.initialized (nmY z).cls).before args s = true := by rw [fY_1 z hz]; exact hts _ (gW_init _ (fY_2 z hz))
                  rcases hlk with hlk | hlk
                  · have hmem := find_inv hlk
                    refine after_call hbs (va_runS (As := ((st.take (npY z)).reverse).map (tr b base)) (rest := (st.drop (npY z)).map (tr b base)) (n := npY z) (own := kC (ocY y)) ⟨hx, hb, hml, hown, hts⟩ (met hz3) ⟨callB_of (npY z) hts (gW_goodIn hz1) rfl rfl rfl hin (hts _ (gW_ml hmem)) (fY_desc z hz) (hRm hz), hst⟩ ⟨MPc_blind, MPc_at C' hY'⟩ rfl (by simpa using hlen) (hl.1.trans hLn) ?_ (lv_room (by rw [cat_tr]; exact hcat)) hdec hf) hY' hsc (by omega) (by omega) (go rfl)
                    show st.map (tr b base) = _
                    exact st_cut rfl
                  · have hmem := find_inv hlk
                    refine after_call hbs (va_runSN (As := ((st.take (npY z)).reverse).map (tr b base)) (rest := (st.drop (npY z)).map (tr b base)) (n := npY z) (own := kC (ocY y)) (host := "PrayerMatsFace") ⟨hx, hb, hml, hown, hts⟩ (met hz3) ⟨va_cnB (npY z) hts (gW_goodIn hz1) rfl rfl rfl (hNW.1 _ hmem) hin (fY_desc z hz) (hRm hz), hst, trivial⟩ ⟨MPc_blind, MPc_at C' hY'⟩ rfl (by simpa using hlen) (hl.1.trans hLn) ?_ (lv_room (by rw [cat_tr]; exact hcat)) hdec hf) hY' hsc (by omega) (by omega) (go rfl)
                    show st.map (tr b base) = _
                    exact st_cut rfl
                · obtain ⟨o, as0, hcut, ⟨hcat, hclen⟩, heq⟩ := a82 ha
                  cases heq
                  have hmem := find_inv hlk
                  have hz3 : z < nY - 3 := (ml_ini _ hmem hv)
                  have hz : z < nY := Nat.lt_of_lt_of_le hz3 (by decide)
                  have hz1 : z < nY - 1 := Nat.lt_of_lt_of_le hz3 (by decide)
                  have hlen := st_len hcut hclen
                  have hin : (Cond.initialized (nmY z).cls).before args s = true := by rw [fY_1 z hz]; exact hts _ (gW_init _ (fY_2 z hz))
                  have hws : wsOf z = Cond.code (nmY z) (byY z) (mxY z) none :: gW := by unfold wsOf; rw [fY_6 z hz hv]
                  refine after_call hbs (va_runI (b := adr b base o) (As := as0.map (tr b base)) (rest := (st.drop (npY z + 1)).map (tr b base)) (n := npY z) (own := kC (ocY y)) ⟨hx, hb, hml, hown, hts⟩ (met hz3) (cwI (npY z) hts (gW_goodIn hz1) hws rfl rfl hin (hts _ (gW_ml hmem)) (hts _ (gW_in hz hv)) (fY_5 z hz hv) (fY_desc z hz) (hRm hz)) ⟨MPc_blind, MPc_at C' hY'⟩ rfl ?_ (hl.1.trans hLn) ?_ (lv_room (by rw [cat_tr]; exact hcat)) hdec hf) hY' hsc (by omega) (by omega) (go rfl)
                  · simp at hlen ⊢; exact hlen
                  · show st.map (tr b base) = _
                    rw [st_cut hcut]
                    simp [tr]
                · obtain ⟨x, -, h9⟩ := a90 ha; cases h9
                · obtain ⟨x, -, -, h9⟩ := a91 ha; cases h9
                · obtain ⟨x, -, h9⟩ := a92 ha; cases h9
                · rcases a93 ha with ⟨x, -, h9⟩ | ⟨-, h9⟩ <;> cases h9
                · obtain ⟨-, h9⟩ := a94 ha; cases h9
            · rw [if_neg he] at hr; simp at hr
        · cases hr
          rcases KIND hden with hk | ⟨i, z', rfl, hlk, hv, rfl, rfl⟩ | ⟨i, z', rfl, hlk, hv, hz3, rfl, rfl⟩ | ⟨i, z', rfl, hlk, hv, rfl, rfl⟩ | ⟨rfl, rfl, hrt, rfl⟩ | ⟨rfl, rfl, hrt, rfl⟩ | ⟨rfl, rfl, hrt, rfl⟩ | ⟨rfl, rfl, hrt, rfl⟩ | ⟨rfl, rfl, hrt, rfl⟩
          · obtain ⟨r, hr9⟩ := act_plain hk ha
            cases hr9
          · obtain ⟨o, as0, -, -, h9⟩ := a80 ha; cases h9
          · obtain ⟨-, h9⟩ := a81 ha; cases h9
          · obtain ⟨o, as0, -, -, h9⟩ := a82 ha; cases h9
          · obtain ⟨x, rfl, h9⟩ := a90 ha
            cases h9
            exact fin H locs cells slots ls pc hY ⟨hdec, Or.inl hrt⟩
          · obtain ⟨x, rfl, h01, h9⟩ := a91 ha
            cases h9
            exact fin H locs cells slots ls pc hY ⟨hdec, Or.inr ⟨hrt, h01⟩⟩
          · obtain ⟨x, rfl, h9⟩ := a92 ha
            cases h9
            exact fin H locs cells slots ls pc hY ⟨hdec, hrt⟩
          · rcases a93 ha with ⟨x, rfl, h9⟩ | ⟨rfl, h9⟩
            · cases h9
              exact fin H locs cells slots ls pc hY ⟨hdec, hrt⟩
            · cases h9
              exact fin H locs cells slots ls pc hY ⟨hdec, hrt⟩
          · obtain ⟨rfl, h9⟩ := a94 ha
            cases h9
            exact fin H locs cells slots ls pc hY ⟨hdec, hrt⟩
