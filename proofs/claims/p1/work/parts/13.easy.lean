set_option maxHeartbeats 4000000 in
set_option maxRecDepth 100000 in
/-- lookAtCells, new object -/
theorem c_X11_lookAtCells (l : Launch) (D : va_G) (cy : Nat → ClassId) (sz : Nat) (cs : List Nat) (ad : Nat → Nat) (en : Nat → va_E) (hcs : ∀ c, c < 115 → c ∈ cs) (lf k la i n : Int32) (e0 : en 0 = .inr (10, [.ref (ad 1), .ref (ad 12), .ref (ad 70), .ref (ad 74), .ref (ad 75), .ref (ad 76), .int 0, .int lf])) (e75 : en 75 = .inl (cy 6, 4, .inr (.inr (.inr (.inr (fun j => some (ad (107 + 2 * j)))))))) (hs : ∀ j, j < 4 → en (107 + 2 * j) = .inr (3, [.ref (ad (108 + 2 * j)), .int 0, .int 0, .int 0])) : Met l yX11_lookAtCells (Cond.code yX11_lookAtCells cX11_lookAtCells 6 (some .int) :: TB) (rmN 2) (va_Pc [.ref (ad 0), .int k, .int la, .int i, .int n] (Pre D cy cs ad en sz)) (va_Qi (S := Unit) (fun r _ => r = sp3 k la) (fun _ _ => True) (Nf sz)) 0 0 (Nf sz) := by
  refine Met.ofW (cc := cX11_lookAtCells) (maxL := 6) (ret := (some .int)) (by decide) rfl ?_
  intro p e s m args below meth c s₁ B hml hv
  obtain ⟨rfl, hsz, hP, hK, hD0⟩ := hv
  have hx := B.exec
  have hb := B.bytes
  have hr := B.returns
  have hts : ∀ w ∈ TB, w.before _ s = true := fun w h => atoms_spec (ws := _ :: TB) B.pre w (List.mem_cons_of_mem _ h)
  have hown : s.vm.findClass RX11 = some m.cls := findClass_of_methodNamed B.named
  have hlocks := B.notSynchronized
  have hh : Hp D (Nf sz) (fun _ => True) s.heap s.heap [] cs ad en := ⟨hP, hD0, va_S.rf⟩
  have hA : ∀ q : Nat, s.heap.size ≤ q → Nf sz q := fun q h => by rw [hsz] at h; exact h
  have hl := lv_entry ([.ref (ad 0), .int k, .int la, .int i, .int n]) (n := 6) (Nat.le_of_ble_eq_true rfl)
  rw [lg_entry_eq]
  generalize (lg_sl ([.ref (ad 0), .int k, .int la, .int i, .int n]) ++ List.replicate (6 - (lg_sl ([.ref (ad 0), .int k, .int la, .int i, .int n])).length) Slot.unset).toArray = ls at hl ⊢
  have hl : lv_has ls 6 [(0, .ref (ad 0)), (1, .int k), (2, .int la), (3, .int i), (4, .int n)] := hl
  refine lv_iload_n hx hb dX11_lookAtCells_0 rfl (lv_at hl 1 rfl) ?_
  refine hp_callRi (va_runS (As := [.int k]) (rest := []) ⟨hx, hb, hml, hown, hts⟩ (c_X11_isSheet l D cy _ cs ad en k ) (kw_X11_isSheet hts tw_305 ⟨by decide, by decide⟩) (preS_of hh hK) rfl rfl hl.1 rfl (lv_room (Nat.le_of_ble_eq_true rfl)) dX11_lookAtCells_1 ⟨Nat.le_of_ble_eq_true rfl, Nat.le_of_ble_eq_true rfl⟩) hh hA (fun r_15 H locs hw_15 hh => ?_)
  rcases Decidable.em (wi k 0 3) with hp_15 | hp_15
  · obtain rfl : r_15 = 1 := Eq.trans hw_15 (if_pos hp_15)
    refine lv_if_ne (tgt := 9) hx hb dX11_lookAtCells_4 (by decide) (fun _ => ?_) (fun c_0 => absurd c_0 (by decide))
    refine lv_iload_n hx hb dX11_lookAtCells_9 rfl (lv_at hl 2 rfl) ?_
    refine hp_callRi (va_runS (As := [.int la]) (rest := []) ⟨hx, hb, hml, hown, hts⟩ (c_X11_isLane l D cy _ cs ad en la ) (kw_X11_isLane hts tw_308 ⟨by decide, by decide⟩) (preS_of hh hK) rfl rfl hl.1 rfl (lv_room (Nat.le_of_ble_eq_true rfl)) dX11_lookAtCells_10 ⟨Nat.le_of_ble_eq_true rfl, Nat.le_of_ble_eq_true rfl⟩) hh hA (fun r_16 H locs hw_16 hh => ?_)
    rcases Decidable.em (wi la 0 2) with hp_16 | hp_16
    · obtain rfl : r_16 = 1 := Eq.trans hw_16 (if_pos hp_16)
      refine lv_if_ne (tgt := 19) hx hb dX11_lookAtCells_13 (by decide) (fun _ => ?_) (fun c_0 => absurd c_0 (by decide))
      refine lv_aload_n hx hb dX11_lookAtCells_19 rfl (lv_at hl 0 rfl) ?_
      refine hp_get hx hb hts ix11 hown hK hh (q := 0) rfl (hcs _ (by decide)) e0 rfl 4 (by decide) (hts _ tw_249) (fun _ h9 => h9) rfl dX11_lookAtCells_20 ?_
      refine lv_iload_n hx hb dX11_lookAtCells_23 rfl (lv_at hl 1 rfl) ?_
      have hj_17 := wi_lt 4 hp_15 (by decide)
      have es17 : en (107 + 2 * k.toNatClampNeg) = .inr (3, [.ref (ad (108 + 2 * k.toNatClampNeg)), .int 0, .int 0, .int 0]) := hs _ hj_17
      refine hp_aald hx hb hK hh (q := 75) rfl (hcs _ (by decide)) 6 e75 rfl rfl (wi_in 4 hp_15 (by decide)) (v := .ref (ad (107 + 2 * k.toNatClampNeg))) (rfl) dX11_lookAtCells_24 ?_
      refine lv_astore (lv' := [(5, .ref (ad (107 + 2 * k.toNatClampNeg))), (0, .ref (ad 0)), (1, .int k), (2, .int la), (3, .int i), (4, .int n)]) hx hb dX11_lookAtCells_25 hl (by decide) rfl (fun ls hl => ?_)
      refine lv_aload hx hb dX11_lookAtCells_27 (lv_at hl 0 rfl) ?_
      refine hp_get hx hb hts ix3 hown hK hh (q := (107 + 2 * k.toNatClampNeg)) rfl (hcs _ (by omega)) es17 rfl 3 (by decide) (hts _ tw_235) (fun _ h9 => h9) rfl dX11_lookAtCells_29 ?_
      refine lv_if_eq (tgt := 49) hx hb dX11_lookAtCells_32 (by decide) (fun _ => ?_) (fun c_0 => absurd c_0 (by decide))
      refine lv_aload hx hb dX11_lookAtCells_49 (lv_at hl 0 rfl) ?_
      refine hp_get hx hb hts ix3 hown hK hh (q := (107 + 2 * k.toNatClampNeg)) rfl (hcs _ (by omega)) es17 rfl 3 (by decide) (hts _ tw_235) (fun _ h9 => h9) rfl dX11_lookAtCells_51 ?_
      refine lv_if_ne (tgt := 62) hx hb dX11_lookAtCells_54 (by decide) (fun c_0 => absurd c_0 (by decide)) (fun _ => ?_)
      refine lv_iconst (v := 1) hx hb dX11_lookAtCells_57 (by decide) ?_
      refine hp_callRi (va_runS (As := [.int 1]) (rest := []) ⟨hx, hb, hml, hown, hts⟩ (c_X11_faultAnswer l D cy _ cs ad en 1 ) (kw_X11_faultAnswer hts tw_311 ⟨by decide, by decide⟩) (preS_of hh hK) rfl rfl hl.1 rfl (lv_room (Nat.le_of_ble_eq_true rfl)) dX11_lookAtCells_58 ⟨Nat.le_of_ble_eq_true rfl, Nat.le_of_ble_eq_true rfl⟩) hh hA (fun r_18 H locs hw_18 hh => ?_)
      obtain rfl : r_18 = (-11) := Eq.trans hw_18 (by decide)
      exact hp_iretR hx hb hr rfl hlocks hsz hh ((sp3_a hp_15 hp_16).symm) dX11_lookAtCells_61
    · obtain rfl : r_16 = 0 := Eq.trans hw_16 (if_neg hp_16)
      refine lv_if_ne (tgt := 19) hx hb dX11_lookAtCells_13 (by decide) (fun c_0 => absurd c_0 (by decide)) (fun _ => ?_)
      refine lv_bipush (v := (-2)) hx hb dX11_lookAtCells_16 (by decide) ?_
      exact hp_iretR hx hb hr rfl hlocks hsz hh ((sp3_b hp_15 hp_16).symm) dX11_lookAtCells_18
  · obtain rfl : r_15 = 0 := Eq.trans hw_15 (if_neg hp_15)
    refine lv_if_ne (tgt := 9) hx hb dX11_lookAtCells_4 (by decide) (fun c_0 => absurd c_0 (by decide)) (fun _ => ?_)
    refine lv_iconst (v := (-1)) hx hb dX11_lookAtCells_7 (by decide) ?_
    exact hp_iretR hx hb hr rfl hlocks hsz hh ((sp3_c hp_15).symm) dX11_lookAtCells_8
theorem kw_X11_lookAtCells {R : Room} {s : State} {args : Array Value} {own : String} {idx : Nat} (hts : ∀ w ∈ TB, w.before args s = true) (hl : Cond.methodLink own idx yX11_lookAtCells ∈ TB) (hR : 2 + 1 ≤ R.frames ∧ 8 + (6 + 11) + 40 * 2 ≤ R.locals) : CallW R s args own RX11 idx yX11_lookAtCells cX11_lookAtCells 6 (some .int) (Cond.code yX11_lookAtCells cX11_lookAtCells 6 (some .int) :: TB) (rmN 2) 0 0 4 := cwV 4 hts (TB_V hl tw_303 ts_2 tw_1 tw_304) rfl rfl rfl (by decide +kernel) hR
set_option maxHeartbeats 4000000 in
set_option maxRecDepth 100000 in
/-- settle -/
theorem c_X11_settle (l : Launch) (D : va_G) (cy : Nat → ClassId) (sz : Nat) (cs : List Nat) (ad : Nat → Nat) (en : Nat → va_E) (hcs : ∀ c, c < 115 → c ∈ cs) (wc lf a : Int32) (e0 : en 0 = .inr (10, [.ref (ad 1), .ref (ad 12), .ref (ad 70), .ref (ad 74), .ref (ad 75), .ref (ad 76), .int wc, .int lf]))  : Met l yX11_settle (Cond.code yX11_settle cX11_settle 2 (some .int) :: TB) (rmN 1) (va_Pc [.ref (ad 0), .int a] (Pre D cy cs ad en sz)) (va_Qi (S := Nat → va_E) (fun r en1 => r = a ∧ en1 = va_up en 0 (.inr (10, [.ref (ad 1), .ref (ad 12), .ref (ad 70), .ref (ad 74), .ref (ad 75), .ref (ad 76), .int wc, .int (if wi a (-14) (-11) then (-10) - a else 0)]))) (PostM D cs ad) (Af cs ad sz)) 0 0 (Af cs ad sz) := by
  refine Met.ofW (cc := cX11_settle) (maxL := 2) (ret := (some .int)) (by decide) rfl ?_
  intro p e s m args below meth c s₁ B hml hv
  obtain ⟨rfl, hsz, hP, hK, hD0⟩ := hv
  have hx := B.exec
  have hb := B.bytes
  have hr := B.returns
  have hts : ∀ w ∈ TB, w.before _ s = true := fun w h => atoms_spec (ws := _ :: TB) B.pre w (List.mem_cons_of_mem _ h)
  have hown : s.vm.findClass RX11 = some m.cls := findClass_of_methodNamed B.named
  have hlocks := B.notSynchronized
  have hh : Hp D (Af cs ad sz) (Af cs ad sz) s.heap s.heap [] cs ad en := ⟨hP, Af_self hD0, va_S.rf⟩
  have hA : ∀ q : Nat, s.heap.size ≤ q → Af cs ad sz q := fun q h => Or.inr (by rw [hsz] at h; exact h)
  have hl := lv_entry ([.ref (ad 0), .int a]) (n := 2) (Nat.le_of_ble_eq_true rfl)
  rw [lg_entry_eq]
  generalize (lg_sl ([.ref (ad 0), .int a]) ++ List.replicate (2 - (lg_sl ([.ref (ad 0), .int a])).length) Slot.unset).toArray = ls at hl ⊢
  have hl : lv_has ls 2 [(0, .ref (ad 0)), (1, .int a)] := hl
  refine lv_aload_n hx hb dX11_settle_0 rfl (lv_at hl 0 rfl) ?_
  refine lv_iload_n hx hb dX11_settle_1 rfl (lv_at hl 1 rfl) ?_
  refine lv_bipush (v := (-14)) hx hb dX11_settle_2 (by decide) ?_
  refine lv_bipush (v := (-11)) hx hb dX11_settle_4 (by decide) ?_
  refine hp_callRi (va_runS (As := [.int a, .int (-14), .int (-11)]) (rest := [.ref (ad 0)]) ⟨hx, hb, hml, hown, hts⟩ (c_X11_isWithin l D cy _ cs ad en a (-14) (-11) ) (kw_X11_isWithin hts tw_274 ⟨by decide, by decide⟩) (preS_of hh hK) rfl rfl hl.1 rfl (lv_room (Nat.le_of_ble_eq_true rfl)) dX11_settle_6 ⟨Nat.le_of_ble_eq_true rfl, Nat.le_of_ble_eq_true rfl⟩) hh hA (fun r_19 H locs hw_19 hh => ?_)
  rcases Decidable.em (wi a (-14) (-11)) with hp_19 | hp_19
  · obtain rfl : r_19 = 1 := Eq.trans hw_19 (if_pos hp_19)
    refine lv_if_eq (tgt := 19) hx hb dX11_settle_9 (by decide) (fun c_0 => absurd c_0 (by decide)) (fun _ => ?_)
    refine lv_bipush (v := (-10)) hx hb dX11_settle_12 (by decide) ?_
    refine lv_iload_n hx hb dX11_settle_14 rfl (lv_at hl 1 rfl) ?_
    refine lv_isub hx hb dX11_settle_15 ?_
    refine lv_goto (tgt := 20) hx hb dX11_settle_16 (by decide) ?_
    refine hp_put hx hb hts ix11 tyX11 tyX11_ok nmX11 hown hK hh (q := 0) rfl (hcs _ (by decide)) e0 rfl 7 (by decide) (hts _ tw_252) (fun _ h9 => h9) rfl (ty := .int) (by decide +kernel) rfl rfl (Nat.le_of_ble_eq_true rfl) dX11_settle_20 (fun H locs en_20 hen_20 hh => ?_)
    have e0_20 : en_20 0 = .inr (10, [.ref (ad 1), .ref (ad 12), .ref (ad 70), .ref (ad 74), .ref (ad 75), .ref (ad 76), .int wc, .int ((-10) - a)]) := by rw [hen_20]; exact va_up_self _ _ _
    refine lv_iload_n hx hb dX11_settle_23 rfl (lv_at hl 1 rfl) ?_
    exact hp_iretM hx hb hr rfl hlocks hh (⟨rfl, by rw [if_pos hp_19]; exact hen_20⟩) dX11_settle_24
  · obtain rfl : r_19 = 0 := Eq.trans hw_19 (if_neg hp_19)
    refine lv_if_eq (tgt := 19) hx hb dX11_settle_9 (by decide) (fun _ => ?_) (fun c_0 => absurd c_0 (by decide))
    refine lv_iconst (v := 0) hx hb dX11_settle_19 (by decide) ?_
    refine hp_put hx hb hts ix11 tyX11 tyX11_ok nmX11 hown hK hh (q := 0) rfl (hcs _ (by decide)) e0 rfl 7 (by decide) (hts _ tw_252) (fun _ h9 => h9) rfl (ty := .int) (by decide +kernel) rfl rfl (Nat.le_of_ble_eq_true rfl) dX11_settle_20 (fun H locs en_21 hen_21 hh => ?_)
    have e0_21 : en_21 0 = .inr (10, [.ref (ad 1), .ref (ad 12), .ref (ad 70), .ref (ad 74), .ref (ad 75), .ref (ad 76), .int wc, .int 0]) := by rw [hen_21]; exact va_up_self _ _ _
    refine lv_iload_n hx hb dX11_settle_23 rfl (lv_at hl 1 rfl) ?_
    exact hp_iretM hx hb hr rfl hlocks hh (⟨rfl, by rw [if_neg hp_19]; exact hen_21⟩) dX11_settle_24
theorem kw_X11_settle {R : Room} {s : State} {args : Array Value} {own : String} {idx : Nat} (hts : ∀ w ∈ TB, w.before args s = true) (hl : Cond.methodLink own idx yX11_settle ∈ TB) (hR : 1 + 1 ≤ R.frames ∧ 8 + (2 + 11) + 40 * 1 ≤ R.locals) : CallW R s args own RX11 idx yX11_settle cX11_settle 2 (some .int) (Cond.code yX11_settle cX11_settle 2 (some .int) :: TB) (rmN 1) 0 0 1 := cwV 1 hts (TB_V hl tw_406 ts_7 tw_1 tw_407) rfl rfl rfl (by decide +kernel) hR
set_option maxHeartbeats 4000000 in
set_option maxRecDepth 100000 in
/-- addTable, new object -/
theorem c_X11_addTable (l : Launch) (D : va_G) (cy : Nat → ClassId) (sz : Nat) (cs : List Nat) (ad : Nat → Nat) (en : Nat → va_E) (hcs : ∀ c, c < 115 → c ∈ cs) (lf k la i : Int32) (e0 : en 0 = .inr (10, [.ref (ad 1), .ref (ad 12), .ref (ad 70), .ref (ad 74), .ref (ad 75), .ref (ad 76), .int 0, .int lf])) (e1 : en 1 = .inr (7, [.ref (ad 2), .ref (ad 3), .ref (ad 10), .ref (ad 11), .int 0, .int 2, .int 0])) (e75 : en 75 = .inl (cy 6, 4, .inr (.inr (.inr (.inr (fun j => some (ad (107 + 2 * j)))))))) (hs : ∀ j, j < 4 → en (107 + 2 * j) = .inr (3, [.ref (ad (108 + 2 * j)), .int 0, .int 0, .int 0])) : Met l yX11_addTable (Cond.code yX11_addTable cX11_addTable 8 (some .int) :: TB) (rmN 3) (va_Pc [.ref (ad 0), .int k, .int la, .int i] (Pre D cy cs ad en sz)) (va_Qi (S := Unit) (fun r _ => r = sp3 k la) (fun _ _ => True) (Nf sz)) 0 0 (Nf sz) := by
  refine Met.ofW (cc := cX11_addTable) (maxL := 8) (ret := (some .int)) (by decide) rfl ?_
  intro p e s m args below meth c s₁ B hml hv
  obtain ⟨rfl, hsz, hP, hK, hD0⟩ := hv
  have hx := B.exec
  have hb := B.bytes
  have hr := B.returns
  have hts : ∀ w ∈ TB, w.before _ s = true := fun w h => atoms_spec (ws := _ :: TB) B.pre w (List.mem_cons_of_mem _ h)
  have hown : s.vm.findClass RX11 = some m.cls := findClass_of_methodNamed B.named
  have hlocks := B.notSynchronized
  have hh : Hp D (Nf sz) (fun _ => True) s.heap s.heap [] cs ad en := ⟨hP, hD0, va_S.rf⟩
  have hA : ∀ q : Nat, s.heap.size ≤ q → Nf sz q := fun q h => by rw [hsz] at h; exact h
  have hl := lv_entry ([.ref (ad 0), .int k, .int la, .int i]) (n := 8) (Nat.le_of_ble_eq_true rfl)
  rw [lg_entry_eq]
  generalize (lg_sl ([.ref (ad 0), .int k, .int la, .int i]) ++ List.replicate (8 - (lg_sl ([.ref (ad 0), .int k, .int la, .int i])).length) Slot.unset).toArray = ls at hl ⊢
  have hl : lv_has ls 8 [(0, .ref (ad 0)), (1, .int k), (2, .int la), (3, .int i)] := hl
  refine lv_aload_n hx hb dX11_addTable_0 rfl (lv_at hl 0 rfl) ?_
  refine hp_get hx hb hts ix11 hown hK hh (q := 0) rfl (hcs _ (by decide)) e0 rfl 0 (by decide) (hts _ tw_245) (fun _ h9 => h9) rfl dX11_addTable_1 ?_
  refine hp_callRi (va_runV (As := []) (rest := []) ⟨hx, hb, hml, hown, hts⟩ (c_X8_cellCount l D cy _ cs ad en hcs 0 2 0 e1) (kw_X8_cellCount hts tw_297 ⟨by decide, by decide⟩) (preV_of hh hK (hcs _ (by decide)) e1 rfl) rfl rfl hl.1 rfl (lv_room (Nat.le_of_ble_eq_true rfl)) dX11_addTable_4 ⟨Nat.le_of_ble_eq_true rfl, Nat.le_of_ble_eq_true rfl⟩) hh hA (fun r_22 H locs hw_22 hh => ?_)
  obtain rfl : r_22 = 4 := hw_22
  refine lv_istore (lv' := [(4, .int 4), (0, .ref (ad 0)), (1, .int k), (2, .int la), (3, .int i)]) hx hb dX11_addTable_7 hl (by decide) rfl (fun ls hl => ?_)
  refine lv_aload_n hx hb dX11_addTable_9 rfl (lv_at hl 1 rfl) ?_
  refine lv_iload_n hx hb dX11_addTable_10 rfl (lv_at hl 2 rfl) ?_
  refine lv_iload_n hx hb dX11_addTable_11 rfl (lv_at hl 3 rfl) ?_
  refine lv_iload_n hx hb dX11_addTable_12 rfl (lv_at hl 4 rfl) ?_
  refine lv_iload hx hb dX11_addTable_13 (lv_at hl 0 rfl) ?_
  refine hp_callRi (va_runV (As := [.int k, .int la, .int i, .int 4]) (rest := []) ⟨hx, hb, hml, hown, hts⟩ (c_X11_lookAtCells l D cy _ cs ad en hcs lf k la i 4 e0 e75 hs) (kw_X11_lookAtCells hts tw_301 ⟨by decide, by decide⟩) (preV_of hh hK (hcs _ (by decide)) e0 rfl) rfl rfl hl.1 rfl (lv_room (Nat.le_of_ble_eq_true rfl)) dX11_addTable_15 ⟨Nat.le_of_ble_eq_true rfl, Nat.le_of_ble_eq_true rfl⟩) hh hA (fun r_23 H locs hw_23 hh => ?_)
  rcases Decidable.em (wi k 0 3) with hp_23 | hp_23
  · rcases Decidable.em (wi la 0 2) with hq_23 | hq_23
    · obtain rfl : r_23 = (-11) := Eq.trans hw_23 (sp3_a hp_23 hq_23)
      refine lv_istore (lv' := [(5, .int (-11)), (4, .int 4), (0, .ref (ad 0)), (1, .int k), (2, .int la), (3, .int i)]) hx hb dX11_addTable_18 hl (by decide) rfl (fun ls hl => ?_)
      refine lv_iload hx hb dX11_addTable_20 (lv_at hl 0 rfl) ?_
      refine lv_iconst (v := 1) hx hb dX11_addTable_22 (by decide) ?_
      refine lv_icmp_eq (tgt := 29) hx hb dX11_addTable_23 (by decide) (fun c_0 => absurd c_0 (by decide)) (fun _ => ?_)
      refine lv_iload hx hb dX11_addTable_26 (lv_at hl 0 rfl) ?_
      exact hp_iretR hx hb hr rfl hlocks hsz hh ((sp3_a hp_23 hq_23).symm) dX11_addTable_28
    · obtain rfl : r_23 = (-2) := Eq.trans hw_23 (sp3_b hp_23 hq_23)
      refine lv_istore (lv' := [(5, .int (-2)), (4, .int 4), (0, .ref (ad 0)), (1, .int k), (2, .int la), (3, .int i)]) hx hb dX11_addTable_18 hl (by decide) rfl (fun ls hl => ?_)
      refine lv_iload hx hb dX11_addTable_20 (lv_at hl 0 rfl) ?_
      refine lv_iconst (v := 1) hx hb dX11_addTable_22 (by decide) ?_
      refine lv_icmp_eq (tgt := 29) hx hb dX11_addTable_23 (by decide) (fun c_0 => absurd c_0 (by decide)) (fun _ => ?_)
      refine lv_iload hx hb dX11_addTable_26 (lv_at hl 0 rfl) ?_
      exact hp_iretR hx hb hr rfl hlocks hsz hh ((sp3_b hp_23 hq_23).symm) dX11_addTable_28
  · obtain rfl : r_23 = -1 := Eq.trans hw_23 (sp3_c hp_23)
    refine lv_istore (lv' := [(5, .int (-1)), (4, .int 4), (0, .ref (ad 0)), (1, .int k), (2, .int la), (3, .int i)]) hx hb dX11_addTable_18 hl (by decide) rfl (fun ls hl => ?_)
    refine lv_iload hx hb dX11_addTable_20 (lv_at hl 0 rfl) ?_
    refine lv_iconst (v := 1) hx hb dX11_addTable_22 (by decide) ?_
    refine lv_icmp_eq (tgt := 29) hx hb dX11_addTable_23 (by decide) (fun c_0 => absurd c_0 (by decide)) (fun _ => ?_)
    refine lv_iload hx hb dX11_addTable_26 (lv_at hl 0 rfl) ?_
    exact hp_iretR hx hb hr rfl hlocks hsz hh ((sp3_c hp_23).symm) dX11_addTable_28
theorem kw_X11_addTable {R : Room} {s : State} {args : Array Value} {own : String} {idx : Nat} (hts : ∀ w ∈ TB, w.before args s = true) (hl : Cond.methodLink own idx yX11_addTable ∈ TB) (hR : 3 + 1 ≤ R.frames ∧ 8 + (8 + 11) + 40 * 3 ≤ R.locals) : CallW R s args own RX11 idx yX11_addTable cX11_addTable 8 (some .int) (Cond.code yX11_addTable cX11_addTable 8 (some .int) :: TB) (rmN 3) 0 0 3 := cwV 3 hts (TB_V hl tw_295 ts_1 tw_1 tw_296) rfl rfl rfl (by decide +kernel) hR
set_option maxHeartbeats 4000000 in
set_option maxRecDepth 100000 in
/-- table, new object -/
theorem c_X11_table (l : Launch) (D : va_G) (cy : Nat → ClassId) (sz : Nat) (cs : List Nat) (ad : Nat → Nat) (en : Nat → va_E) (hcs : ∀ c, c < 115 → c ∈ cs) (lf k la i : Int32) (e0 : en 0 = .inr (10, [.ref (ad 1), .ref (ad 12), .ref (ad 70), .ref (ad 74), .ref (ad 75), .ref (ad 76), .int 0, .int lf])) (e1 : en 1 = .inr (7, [.ref (ad 2), .ref (ad 3), .ref (ad 10), .ref (ad 11), .int 0, .int 2, .int 0])) (e75 : en 75 = .inl (cy 6, 4, .inr (.inr (.inr (.inr (fun j => some (ad (107 + 2 * j)))))))) (hs : ∀ j, j < 4 → en (107 + 2 * j) = .inr (3, [.ref (ad (108 + 2 * j)), .int 0, .int 0, .int 0])) : Met l yX11_table (Cond.code yX11_table cX11_table 4 (some .int) :: TB) (rmN 4) (va_Pc [.ref (ad 0), .int k, .int la, .int i] (Pre D cy cs ad en sz)) (va_Qi (S := Nat → va_E) (fun r _ => r = sp3 k la) (PostM D cs ad) (Af cs ad sz)) 0 0 (Af cs ad sz) := by
  refine Met.ofW (cc := cX11_table) (maxL := 4) (ret := (some .int)) (by decide) rfl ?_
  intro p e s m args below meth c s₁ B hml hv
  obtain ⟨rfl, hsz, hP, hK, hD0⟩ := hv
  have hx := B.exec
  have hb := B.bytes
  have hr := B.returns
  have hts : ∀ w ∈ TB, w.before _ s = true := fun w h => atoms_spec (ws := _ :: TB) B.pre w (List.mem_cons_of_mem _ h)
  have hown : s.vm.findClass RX11 = some m.cls := findClass_of_methodNamed B.named
  have hlocks := B.notSynchronized
  have hh : Hp D (Af cs ad sz) (Af cs ad sz) s.heap s.heap [] cs ad en := ⟨hP, Af_self hD0, va_S.rf⟩
  have hA : ∀ q : Nat, s.heap.size ≤ q → Af cs ad sz q := fun q h => Or.inr (by rw [hsz] at h; exact h)
  have hl := lv_entry ([.ref (ad 0), .int k, .int la, .int i]) (n := 4) (Nat.le_of_ble_eq_true rfl)
  rw [lg_entry_eq]
  generalize (lg_sl ([.ref (ad 0), .int k, .int la, .int i]) ++ List.replicate (4 - (lg_sl ([.ref (ad 0), .int k, .int la, .int i])).length) Slot.unset).toArray = ls at hl ⊢
  have hl : lv_has ls 4 [(0, .ref (ad 0)), (1, .int k), (2, .int la), (3, .int i)] := hl
  refine lv_aload_n hx hb dX11_table_0 rfl (lv_at hl 0 rfl) ?_
  refine lv_aload_n hx hb dX11_table_1 rfl (lv_at hl 0 rfl) ?_
  refine lv_iload_n hx hb dX11_table_2 rfl (lv_at hl 1 rfl) ?_
  refine lv_iload_n hx hb dX11_table_3 rfl (lv_at hl 2 rfl) ?_
  refine lv_iload_n hx hb dX11_table_4 rfl (lv_at hl 3 rfl) ?_
  refine hp_callRi (va_runV (As := [.int k, .int la, .int i]) (rest := [.ref (ad 0)]) ⟨hx, hb, hml, hown, hts⟩ (c_X11_addTable l D cy _ cs ad en hcs lf k la i e0 e1 e75 hs) (kw_X11_addTable hts tw_293 ⟨by decide, by decide⟩) (preV_of hh hK (hcs _ (by decide)) e0 rfl) rfl rfl hl.1 rfl (lv_room (Nat.le_of_ble_eq_true rfl)) dX11_table_5 ⟨Nat.le_of_ble_eq_true rfl, Nat.le_of_ble_eq_true rfl⟩) hh hA (fun r_24 H locs hw_24 hh => ?_)
  rcases Decidable.em (wi k 0 3) with hp_24 | hp_24
  · rcases Decidable.em (wi la 0 2) with hq_24 | hq_24
    · obtain rfl : r_24 = (-11) := Eq.trans hw_24 (sp3_a hp_24 hq_24)
      refine hp_callMi (va_runV (As := [.int (-11)]) (rest := []) ⟨hx, hb, hml, hown, hts⟩ (c_X11_settle l D cy _ cs ad en hcs 0 lf (-11) e0 ) (kw_X11_settle hts tw_404 ⟨by decide, by decide⟩) (preV_of hh hK (hcs _ (by decide)) e0 rfl) rfl rfl hl.1 rfl (lv_room (Nat.le_of_ble_eq_true rfl)) dX11_table_8 ⟨Nat.le_of_ble_eq_true rfl, Nat.le_of_ble_eq_true rfl⟩) hh hA (fun r_25 H locs en_25 hw_25 hh => ?_)
      obtain ⟨rfl, hen_25⟩ := hw_25
      rw [if_pos (by decide)] at hen_25
      rw [show (-10 : Int32) - (-11) = 1 by decide] at hen_25
      have e1_25 : en_25 1 = .inr (7, [.ref (ad 2), .ref (ad 3), .ref (ad 10), .ref (ad 11), .int 0, .int 2, .int 0]) := by rw [hen_25, va_up_ne _ _ (by decide)]; exact e1
      have e75_25 : en_25 75 = .inl (cy 6, 4, .inr (.inr (.inr (.inr (fun j => some (ad (107 + 2 * j))))))) := by rw [hen_25, va_up_ne _ _ (by decide)]; exact e75
      have hs_25 : ∀ j, j < 4 → en_25 (107 + 2 * j) = .inr (3, [.ref (ad (108 + 2 * j)), .int 0, .int 0, .int 0]) := fun j hj => by rw [hen_25, va_up_ne _ _ (by omega)]; exact hs j hj
      have e0_25 : en_25 0 = .inr (10, [.ref (ad 1), .ref (ad 12), .ref (ad 70), .ref (ad 74), .ref (ad 75), .ref (ad 76), .int 0, .int 1]) := by rw [hen_25]; exact va_up_self _ _ _
      exact hp_iretM hx hb hr rfl hlocks hh ((sp3_a hp_24 hq_24).symm) dX11_table_11
    · obtain rfl : r_24 = (-2) := Eq.trans hw_24 (sp3_b hp_24 hq_24)
      refine hp_callMi (va_runV (As := [.int (-2)]) (rest := []) ⟨hx, hb, hml, hown, hts⟩ (c_X11_settle l D cy _ cs ad en hcs 0 lf (-2) e0 ) (kw_X11_settle hts tw_404 ⟨by decide, by decide⟩) (preV_of hh hK (hcs _ (by decide)) e0 rfl) rfl rfl hl.1 rfl (lv_room (Nat.le_of_ble_eq_true rfl)) dX11_table_8 ⟨Nat.le_of_ble_eq_true rfl, Nat.le_of_ble_eq_true rfl⟩) hh hA (fun r_26 H locs en_26 hw_26 hh => ?_)
      obtain ⟨rfl, hen_26⟩ := hw_26
      rw [if_neg (by decide)] at hen_26
      have e1_26 : en_26 1 = .inr (7, [.ref (ad 2), .ref (ad 3), .ref (ad 10), .ref (ad 11), .int 0, .int 2, .int 0]) := by rw [hen_26, va_up_ne _ _ (by decide)]; exact e1
      have e75_26 : en_26 75 = .inl (cy 6, 4, .inr (.inr (.inr (.inr (fun j => some (ad (107 + 2 * j))))))) := by rw [hen_26, va_up_ne _ _ (by decide)]; exact e75
      have hs_26 : ∀ j, j < 4 → en_26 (107 + 2 * j) = .inr (3, [.ref (ad (108 + 2 * j)), .int 0, .int 0, .int 0]) := fun j hj => by rw [hen_26, va_up_ne _ _ (by omega)]; exact hs j hj
      have e0_26 : en_26 0 = .inr (10, [.ref (ad 1), .ref (ad 12), .ref (ad 70), .ref (ad 74), .ref (ad 75), .ref (ad 76), .int 0, .int 0]) := by rw [hen_26]; exact va_up_self _ _ _
      exact hp_iretM hx hb hr rfl hlocks hh ((sp3_b hp_24 hq_24).symm) dX11_table_11
  · obtain rfl : r_24 = -1 := Eq.trans hw_24 (sp3_c hp_24)
    refine hp_callMi (va_runV (As := [.int (-1)]) (rest := []) ⟨hx, hb, hml, hown, hts⟩ (c_X11_settle l D cy _ cs ad en hcs 0 lf (-1) e0 ) (kw_X11_settle hts tw_404 ⟨by decide, by decide⟩) (preV_of hh hK (hcs _ (by decide)) e0 rfl) rfl rfl hl.1 rfl (lv_room (Nat.le_of_ble_eq_true rfl)) dX11_table_8 ⟨Nat.le_of_ble_eq_true rfl, Nat.le_of_ble_eq_true rfl⟩) hh hA (fun r_27 H locs en_27 hw_27 hh => ?_)
    obtain ⟨rfl, hen_27⟩ := hw_27
    rw [if_neg (by decide)] at hen_27
    have e1_27 : en_27 1 = .inr (7, [.ref (ad 2), .ref (ad 3), .ref (ad 10), .ref (ad 11), .int 0, .int 2, .int 0]) := by rw [hen_27, va_up_ne _ _ (by decide)]; exact e1
    have e75_27 : en_27 75 = .inl (cy 6, 4, .inr (.inr (.inr (.inr (fun j => some (ad (107 + 2 * j))))))) := by rw [hen_27, va_up_ne _ _ (by decide)]; exact e75
    have hs_27 : ∀ j, j < 4 → en_27 (107 + 2 * j) = .inr (3, [.ref (ad (108 + 2 * j)), .int 0, .int 0, .int 0]) := fun j hj => by rw [hen_27, va_up_ne _ _ (by omega)]; exact hs j hj
    have e0_27 : en_27 0 = .inr (10, [.ref (ad 1), .ref (ad 12), .ref (ad 70), .ref (ad 74), .ref (ad 75), .ref (ad 76), .int 0, .int 0]) := by rw [hen_27]; exact va_up_self _ _ _
    exact hp_iretM hx hb hr rfl hlocks hh ((sp3_c hp_24).symm) dX11_table_11
theorem kw_X11_table {R : Room} {s : State} {args : Array Value} {own : String} {idx : Nat} (hts : ∀ w ∈ TB, w.before args s = true) (hl : Cond.methodLink own idx yX11_table ∈ TB) (hR : 4 + 1 ≤ R.frames ∧ 8 + (4 + 11) + 40 * 4 ≤ R.locals) : CallW R s args own RX11 idx yX11_table cX11_table 4 (some .int) (Cond.code yX11_table cX11_table 4 (some .int) :: TB) (rmN 4) 0 0 3 := cwV 3 hts (TB_V hl tw_290 tw_291 tw_1 tw_292) rfl rfl rfl (by decide +kernel) hR
set_option maxHeartbeats 4000000 in
set_option maxRecDepth 100000 in
/-- keepWord, new object -/
theorem c_X11_keepWord (l : Launch) (D : va_G) (cy : Nat → ClassId) (sz : Nat) (cs : List Nat) (ad : Nat → Nat) (en : Nat → va_E) (hcs : ∀ c, c < 115 → c ∈ cs) (lf k la i n : Int32) (e0 : en 0 = .inr (10, [.ref (ad 1), .ref (ad 12), .ref (ad 70), .ref (ad 74), .ref (ad 75), .ref (ad 76), .int 0, .int lf])) (e1 : en 1 = .inr (7, [.ref (ad 2), .ref (ad 3), .ref (ad 10), .ref (ad 11), .int 0, .int 2, .int 0])) (e75 : en 75 = .inl (cy 6, 4, .inr (.inr (.inr (.inr (fun j => some (ad (107 + 2 * j)))))))) (hs : ∀ j, j < 4 → en (107 + 2 * j) = .inr (3, [.ref (ad (108 + 2 * j)), .int 0, .int 0, .int 0])) : Met l yX11_keepWord (Cond.code yX11_keepWord cX11_keepWord 9 (some .int) :: TB) (rmN 3) (va_Pc [.ref (ad 0), .int k, .int la, .int i, .int n] (Pre D cy cs ad en sz)) (va_Qi (S := Unit) (fun r _ => r = sp3 k la) (fun _ _ => True) (Nf sz)) 0 0 (Nf sz) := by
  refine Met.ofW (cc := cX11_keepWord) (maxL := 9) (ret := (some .int)) (by decide) rfl ?_
  intro p e s m args below meth c s₁ B hml hv
  obtain ⟨rfl, hsz, hP, hK, hD0⟩ := hv
  have hx := B.exec
  have hb := B.bytes
  have hr := B.returns
  have hts : ∀ w ∈ TB, w.before _ s = true := fun w h => atoms_spec (ws := _ :: TB) B.pre w (List.mem_cons_of_mem _ h)
  have hown : s.vm.findClass RX11 = some m.cls := findClass_of_methodNamed B.named
  have hlocks := B.notSynchronized
  have hh : Hp D (Nf sz) (fun _ => True) s.heap s.heap [] cs ad en := ⟨hP, hD0, va_S.rf⟩
  have hA : ∀ q : Nat, s.heap.size ≤ q → Nf sz q := fun q h => by rw [hsz] at h; exact h
  have hl := lv_entry ([.ref (ad 0), .int k, .int la, .int i, .int n]) (n := 9) (Nat.le_of_ble_eq_true rfl)
  rw [lg_entry_eq]
  generalize (lg_sl ([.ref (ad 0), .int k, .int la, .int i, .int n]) ++ List.replicate (9 - (lg_sl ([.ref (ad 0), .int k, .int la, .int i, .int n])).length) Slot.unset).toArray = ls at hl ⊢
  have hl : lv_has ls 9 [(0, .ref (ad 0)), (1, .int k), (2, .int la), (3, .int i), (4, .int n)] := hl
  refine lv_aload_n hx hb dX11_keepWord_0 rfl (lv_at hl 0 rfl) ?_
  refine lv_iload_n hx hb dX11_keepWord_1 rfl (lv_at hl 1 rfl) ?_
  refine lv_iload_n hx hb dX11_keepWord_2 rfl (lv_at hl 2 rfl) ?_
  refine lv_iload_n hx hb dX11_keepWord_3 rfl (lv_at hl 3 rfl) ?_
  refine lv_iload hx hb dX11_keepWord_4 (lv_at hl 4 rfl) ?_
  refine hp_callRi (va_runV (As := [.int k, .int la, .int i, .int n]) (rest := []) ⟨hx, hb, hml, hown, hts⟩ (c_X11_lookAtCells l D cy _ cs ad en hcs lf k la i n e0 e75 hs) (kw_X11_lookAtCells hts tw_301 ⟨by decide, by decide⟩) (preV_of hh hK (hcs _ (by decide)) e0 rfl) rfl rfl hl.1 rfl (lv_room (Nat.le_of_ble_eq_true rfl)) dX11_keepWord_6 ⟨Nat.le_of_ble_eq_true rfl, Nat.le_of_ble_eq_true rfl⟩) hh hA (fun r_28 H locs hw_28 hh => ?_)
  rcases Decidable.em (wi k 0 3) with hp_28 | hp_28
  · rcases Decidable.em (wi la 0 2) with hq_28 | hq_28
    · obtain rfl : r_28 = (-11) := Eq.trans hw_28 (sp3_a hp_28 hq_28)
      refine lv_istore (lv' := [(5, .int (-11)), (0, .ref (ad 0)), (1, .int k), (2, .int la), (3, .int i), (4, .int n)]) hx hb dX11_keepWord_9 hl (by decide) rfl (fun ls hl => ?_)
      refine lv_iload hx hb dX11_keepWord_11 (lv_at hl 0 rfl) ?_
      refine lv_iconst (v := 1) hx hb dX11_keepWord_13 (by decide) ?_
      refine lv_icmp_eq (tgt := 20) hx hb dX11_keepWord_14 (by decide) (fun c_0 => absurd c_0 (by decide)) (fun _ => ?_)
      refine lv_iload hx hb dX11_keepWord_17 (lv_at hl 0 rfl) ?_
      exact hp_iretR hx hb hr rfl hlocks hsz hh ((sp3_a hp_28 hq_28).symm) dX11_keepWord_19
    · obtain rfl : r_28 = (-2) := Eq.trans hw_28 (sp3_b hp_28 hq_28)
      refine lv_istore (lv' := [(5, .int (-2)), (0, .ref (ad 0)), (1, .int k), (2, .int la), (3, .int i), (4, .int n)]) hx hb dX11_keepWord_9 hl (by decide) rfl (fun ls hl => ?_)
      refine lv_iload hx hb dX11_keepWord_11 (lv_at hl 0 rfl) ?_
      refine lv_iconst (v := 1) hx hb dX11_keepWord_13 (by decide) ?_
      refine lv_icmp_eq (tgt := 20) hx hb dX11_keepWord_14 (by decide) (fun c_0 => absurd c_0 (by decide)) (fun _ => ?_)
      refine lv_iload hx hb dX11_keepWord_17 (lv_at hl 0 rfl) ?_
      exact hp_iretR hx hb hr rfl hlocks hsz hh ((sp3_b hp_28 hq_28).symm) dX11_keepWord_19
  · obtain rfl : r_28 = -1 := Eq.trans hw_28 (sp3_c hp_28)
    refine lv_istore (lv' := [(5, .int (-1)), (0, .ref (ad 0)), (1, .int k), (2, .int la), (3, .int i), (4, .int n)]) hx hb dX11_keepWord_9 hl (by decide) rfl (fun ls hl => ?_)
    refine lv_iload hx hb dX11_keepWord_11 (lv_at hl 0 rfl) ?_
    refine lv_iconst (v := 1) hx hb dX11_keepWord_13 (by decide) ?_
    refine lv_icmp_eq (tgt := 20) hx hb dX11_keepWord_14 (by decide) (fun c_0 => absurd c_0 (by decide)) (fun _ => ?_)
    refine lv_iload hx hb dX11_keepWord_17 (lv_at hl 0 rfl) ?_
    exact hp_iretR hx hb hr rfl hlocks hsz hh ((sp3_c hp_28).symm) dX11_keepWord_19
theorem kw_X11_keepWord {R : Room} {s : State} {args : Array Value} {own : String} {idx : Nat} (hts : ∀ w ∈ TB, w.before args s = true) (hl : Cond.methodLink own idx yX11_keepWord ∈ TB) (hR : 3 + 1 ≤ R.frames ∧ 8 + (9 + 11) + 40 * 3 ≤ R.locals) : CallW R s args own RX11 idx yX11_keepWord cX11_keepWord 9 (some .int) (Cond.code yX11_keepWord cX11_keepWord 9 (some .int) :: TB) (rmN 3) 0 0 4 := cwV 4 hts (TB_V hl tw_679 ts_24 tw_1 tw_680) rfl rfl rfl (by decide +kernel) hR
set_option maxHeartbeats 4000000 in
set_option maxRecDepth 100000 in
/-- word, new object -/
theorem c_X11_word (l : Launch) (D : va_G) (cy : Nat → ClassId) (sz : Nat) (cs : List Nat) (ad : Nat → Nat) (en : Nat → va_E) (hcs : ∀ c, c < 115 → c ∈ cs) (lf k la i n : Int32) (e0 : en 0 = .inr (10, [.ref (ad 1), .ref (ad 12), .ref (ad 70), .ref (ad 74), .ref (ad 75), .ref (ad 76), .int 0, .int lf])) (e1 : en 1 = .inr (7, [.ref (ad 2), .ref (ad 3), .ref (ad 10), .ref (ad 11), .int 0, .int 2, .int 0])) (e75 : en 75 = .inl (cy 6, 4, .inr (.inr (.inr (.inr (fun j => some (ad (107 + 2 * j)))))))) (hs : ∀ j, j < 4 → en (107 + 2 * j) = .inr (3, [.ref (ad (108 + 2 * j)), .int 0, .int 0, .int 0])) : Met l yX11_word (Cond.code yX11_word cX11_word 5 (some .int) :: TB) (rmN 4) (va_Pc [.ref (ad 0), .int k, .int la, .int i, .int n] (Pre D cy cs ad en sz)) (va_Qi (S := Nat → va_E) (fun r _ => r = sp3 k la) (PostM D cs ad) (Af cs ad sz)) 0 0 (Af cs ad sz) := by
  refine Met.ofW (cc := cX11_word) (maxL := 5) (ret := (some .int)) (by decide) rfl ?_
  intro p e s m args below meth c s₁ B hml hv
  obtain ⟨rfl, hsz, hP, hK, hD0⟩ := hv
  have hx := B.exec
  have hb := B.bytes
  have hr := B.returns
  have hts : ∀ w ∈ TB, w.before _ s = true := fun w h => atoms_spec (ws := _ :: TB) B.pre w (List.mem_cons_of_mem _ h)
  have hown : s.vm.findClass RX11 = some m.cls := findClass_of_methodNamed B.named
  have hlocks := B.notSynchronized
  have hh : Hp D (Af cs ad sz) (Af cs ad sz) s.heap s.heap [] cs ad en := ⟨hP, Af_self hD0, va_S.rf⟩
  have hA : ∀ q : Nat, s.heap.size ≤ q → Af cs ad sz q := fun q h => Or.inr (by rw [hsz] at h; exact h)
  have hl := lv_entry ([.ref (ad 0), .int k, .int la, .int i, .int n]) (n := 5) (Nat.le_of_ble_eq_true rfl)
  rw [lg_entry_eq]
  generalize (lg_sl ([.ref (ad 0), .int k, .int la, .int i, .int n]) ++ List.replicate (5 - (lg_sl ([.ref (ad 0), .int k, .int la, .int i, .int n])).length) Slot.unset).toArray = ls at hl ⊢
  have hl : lv_has ls 5 [(0, .ref (ad 0)), (1, .int k), (2, .int la), (3, .int i), (4, .int n)] := hl
  refine lv_aload_n hx hb dX11_word_0 rfl (lv_at hl 0 rfl) ?_
  refine lv_aload_n hx hb dX11_word_1 rfl (lv_at hl 0 rfl) ?_
  refine lv_iload_n hx hb dX11_word_2 rfl (lv_at hl 1 rfl) ?_
  refine lv_iload_n hx hb dX11_word_3 rfl (lv_at hl 2 rfl) ?_
  refine lv_iload_n hx hb dX11_word_4 rfl (lv_at hl 3 rfl) ?_
  refine lv_iload hx hb dX11_word_5 (lv_at hl 4 rfl) ?_
  refine hp_callRi (va_runV (As := [.int k, .int la, .int i, .int n]) (rest := [.ref (ad 0)]) ⟨hx, hb, hml, hown, hts⟩ (c_X11_keepWord l D cy _ cs ad en hcs lf k la i n e0 e1 e75 hs) (kw_X11_keepWord hts tw_677 ⟨by decide, by decide⟩) (preV_of hh hK (hcs _ (by decide)) e0 rfl) rfl rfl hl.1 rfl (lv_room (Nat.le_of_ble_eq_true rfl)) dX11_word_7 ⟨Nat.le_of_ble_eq_true rfl, Nat.le_of_ble_eq_true rfl⟩) hh hA (fun r_29 H locs hw_29 hh => ?_)
  rcases Decidable.em (wi k 0 3) with hp_29 | hp_29
  · rcases Decidable.em (wi la 0 2) with hq_29 | hq_29
    · obtain rfl : r_29 = (-11) := Eq.trans hw_29 (sp3_a hp_29 hq_29)
      refine hp_callMi (va_runV (As := [.int (-11)]) (rest := []) ⟨hx, hb, hml, hown, hts⟩ (c_X11_settle l D cy _ cs ad en hcs 0 lf (-11) e0 ) (kw_X11_settle hts tw_404 ⟨by decide, by decide⟩) (preV_of hh hK (hcs _ (by decide)) e0 rfl) rfl rfl hl.1 rfl (lv_room (Nat.le_of_ble_eq_true rfl)) dX11_word_10 ⟨Nat.le_of_ble_eq_true rfl, Nat.le_of_ble_eq_true rfl⟩) hh hA (fun r_30 H locs en_30 hw_30 hh => ?_)
      obtain ⟨rfl, hen_30⟩ := hw_30
      rw [if_pos (by decide)] at hen_30
      rw [show (-10 : Int32) - (-11) = 1 by decide] at hen_30
      have e1_30 : en_30 1 = .inr (7, [.ref (ad 2), .ref (ad 3), .ref (ad 10), .ref (ad 11), .int 0, .int 2, .int 0]) := by rw [hen_30, va_up_ne _ _ (by decide)]; exact e1
      have e75_30 : en_30 75 = .inl (cy 6, 4, .inr (.inr (.inr (.inr (fun j => some (ad (107 + 2 * j))))))) := by rw [hen_30, va_up_ne _ _ (by decide)]; exact e75
      have hs_30 : ∀ j, j < 4 → en_30 (107 + 2 * j) = .inr (3, [.ref (ad (108 + 2 * j)), .int 0, .int 0, .int 0]) := fun j hj => by rw [hen_30, va_up_ne _ _ (by omega)]; exact hs j hj
      have e0_30 : en_30 0 = .inr (10, [.ref (ad 1), .ref (ad 12), .ref (ad 70), .ref (ad 74), .ref (ad 75), .ref (ad 76), .int 0, .int 1]) := by rw [hen_30]; exact va_up_self _ _ _
      exact hp_iretM hx hb hr rfl hlocks hh ((sp3_a hp_29 hq_29).symm) dX11_word_13
    · obtain rfl : r_29 = (-2) := Eq.trans hw_29 (sp3_b hp_29 hq_29)
      refine hp_callMi (va_runV (As := [.int (-2)]) (rest := []) ⟨hx, hb, hml, hown, hts⟩ (c_X11_settle l D cy _ cs ad en hcs 0 lf (-2) e0 ) (kw_X11_settle hts tw_404 ⟨by decide, by decide⟩) (preV_of hh hK (hcs _ (by decide)) e0 rfl) rfl rfl hl.1 rfl (lv_room (Nat.le_of_ble_eq_true rfl)) dX11_word_10 ⟨Nat.le_of_ble_eq_true rfl, Nat.le_of_ble_eq_true rfl⟩) hh hA (fun r_31 H locs en_31 hw_31 hh => ?_)
      obtain ⟨rfl, hen_31⟩ := hw_31
      rw [if_neg (by decide)] at hen_31
      have e1_31 : en_31 1 = .inr (7, [.ref (ad 2), .ref (ad 3), .ref (ad 10), .ref (ad 11), .int 0, .int 2, .int 0]) := by rw [hen_31, va_up_ne _ _ (by decide)]; exact e1
      have e75_31 : en_31 75 = .inl (cy 6, 4, .inr (.inr (.inr (.inr (fun j => some (ad (107 + 2 * j))))))) := by rw [hen_31, va_up_ne _ _ (by decide)]; exact e75
      have hs_31 : ∀ j, j < 4 → en_31 (107 + 2 * j) = .inr (3, [.ref (ad (108 + 2 * j)), .int 0, .int 0, .int 0]) := fun j hj => by rw [hen_31, va_up_ne _ _ (by omega)]; exact hs j hj
      have e0_31 : en_31 0 = .inr (10, [.ref (ad 1), .ref (ad 12), .ref (ad 70), .ref (ad 74), .ref (ad 75), .ref (ad 76), .int 0, .int 0]) := by rw [hen_31]; exact va_up_self _ _ _
      exact hp_iretM hx hb hr rfl hlocks hh ((sp3_b hp_29 hq_29).symm) dX11_word_13
  · obtain rfl : r_29 = -1 := Eq.trans hw_29 (sp3_c hp_29)
    refine hp_callMi (va_runV (As := [.int (-1)]) (rest := []) ⟨hx, hb, hml, hown, hts⟩ (c_X11_settle l D cy _ cs ad en hcs 0 lf (-1) e0 ) (kw_X11_settle hts tw_404 ⟨by decide, by decide⟩) (preV_of hh hK (hcs _ (by decide)) e0 rfl) rfl rfl hl.1 rfl (lv_room (Nat.le_of_ble_eq_true rfl)) dX11_word_10 ⟨Nat.le_of_ble_eq_true rfl, Nat.le_of_ble_eq_true rfl⟩) hh hA (fun r_32 H locs en_32 hw_32 hh => ?_)
    obtain ⟨rfl, hen_32⟩ := hw_32
    rw [if_neg (by decide)] at hen_32
    have e1_32 : en_32 1 = .inr (7, [.ref (ad 2), .ref (ad 3), .ref (ad 10), .ref (ad 11), .int 0, .int 2, .int 0]) := by rw [hen_32, va_up_ne _ _ (by decide)]; exact e1
    have e75_32 : en_32 75 = .inl (cy 6, 4, .inr (.inr (.inr (.inr (fun j => some (ad (107 + 2 * j))))))) := by rw [hen_32, va_up_ne _ _ (by decide)]; exact e75
    have hs_32 : ∀ j, j < 4 → en_32 (107 + 2 * j) = .inr (3, [.ref (ad (108 + 2 * j)), .int 0, .int 0, .int 0]) := fun j hj => by rw [hen_32, va_up_ne _ _ (by omega)]; exact hs j hj
    have e0_32 : en_32 0 = .inr (10, [.ref (ad 1), .ref (ad 12), .ref (ad 70), .ref (ad 74), .ref (ad 75), .ref (ad 76), .int 0, .int 0]) := by rw [hen_32]; exact va_up_self _ _ _
    exact hp_iretM hx hb hr rfl hlocks hh ((sp3_c hp_29).symm) dX11_word_13
theorem kw_X11_word {R : Room} {s : State} {args : Array Value} {own : String} {idx : Nat} (hts : ∀ w ∈ TB, w.before args s = true) (hl : Cond.methodLink own idx yX11_word ∈ TB) (hR : 4 + 1 ≤ R.frames ∧ 8 + (5 + 11) + 40 * 4 ≤ R.locals) : CallW R s args own RX11 idx yX11_word cX11_word 5 (some .int) (Cond.code yX11_word cX11_word 5 (some .int) :: TB) (rmN 4) 0 0 4 := cwV 4 hts (TB_V hl tw_674 tw_675 tw_1 tw_676) rfl rfl rfl (by decide +kernel) hR
set_option maxHeartbeats 4000000 in
set_option maxRecDepth 100000 in
/-- at, new object -/
theorem c_X11_at (l : Launch) (D : va_G) (cy : Nat → ClassId) (sz : Nat) (cs : List Nat) (ad : Nat → Nat) (en : Nat → va_E) (hcs : ∀ c, c < 115 → c ∈ cs) (lf k i la : Int32) (e0 : en 0 = .inr (10, [.ref (ad 1), .ref (ad 12), .ref (ad 70), .ref (ad 74), .ref (ad 75), .ref (ad 76), .int 0, .int lf])) (e75 : en 75 = .inl (cy 6, 4, .inr (.inr (.inr (.inr (fun j => some (ad (107 + 2 * j)))))))) (hs : ∀ j, j < 4 → en (107 + 2 * j) = .inr (3, [.ref (ad (108 + 2 * j)), .int 0, .int 0, .int 0])) : Met l yX11_at (Cond.code yX11_at cX11_at 5 (some .long) :: TB) (rmN 3) (va_Pc [.ref (ad 0), .int k, .int i, .int la] (Pre D cy cs ad en sz)) (va_Ql (S := Nat → va_E) (fun r _ => r = (-9223372036854775808)) (PostM D cs ad) (Af cs ad sz)) 0 0 (Af cs ad sz) := by
  refine Met.ofW (cc := cX11_at) (maxL := 5) (ret := (some .long)) (by decide) rfl ?_
  intro p e s m args below meth c s₁ B hml hv
  obtain ⟨rfl, hsz, hP, hK, hD0⟩ := hv
  have hx := B.exec
  have hb := B.bytes
  have hr := B.returns
  have hts : ∀ w ∈ TB, w.before _ s = true := fun w h => atoms_spec (ws := _ :: TB) B.pre w (List.mem_cons_of_mem _ h)
  have hown : s.vm.findClass RX11 = some m.cls := findClass_of_methodNamed B.named
  have hlocks := B.notSynchronized
  have hh : Hp D (Af cs ad sz) (Af cs ad sz) s.heap s.heap [] cs ad en := ⟨hP, Af_self hD0, va_S.rf⟩
  have hA : ∀ q : Nat, s.heap.size ≤ q → Af cs ad sz q := fun q h => Or.inr (by rw [hsz] at h; exact h)
  have hl := lv_entry ([.ref (ad 0), .int k, .int i, .int la]) (n := 5) (Nat.le_of_ble_eq_true rfl)
  rw [lg_entry_eq]
  generalize (lg_sl ([.ref (ad 0), .int k, .int i, .int la]) ++ List.replicate (5 - (lg_sl ([.ref (ad 0), .int k, .int i, .int la])).length) Slot.unset).toArray = ls at hl ⊢
  have hl : lv_has ls 5 [(0, .ref (ad 0)), (1, .int k), (2, .int i), (3, .int la)] := hl
  refine lv_aload_n hx hb dX11_at_0 rfl (lv_at hl 0 rfl) ?_
  refine lv_aload_n hx hb dX11_at_1 rfl (lv_at hl 0 rfl) ?_
  refine lv_iload_n hx hb dX11_at_2 rfl (lv_at hl 1 rfl) ?_
  refine lv_iload_n hx hb dX11_at_3 rfl (lv_at hl 3 rfl) ?_
  refine lv_iload_n hx hb dX11_at_4 rfl (lv_at hl 2 rfl) ?_
  refine lv_iconst (v := 1) hx hb dX11_at_5 (by decide) ?_
  refine hp_callRi (va_runV (As := [.int k, .int la, .int i, .int 1]) (rest := [.ref (ad 0)]) ⟨hx, hb, hml, hown, hts⟩ (c_X11_lookAtCells l D cy _ cs ad en hcs lf k la i 1 e0 e75 hs) (kw_X11_lookAtCells hts tw_301 ⟨by decide, by decide⟩) (preV_of hh hK (hcs _ (by decide)) e0 rfl) rfl rfl hl.1 rfl (lv_room (Nat.le_of_ble_eq_true rfl)) dX11_at_6 ⟨Nat.le_of_ble_eq_true rfl, Nat.le_of_ble_eq_true rfl⟩) hh hA (fun r_33 H locs hw_33 hh => ?_)
  rcases Decidable.em (wi k 0 3) with hp_33 | hp_33
  · rcases Decidable.em (wi la 0 2) with hq_33 | hq_33
    · obtain rfl : r_33 = (-11) := Eq.trans hw_33 (sp3_a hp_33 hq_33)
      refine hp_callMi (va_runV (As := [.int (-11)]) (rest := []) ⟨hx, hb, hml, hown, hts⟩ (c_X11_settle l D cy _ cs ad en hcs 0 lf (-11) e0 ) (kw_X11_settle hts tw_404 ⟨by decide, by decide⟩) (preV_of hh hK (hcs _ (by decide)) e0 rfl) rfl rfl hl.1 rfl (lv_room (Nat.le_of_ble_eq_true rfl)) dX11_at_9 ⟨Nat.le_of_ble_eq_true rfl, Nat.le_of_ble_eq_true rfl⟩) hh hA (fun r_34 H locs en_34 hw_34 hh => ?_)
      obtain ⟨rfl, hen_34⟩ := hw_34
      rw [if_pos (by decide)] at hen_34
      rw [show (-10 : Int32) - (-11) = 1 by decide] at hen_34
      have e75_34 : en_34 75 = .inl (cy 6, 4, .inr (.inr (.inr (.inr (fun j => some (ad (107 + 2 * j))))))) := by rw [hen_34, va_up_ne _ _ (by decide)]; exact e75
      have hs_34 : ∀ j, j < 4 → en_34 (107 + 2 * j) = .inr (3, [.ref (ad (108 + 2 * j)), .int 0, .int 0, .int 0]) := fun j hj => by rw [hen_34, va_up_ne _ _ (by omega)]; exact hs j hj
      have e0_34 : en_34 0 = .inr (10, [.ref (ad 1), .ref (ad 12), .ref (ad 70), .ref (ad 74), .ref (ad 75), .ref (ad 76), .int 0, .int 1]) := by rw [hen_34]; exact va_up_self _ _ _
      refine lv_istore (lv' := [(4, .int (-11)), (0, .ref (ad 0)), (1, .int k), (2, .int i), (3, .int la)]) hx hb dX11_at_12 hl (by decide) rfl (fun ls hl => ?_)
      refine lv_iload hx hb dX11_at_14 (lv_at hl 0 rfl) ?_
      refine lv_iconst (v := 1) hx hb dX11_at_16 (by decide) ?_
      refine lv_icmp_ne (tgt := 35) hx hb dX11_at_17 (by decide) (fun _ => ?_) (fun c_0 => absurd c_0 (by decide))
      refine lv_ldc2 hx hb hown (hts _ tw_420) dX11_at_35 ?_
      exact hp_lretM hx hb hr hlocks hh (rfl) dX11_at_38
    · obtain rfl : r_33 = (-2) := Eq.trans hw_33 (sp3_b hp_33 hq_33)
      refine hp_callMi (va_runV (As := [.int (-2)]) (rest := []) ⟨hx, hb, hml, hown, hts⟩ (c_X11_settle l D cy _ cs ad en hcs 0 lf (-2) e0 ) (kw_X11_settle hts tw_404 ⟨by decide, by decide⟩) (preV_of hh hK (hcs _ (by decide)) e0 rfl) rfl rfl hl.1 rfl (lv_room (Nat.le_of_ble_eq_true rfl)) dX11_at_9 ⟨Nat.le_of_ble_eq_true rfl, Nat.le_of_ble_eq_true rfl⟩) hh hA (fun r_35 H locs en_35 hw_35 hh => ?_)
      obtain ⟨rfl, hen_35⟩ := hw_35
      rw [if_neg (by decide)] at hen_35
      have e75_35 : en_35 75 = .inl (cy 6, 4, .inr (.inr (.inr (.inr (fun j => some (ad (107 + 2 * j))))))) := by rw [hen_35, va_up_ne _ _ (by decide)]; exact e75
      have hs_35 : ∀ j, j < 4 → en_35 (107 + 2 * j) = .inr (3, [.ref (ad (108 + 2 * j)), .int 0, .int 0, .int 0]) := fun j hj => by rw [hen_35, va_up_ne _ _ (by omega)]; exact hs j hj
      have e0_35 : en_35 0 = .inr (10, [.ref (ad 1), .ref (ad 12), .ref (ad 70), .ref (ad 74), .ref (ad 75), .ref (ad 76), .int 0, .int 0]) := by rw [hen_35]; exact va_up_self _ _ _
      refine lv_istore (lv' := [(4, .int (-2)), (0, .ref (ad 0)), (1, .int k), (2, .int i), (3, .int la)]) hx hb dX11_at_12 hl (by decide) rfl (fun ls hl => ?_)
      refine lv_iload hx hb dX11_at_14 (lv_at hl 0 rfl) ?_
      refine lv_iconst (v := 1) hx hb dX11_at_16 (by decide) ?_
      refine lv_icmp_ne (tgt := 35) hx hb dX11_at_17 (by decide) (fun _ => ?_) (fun c_0 => absurd c_0 (by decide))
      refine lv_ldc2 hx hb hown (hts _ tw_420) dX11_at_35 ?_
      exact hp_lretM hx hb hr hlocks hh (rfl) dX11_at_38
  · obtain rfl : r_33 = -1 := Eq.trans hw_33 (sp3_c hp_33)
    refine hp_callMi (va_runV (As := [.int (-1)]) (rest := []) ⟨hx, hb, hml, hown, hts⟩ (c_X11_settle l D cy _ cs ad en hcs 0 lf (-1) e0 ) (kw_X11_settle hts tw_404 ⟨by decide, by decide⟩) (preV_of hh hK (hcs _ (by decide)) e0 rfl) rfl rfl hl.1 rfl (lv_room (Nat.le_of_ble_eq_true rfl)) dX11_at_9 ⟨Nat.le_of_ble_eq_true rfl, Nat.le_of_ble_eq_true rfl⟩) hh hA (fun r_36 H locs en_36 hw_36 hh => ?_)
    obtain ⟨rfl, hen_36⟩ := hw_36
    rw [if_neg (by decide)] at hen_36
    have e75_36 : en_36 75 = .inl (cy 6, 4, .inr (.inr (.inr (.inr (fun j => some (ad (107 + 2 * j))))))) := by rw [hen_36, va_up_ne _ _ (by decide)]; exact e75
    have hs_36 : ∀ j, j < 4 → en_36 (107 + 2 * j) = .inr (3, [.ref (ad (108 + 2 * j)), .int 0, .int 0, .int 0]) := fun j hj => by rw [hen_36, va_up_ne _ _ (by omega)]; exact hs j hj
    have e0_36 : en_36 0 = .inr (10, [.ref (ad 1), .ref (ad 12), .ref (ad 70), .ref (ad 74), .ref (ad 75), .ref (ad 76), .int 0, .int 0]) := by rw [hen_36]; exact va_up_self _ _ _
    refine lv_istore (lv' := [(4, .int (-1)), (0, .ref (ad 0)), (1, .int k), (2, .int i), (3, .int la)]) hx hb dX11_at_12 hl (by decide) rfl (fun ls hl => ?_)
    refine lv_iload hx hb dX11_at_14 (lv_at hl 0 rfl) ?_
    refine lv_iconst (v := 1) hx hb dX11_at_16 (by decide) ?_
    refine lv_icmp_ne (tgt := 35) hx hb dX11_at_17 (by decide) (fun _ => ?_) (fun c_0 => absurd c_0 (by decide))
    refine lv_ldc2 hx hb hown (hts _ tw_420) dX11_at_35 ?_
    exact hp_lretM hx hb hr hlocks hh (rfl) dX11_at_38
theorem kw_X11_at {R : Room} {s : State} {args : Array Value} {own : String} {idx : Nat} (hts : ∀ w ∈ TB, w.before args s = true) (hl : Cond.methodLink own idx yX11_at ∈ TB) (hR : 3 + 1 ≤ R.frames ∧ 8 + (5 + 11) + 40 * 3 ≤ R.locals) : CallW R s args own RX11 idx yX11_at cX11_at 5 (some .long) (Cond.code yX11_at cX11_at 5 (some .long) :: TB) (rmN 3) 0 0 3 := cwV 3 hts (TB_V hl tw_780 tw_781 tw_1 tw_782) rfl rfl rfl (by decide +kernel) hR
set_option maxHeartbeats 4000000 in
set_option maxRecDepth 100000 in
/-- putCell, new object -/
theorem c_X11_putCell (l : Launch) (D : va_G) (cy : Nat → ClassId) (sz : Nat) (cs : List Nat) (ad : Nat → Nat) (en : Nat → va_E) (hcs : ∀ c, c < 115 → c ∈ cs) (lf k i v : Int32) (e0 : en 0 = .inr (10, [.ref (ad 1), .ref (ad 12), .ref (ad 70), .ref (ad 74), .ref (ad 75), .ref (ad 76), .int 0, .int lf])) (e75 : en 75 = .inl (cy 6, 4, .inr (.inr (.inr (.inr (fun j => some (ad (107 + 2 * j)))))))) (hs : ∀ j, j < 4 → en (107 + 2 * j) = .inr (3, [.ref (ad (108 + 2 * j)), .int 0, .int 0, .int 0])) : Met l yX11_putCell (Cond.code yX11_putCell cX11_putCell 4 (some .int) :: TB) (rmN 2) (va_Pc [.ref (ad 0), .int k, .int i, .int v] (Pre D cy cs ad en sz)) (va_Qi (S := Unit) (fun r _ => r = if wi k 0 3 then (-11) else (-1)) (fun _ _ => True) (Nf sz)) 0 0 (Nf sz) := by
  refine Met.ofW (cc := cX11_putCell) (maxL := 4) (ret := (some .int)) (by decide) rfl ?_
  intro p e s m args below meth c s₁ B hml hv
  obtain ⟨rfl, hsz, hP, hK, hD0⟩ := hv
  have hx := B.exec
  have hb := B.bytes
  have hr := B.returns
  have hts : ∀ w ∈ TB, w.before _ s = true := fun w h => atoms_spec (ws := _ :: TB) B.pre w (List.mem_cons_of_mem _ h)
  have hown : s.vm.findClass RX11 = some m.cls := findClass_of_methodNamed B.named
  have hlocks := B.notSynchronized
  have hh : Hp D (Nf sz) (fun _ => True) s.heap s.heap [] cs ad en := ⟨hP, hD0, va_S.rf⟩
  have hA : ∀ q : Nat, s.heap.size ≤ q → Nf sz q := fun q h => by rw [hsz] at h; exact h
  have hl := lv_entry ([.ref (ad 0), .int k, .int i, .int v]) (n := 4) (Nat.le_of_ble_eq_true rfl)
  rw [lg_entry_eq]
  generalize (lg_sl ([.ref (ad 0), .int k, .int i, .int v]) ++ List.replicate (4 - (lg_sl ([.ref (ad 0), .int k, .int i, .int v])).length) Slot.unset).toArray = ls at hl ⊢
  have hl : lv_has ls 4 [(0, .ref (ad 0)), (1, .int k), (2, .int i), (3, .int v)] := hl
  refine lv_iload_n hx hb dX11_putCell_0 rfl (lv_at hl 1 rfl) ?_
  refine hp_callRi (va_runS (As := [.int k]) (rest := []) ⟨hx, hb, hml, hown, hts⟩ (c_X11_isSheet l D cy _ cs ad en k ) (kw_X11_isSheet hts tw_305 ⟨by decide, by decide⟩) (preS_of hh hK) rfl rfl hl.1 rfl (lv_room (Nat.le_of_ble_eq_true rfl)) dX11_putCell_1 ⟨Nat.le_of_ble_eq_true rfl, Nat.le_of_ble_eq_true rfl⟩) hh hA (fun r_37 H locs hw_37 hh => ?_)
  rcases Decidable.em (wi k 0 3) with hp_37 | hp_37
  · obtain rfl : r_37 = 1 := Eq.trans hw_37 (if_pos hp_37)
    refine lv_if_ne (tgt := 9) hx hb dX11_putCell_4 (by decide) (fun _ => ?_) (fun c_0 => absurd c_0 (by decide))
    refine lv_aload_n hx hb dX11_putCell_9 rfl (lv_at hl 0 rfl) ?_
    refine hp_get hx hb hts ix11 hown hK hh (q := 0) rfl (hcs _ (by decide)) e0 rfl 4 (by decide) (hts _ tw_249) (fun _ h9 => h9) rfl dX11_putCell_10 ?_
    refine lv_iload_n hx hb dX11_putCell_13 rfl (lv_at hl 1 rfl) ?_
    have hj_38 := wi_lt 4 hp_37 (by decide)
    have es38 : en (107 + 2 * k.toNatClampNeg) = .inr (3, [.ref (ad (108 + 2 * k.toNatClampNeg)), .int 0, .int 0, .int 0]) := hs _ hj_38
    refine hp_aald hx hb hK hh (q := 75) rfl (hcs _ (by decide)) 6 e75 rfl rfl (wi_in 4 hp_37 (by decide)) (v := .ref (ad (107 + 2 * k.toNatClampNeg))) (rfl) dX11_putCell_14 ?_
    refine hp_get hx hb hts ix3 hown hK hh (q := (107 + 2 * k.toNatClampNeg)) rfl (hcs _ (by omega)) es38 rfl 3 (by decide) (hts _ tw_235) (fun _ h9 => h9) rfl dX11_putCell_15 ?_
    refine lv_if_ne (tgt := 26) hx hb dX11_putCell_18 (by decide) (fun c_0 => absurd c_0 (by decide)) (fun _ => ?_)
    refine lv_iconst (v := 1) hx hb dX11_putCell_21 (by decide) ?_
    refine hp_callRi (va_runS (As := [.int 1]) (rest := []) ⟨hx, hb, hml, hown, hts⟩ (c_X11_faultAnswer l D cy _ cs ad en 1 ) (kw_X11_faultAnswer hts tw_311 ⟨by decide, by decide⟩) (preS_of hh hK) rfl rfl hl.1 rfl (lv_room (Nat.le_of_ble_eq_true rfl)) dX11_putCell_22 ⟨Nat.le_of_ble_eq_true rfl, Nat.le_of_ble_eq_true rfl⟩) hh hA (fun r_39 H locs hw_39 hh => ?_)
    obtain rfl : r_39 = (-11) := Eq.trans hw_39 (by decide)
    exact hp_iretR hx hb hr rfl hlocks hsz hh ((if_pos hp_37).symm) dX11_putCell_25
  · obtain rfl : r_37 = 0 := Eq.trans hw_37 (if_neg hp_37)
    refine lv_if_ne (tgt := 9) hx hb dX11_putCell_4 (by decide) (fun c_0 => absurd c_0 (by decide)) (fun _ => ?_)
    refine lv_iconst (v := (-1)) hx hb dX11_putCell_7 (by decide) ?_
    exact hp_iretR hx hb hr rfl hlocks hsz hh ((if_neg hp_37).symm) dX11_putCell_8
theorem kw_X11_putCell {R : Room} {s : State} {args : Array Value} {own : String} {idx : Nat} (hts : ∀ w ∈ TB, w.before args s = true) (hl : Cond.methodLink own idx yX11_putCell ∈ TB) (hR : 2 + 1 ≤ R.frames ∧ 8 + (4 + 11) + 40 * 2 ≤ R.locals) : CallW R s args own RX11 idx yX11_putCell cX11_putCell 4 (some .int) (Cond.code yX11_putCell cX11_putCell 4 (some .int) :: TB) (rmN 2) 0 0 3 := cwV 3 hts (TB_V hl tw_773 ts_29 tw_1 tw_774) rfl rfl rfl (by decide +kernel) hR
set_option maxHeartbeats 4000000 in
set_option maxRecDepth 100000 in
/-- put, new object -/
theorem c_X11_put (l : Launch) (D : va_G) (cy : Nat → ClassId) (sz : Nat) (cs : List Nat) (ad : Nat → Nat) (en : Nat → va_E) (hcs : ∀ c, c < 115 → c ∈ cs) (lf k i v : Int32) (e0 : en 0 = .inr (10, [.ref (ad 1), .ref (ad 12), .ref (ad 70), .ref (ad 74), .ref (ad 75), .ref (ad 76), .int 0, .int lf])) (e75 : en 75 = .inl (cy 6, 4, .inr (.inr (.inr (.inr (fun j => some (ad (107 + 2 * j)))))))) (hs : ∀ j, j < 4 → en (107 + 2 * j) = .inr (3, [.ref (ad (108 + 2 * j)), .int 0, .int 0, .int 0])) : Met l yX11_put (Cond.code yX11_put cX11_put 4 (some .int) :: TB) (rmN 3) (va_Pc [.ref (ad 0), .int k, .int i, .int v] (Pre D cy cs ad en sz)) (va_Qi (S := Nat → va_E) (fun r _ => r = if wi k 0 3 then (-11) else (-1)) (PostM D cs ad) (Af cs ad sz)) 0 0 (Af cs ad sz) := by
  refine Met.ofW (cc := cX11_put) (maxL := 4) (ret := (some .int)) (by decide) rfl ?_
  intro p e s m args below meth c s₁ B hml hv
  obtain ⟨rfl, hsz, hP, hK, hD0⟩ := hv
  have hx := B.exec
  have hb := B.bytes
  have hr := B.returns
  have hts : ∀ w ∈ TB, w.before _ s = true := fun w h => atoms_spec (ws := _ :: TB) B.pre w (List.mem_cons_of_mem _ h)
  have hown : s.vm.findClass RX11 = some m.cls := findClass_of_methodNamed B.named
  have hlocks := B.notSynchronized
  have hh : Hp D (Af cs ad sz) (Af cs ad sz) s.heap s.heap [] cs ad en := ⟨hP, Af_self hD0, va_S.rf⟩
  have hA : ∀ q : Nat, s.heap.size ≤ q → Af cs ad sz q := fun q h => Or.inr (by rw [hsz] at h; exact h)
  have hl := lv_entry ([.ref (ad 0), .int k, .int i, .int v]) (n := 4) (Nat.le_of_ble_eq_true rfl)
  rw [lg_entry_eq]
  generalize (lg_sl ([.ref (ad 0), .int k, .int i, .int v]) ++ List.replicate (4 - (lg_sl ([.ref (ad 0), .int k, .int i, .int v])).length) Slot.unset).toArray = ls at hl ⊢
  have hl : lv_has ls 4 [(0, .ref (ad 0)), (1, .int k), (2, .int i), (3, .int v)] := hl
  refine lv_aload_n hx hb dX11_put_0 rfl (lv_at hl 0 rfl) ?_
  refine lv_aload_n hx hb dX11_put_1 rfl (lv_at hl 0 rfl) ?_
  refine lv_iload_n hx hb dX11_put_2 rfl (lv_at hl 1 rfl) ?_
  refine lv_iload_n hx hb dX11_put_3 rfl (lv_at hl 2 rfl) ?_
  refine lv_iload_n hx hb dX11_put_4 rfl (lv_at hl 3 rfl) ?_
  refine hp_callRi (va_runV (As := [.int k, .int i, .int v]) (rest := [.ref (ad 0)]) ⟨hx, hb, hml, hown, hts⟩ (c_X11_putCell l D cy _ cs ad en hcs lf k i v e0 e75 hs) (kw_X11_putCell hts tw_771 ⟨by decide, by decide⟩) (preV_of hh hK (hcs _ (by decide)) e0 rfl) rfl rfl hl.1 rfl (lv_room (Nat.le_of_ble_eq_true rfl)) dX11_put_5 ⟨Nat.le_of_ble_eq_true rfl, Nat.le_of_ble_eq_true rfl⟩) hh hA (fun r_40 H locs hw_40 hh => ?_)
  rcases Decidable.em (wi k 0 3) with hp_40 | hp_40
  · obtain rfl : r_40 = (-11) := Eq.trans hw_40 (if_pos hp_40)
    refine hp_callMi (va_runV (As := [.int (-11)]) (rest := []) ⟨hx, hb, hml, hown, hts⟩ (c_X11_settle l D cy _ cs ad en hcs 0 lf (-11) e0 ) (kw_X11_settle hts tw_404 ⟨by decide, by decide⟩) (preV_of hh hK (hcs _ (by decide)) e0 rfl) rfl rfl hl.1 rfl (lv_room (Nat.le_of_ble_eq_true rfl)) dX11_put_8 ⟨Nat.le_of_ble_eq_true rfl, Nat.le_of_ble_eq_true rfl⟩) hh hA (fun r_41 H locs en_41 hw_41 hh => ?_)
    obtain ⟨rfl, hen_41⟩ := hw_41
    rw [if_pos (by decide)] at hen_41
    rw [show (-10 : Int32) - (-11) = 1 by decide] at hen_41
    have e75_41 : en_41 75 = .inl (cy 6, 4, .inr (.inr (.inr (.inr (fun j => some (ad (107 + 2 * j))))))) := by rw [hen_41, va_up_ne _ _ (by decide)]; exact e75
    have hs_41 : ∀ j, j < 4 → en_41 (107 + 2 * j) = .inr (3, [.ref (ad (108 + 2 * j)), .int 0, .int 0, .int 0]) := fun j hj => by rw [hen_41, va_up_ne _ _ (by omega)]; exact hs j hj
    have e0_41 : en_41 0 = .inr (10, [.ref (ad 1), .ref (ad 12), .ref (ad 70), .ref (ad 74), .ref (ad 75), .ref (ad 76), .int 0, .int 1]) := by rw [hen_41]; exact va_up_self _ _ _
    exact hp_iretM hx hb hr rfl hlocks hh ((if_pos hp_40).symm) dX11_put_11
  · obtain rfl : r_40 = (-1) := Eq.trans hw_40 (if_neg hp_40)
    refine hp_callMi (va_runV (As := [.int (-1)]) (rest := []) ⟨hx, hb, hml, hown, hts⟩ (c_X11_settle l D cy _ cs ad en hcs 0 lf (-1) e0 ) (kw_X11_settle hts tw_404 ⟨by decide, by decide⟩) (preV_of hh hK (hcs _ (by decide)) e0 rfl) rfl rfl hl.1 rfl (lv_room (Nat.le_of_ble_eq_true rfl)) dX11_put_8 ⟨Nat.le_of_ble_eq_true rfl, Nat.le_of_ble_eq_true rfl⟩) hh hA (fun r_42 H locs en_42 hw_42 hh => ?_)
    obtain ⟨rfl, hen_42⟩ := hw_42
    rw [if_neg (by decide)] at hen_42
    have e75_42 : en_42 75 = .inl (cy 6, 4, .inr (.inr (.inr (.inr (fun j => some (ad (107 + 2 * j))))))) := by rw [hen_42, va_up_ne _ _ (by decide)]; exact e75
    have hs_42 : ∀ j, j < 4 → en_42 (107 + 2 * j) = .inr (3, [.ref (ad (108 + 2 * j)), .int 0, .int 0, .int 0]) := fun j hj => by rw [hen_42, va_up_ne _ _ (by omega)]; exact hs j hj
    have e0_42 : en_42 0 = .inr (10, [.ref (ad 1), .ref (ad 12), .ref (ad 70), .ref (ad 74), .ref (ad 75), .ref (ad 76), .int 0, .int 0]) := by rw [hen_42]; exact va_up_self _ _ _
    exact hp_iretM hx hb hr rfl hlocks hh ((if_neg hp_40).symm) dX11_put_11
theorem kw_X11_put {R : Room} {s : State} {args : Array Value} {own : String} {idx : Nat} (hts : ∀ w ∈ TB, w.before args s = true) (hl : Cond.methodLink own idx yX11_put ∈ TB) (hR : 3 + 1 ≤ R.frames ∧ 8 + (4 + 11) + 40 * 3 ≤ R.locals) : CallW R s args own RX11 idx yX11_put cX11_put 4 (some .int) (Cond.code yX11_put cX11_put 4 (some .int) :: TB) (rmN 3) 0 0 3 := cwV 3 hts (TB_V hl tw_768 tw_769 tw_1 tw_770) rfl rfl rfl (by decide +kernel) hR
set_option maxHeartbeats 4000000 in
set_option maxRecDepth 100000 in
/-- entry, new object -/
theorem c_X11_entry (l : Launch) (D : va_G) (cy : Nat → ClassId) (sz : Nat) (cs : List Nat) (ad : Nat → Nat) (en : Nat → va_E) (hcs : ∀ c, c < 115 → c ∈ cs) (lf t r0 c0 : Int32) (e0 : en 0 = .inr (10, [.ref (ad 1), .ref (ad 12), .ref (ad 70), .ref (ad 74), .ref (ad 75), .ref (ad 76), .int 0, .int lf])) (e1 : en 1 = .inr (7, [.ref (ad 2), .ref (ad 3), .ref (ad 10), .ref (ad 11), .int 0, .int 2, .int 0]))  : Met l yX11_entry (Cond.code yX11_entry cX11_entry 4 (some .long) :: TB) (rmN 1) (va_Pc [.ref (ad 0), .int t, .int r0, .int c0] (Pre D cy cs ad en sz)) (va_Ql (S := Unit) (fun r _ => r = (-9223372036854775808)) (fun _ _ => True) (Nf sz)) 0 0 (Nf sz) := by
  refine Met.ofW (cc := cX11_entry) (maxL := 4) (ret := (some .long)) (by decide) rfl ?_
  intro p e s m args below meth c s₁ B hml hv
  obtain ⟨rfl, hsz, hP, hK, hD0⟩ := hv
  have hx := B.exec
  have hb := B.bytes
  have hr := B.returns
  have hts : ∀ w ∈ TB, w.before _ s = true := fun w h => atoms_spec (ws := _ :: TB) B.pre w (List.mem_cons_of_mem _ h)
  have hown : s.vm.findClass RX11 = some m.cls := findClass_of_methodNamed B.named
  have hlocks := B.notSynchronized
  have hh : Hp D (Nf sz) (fun _ => True) s.heap s.heap [] cs ad en := ⟨hP, hD0, va_S.rf⟩
  have hA : ∀ q : Nat, s.heap.size ≤ q → Nf sz q := fun q h => by rw [hsz] at h; exact h
  have hl := lv_entry ([.ref (ad 0), .int t, .int r0, .int c0]) (n := 4) (Nat.le_of_ble_eq_true rfl)
  rw [lg_entry_eq]
  generalize (lg_sl ([.ref (ad 0), .int t, .int r0, .int c0]) ++ List.replicate (4 - (lg_sl ([.ref (ad 0), .int t, .int r0, .int c0])).length) Slot.unset).toArray = ls at hl ⊢
  have hl : lv_has ls 4 [(0, .ref (ad 0)), (1, .int t), (2, .int r0), (3, .int c0)] := hl
  refine lv_aload_n hx hb dX11_entry_0 rfl (lv_at hl 0 rfl) ?_
  refine hp_get hx hb hts ix11 hown hK hh (q := 0) rfl (hcs _ (by decide)) e0 rfl 0 (by decide) (hts _ tw_245) (fun _ h9 => h9) rfl dX11_entry_1 ?_
  refine lv_iload_n hx hb dX11_entry_4 rfl (lv_at hl 1 rfl) ?_
  refine hp_callRi (va_runV (As := [.int t]) (rest := []) ⟨hx, hb, hml, hown, hts⟩ (c_X8_has l D cy _ cs ad en hcs 0 2 0 t e1) (kw_X8_has hts tw_412 ⟨by decide, by decide⟩) (preV_of hh hK (hcs _ (by decide)) e1 rfl) rfl rfl hl.1 rfl (lv_room (Nat.le_of_ble_eq_true rfl)) dX11_entry_5 ⟨Nat.le_of_ble_eq_true rfl, Nat.le_of_ble_eq_true rfl⟩) hh hA (fun r_43 H locs hw_43 hh => ?_)
  obtain rfl : r_43 = 0 := Eq.trans hw_43 (if_neg (no_has (by decide)))
  refine lv_if_eq (tgt := 23) hx hb dX11_entry_8 (by decide) (fun _ => ?_) (fun c_0 => absurd c_0 (by decide))
  refine lv_ldc2 hx hb hown (hts _ tw_420) dX11_entry_23 ?_
  exact hp_lretR hx hb hr hlocks hsz hh (rfl) dX11_entry_26
theorem kw_X11_entry {R : Room} {s : State} {args : Array Value} {own : String} {idx : Nat} (hts : ∀ w ∈ TB, w.before args s = true) (hl : Cond.methodLink own idx yX11_entry ∈ TB) (hR : 1 + 1 ≤ R.frames ∧ 8 + (4 + 11) + 40 * 1 ≤ R.locals) : CallW R s args own RX11 idx yX11_entry cX11_entry 4 (some .long) (Cond.code yX11_entry cX11_entry 4 (some .long) :: TB) (rmN 1) 0 0 3 := cwV 3 hts (TB_V hl tw_409 tw_410 tw_1 tw_411) rfl rfl rfl (by decide +kernel) hR
set_option maxHeartbeats 4000000 in
set_option maxRecDepth 100000 in
/-- may, new object -/
theorem c_X11_may (l : Launch) (D : va_G) (cy : Nat → ClassId) (sz : Nat) (cs : List Nat) (ad : Nat → Nat) (en : Nat → va_E) (hcs : ∀ c, c < 115 → c ∈ cs) (lf a b z : Int32) (e0 : en 0 = .inr (10, [.ref (ad 1), .ref (ad 12), .ref (ad 70), .ref (ad 74), .ref (ad 75), .ref (ad 76), .int 0, .int lf])) (e1 : en 1 = .inr (7, [.ref (ad 2), .ref (ad 3), .ref (ad 10), .ref (ad 11), .int 0, .int 2, .int 0]))  : Met l yX11_may (Cond.code yX11_may cX11_may 4 (some .int) :: TB) (rmN 1) (va_Pc [.ref (ad 0), .int a, .int b, .int z] (Pre D cy cs ad en sz)) (va_Qi (S := Unit) (fun r _ => r = (-1)) (fun _ _ => True) (Nf sz)) 0 0 (Nf sz) := by
  refine Met.ofW (cc := cX11_may) (maxL := 4) (ret := (some .int)) (by decide) rfl ?_
  intro p e s m args below meth c s₁ B hml hv
  obtain ⟨rfl, hsz, hP, hK, hD0⟩ := hv
  have hx := B.exec
  have hb := B.bytes
  have hr := B.returns
  have hts : ∀ w ∈ TB, w.before _ s = true := fun w h => atoms_spec (ws := _ :: TB) B.pre w (List.mem_cons_of_mem _ h)
  have hown : s.vm.findClass RX11 = some m.cls := findClass_of_methodNamed B.named
  have hlocks := B.notSynchronized
  have hh : Hp D (Nf sz) (fun _ => True) s.heap s.heap [] cs ad en := ⟨hP, hD0, va_S.rf⟩
  have hA : ∀ q : Nat, s.heap.size ≤ q → Nf sz q := fun q h => by rw [hsz] at h; exact h
  have hl := lv_entry ([.ref (ad 0), .int a, .int b, .int z]) (n := 4) (Nat.le_of_ble_eq_true rfl)
  rw [lg_entry_eq]
  generalize (lg_sl ([.ref (ad 0), .int a, .int b, .int z]) ++ List.replicate (4 - (lg_sl ([.ref (ad 0), .int a, .int b, .int z])).length) Slot.unset).toArray = ls at hl ⊢
  have hl : lv_has ls 4 [(0, .ref (ad 0)), (1, .int a), (2, .int b), (3, .int z)] := hl
  refine lv_aload_n hx hb dX11_may_0 rfl (lv_at hl 0 rfl) ?_
  refine hp_get hx hb hts ix11 hown hK hh (q := 0) rfl (hcs _ (by decide)) e0 rfl 0 (by decide) (hts _ tw_245) (fun _ h9 => h9) rfl dX11_may_1 ?_
  refine lv_iload_n hx hb dX11_may_4 rfl (lv_at hl 1 rfl) ?_
  refine hp_callRi (va_runV (As := [.int a]) (rest := []) ⟨hx, hb, hml, hown, hts⟩ (c_X8_has l D cy _ cs ad en hcs 0 2 0 a e1) (kw_X8_has hts tw_412 ⟨by decide, by decide⟩) (preV_of hh hK (hcs _ (by decide)) e1 rfl) rfl rfl hl.1 rfl (lv_room (Nat.le_of_ble_eq_true rfl)) dX11_may_5 ⟨Nat.le_of_ble_eq_true rfl, Nat.le_of_ble_eq_true rfl⟩) hh hA (fun r_44 H locs hw_44 hh => ?_)
  obtain rfl : r_44 = 0 := Eq.trans hw_44 (if_neg (no_has (by decide)))
  refine lv_if_eq (tgt := 22) hx hb dX11_may_8 (by decide) (fun _ => ?_) (fun c_0 => absurd c_0 (by decide))
  refine lv_iconst (v := (-1)) hx hb dX11_may_22 (by decide) ?_
  exact hp_iretR hx hb hr rfl hlocks hsz hh (rfl) dX11_may_23
theorem kw_X11_may {R : Room} {s : State} {args : Array Value} {own : String} {idx : Nat} (hts : ∀ w ∈ TB, w.before args s = true) (hl : Cond.methodLink own idx yX11_may ∈ TB) (hR : 1 + 1 ≤ R.frames ∧ 8 + (4 + 11) + 40 * 1 ≤ R.locals) : CallW R s args own RX11 idx yX11_may cX11_may 4 (some .int) (Cond.code yX11_may cX11_may 4 (some .int) :: TB) (rmN 1) 0 0 3 := cwV 3 hts (TB_V hl tw_430 tw_431 tw_1 tw_432) rfl rfl rfl (by decide +kernel) hR
set_option maxHeartbeats 4000000 in
set_option maxRecDepth 100000 in
/-- close, new object -/
theorem c_X11_close (l : Launch) (D : va_G) (cy : Nat → ClassId) (sz : Nat) (cs : List Nat) (ad : Nat → Nat) (en : Nat → va_E) (hcs : ∀ c, c < 115 → c ∈ cs) (lf : Int32) (e0 : en 0 = .inr (10, [.ref (ad 1), .ref (ad 12), .ref (ad 70), .ref (ad 74), .ref (ad 75), .ref (ad 76), .int 0, .int lf])) (e1 : en 1 = .inr (7, [.ref (ad 2), .ref (ad 3), .ref (ad 10), .ref (ad 11), .int 0, .int 2, .int 0]))  : Met l yX11_close (Cond.code yX11_close cX11_close 1 (some .int) :: TB) (rmN 1) (va_Pc [.ref (ad 0)] (Pre D cy cs ad en sz)) (va_Qi (S := Unit) (fun r _ => r = (-3)) (fun _ _ => True) (Nf sz)) 0 0 (Nf sz) := by
  refine Met.ofW (cc := cX11_close) (maxL := 1) (ret := (some .int)) (by decide) rfl ?_
  intro p e s m args below meth c s₁ B hml hv
  obtain ⟨rfl, hsz, hP, hK, hD0⟩ := hv
  have hx := B.exec
  have hb := B.bytes
  have hr := B.returns
  have hts : ∀ w ∈ TB, w.before _ s = true := fun w h => atoms_spec (ws := _ :: TB) B.pre w (List.mem_cons_of_mem _ h)
  have hown : s.vm.findClass RX11 = some m.cls := findClass_of_methodNamed B.named
  have hlocks := B.notSynchronized
  have hh : Hp D (Nf sz) (fun _ => True) s.heap s.heap [] cs ad en := ⟨hP, hD0, va_S.rf⟩
  have hA : ∀ q : Nat, s.heap.size ≤ q → Nf sz q := fun q h => by rw [hsz] at h; exact h
  have hl := lv_entry ([.ref (ad 0)]) (n := 1) (Nat.le_of_ble_eq_true rfl)
  rw [lg_entry_eq]
  generalize (lg_sl ([.ref (ad 0)]) ++ List.replicate (1 - (lg_sl ([.ref (ad 0)])).length) Slot.unset).toArray = ls at hl ⊢
  have hl : lv_has ls 1 [(0, .ref (ad 0))] := hl
  refine lv_aload_n hx hb dX11_close_0 rfl (lv_at hl 0 rfl) ?_
  refine hp_get hx hb hts ix11 hown hK hh (q := 0) rfl (hcs _ (by decide)) e0 rfl 0 (by decide) (hts _ tw_245) (fun _ h9 => h9) rfl dX11_close_1 ?_
  refine hp_callRi (va_runV (As := []) (rest := []) ⟨hx, hb, hml, hown, hts⟩ (c_X8_count l D cy _ cs ad en hcs 0 2 0 e1) (kw_X8_count hts tw_318 ⟨by decide, by decide⟩) (preV_of hh hK (hcs _ (by decide)) e1 rfl) rfl rfl hl.1 rfl (lv_room (Nat.le_of_ble_eq_true rfl)) dX11_close_4 ⟨Nat.le_of_ble_eq_true rfl, Nat.le_of_ble_eq_true rfl⟩) hh hA (fun r_45 H locs hw_45 hh => ?_)
  obtain rfl : r_45 = 0 := hw_45
  refine lv_if_ne (tgt := 15) hx hb dX11_close_7 (by decide) (fun c_0 => absurd c_0 (by decide)) (fun _ => ?_)
  refine lv_bipush (v := (-3)) hx hb dX11_close_10 (by decide) ?_
  refine lv_goto (tgt := 22) hx hb dX11_close_12 (by decide) ?_
  exact hp_iretR hx hb hr rfl hlocks hsz hh (rfl) dX11_close_22
theorem kw_X11_close {R : Room} {s : State} {args : Array Value} {own : String} {idx : Nat} (hts : ∀ w ∈ TB, w.before args s = true) (hl : Cond.methodLink own idx yX11_close ∈ TB) (hR : 1 + 1 ≤ R.frames ∧ 8 + (1 + 11) + 40 * 1 ≤ R.locals) : CallW R s args own RX11 idx yX11_close cX11_close 1 (some .int) (Cond.code yX11_close cX11_close 1 (some .int) :: TB) (rmN 1) 0 0 0 := cwV 0 hts (TB_V hl tw_575 tw_576 tw_1 tw_577) rfl rfl rfl (by decide +kernel) hR
set_option maxHeartbeats 4000000 in
set_option maxRecDepth 100000 in
/-- growth, new object -/
theorem c_X11_growth (l : Launch) (D : va_G) (cy : Nat → ClassId) (sz : Nat) (cs : List Nat) (ad : Nat → Nat) (en : Nat → va_E) (hcs : ∀ c, c < 115 → c ∈ cs) (lf a b n : Int32) (e0 : en 0 = .inr (10, [.ref (ad 1), .ref (ad 12), .ref (ad 70), .ref (ad 74), .ref (ad 75), .ref (ad 76), .int 0, .int lf])) (e1 : en 1 = .inr (7, [.ref (ad 2), .ref (ad 3), .ref (ad 10), .ref (ad 11), .int 0, .int 2, .int 0]))  : Met l yX11_growth (Cond.code yX11_growth cX11_growth 5 (some .int) :: TB) (rmN 1) (va_Pc [.ref (ad 0), .int a, .int b, .int n] (Pre D cy cs ad en sz)) (va_Qi (S := Unit) (fun r _ => r = if wi a 1 9 ∧ wi b 1 9 ∧ wi n 1 7 then (-3) else (-2)) (fun _ _ => True) (Nf sz)) 0 0 (Nf sz) := by
  refine Met.ofW (cc := cX11_growth) (maxL := 5) (ret := (some .int)) (by decide) rfl ?_
  intro p e s m args below meth c s₁ B hml hv
  obtain ⟨rfl, hsz, hP, hK, hD0⟩ := hv
  have hx := B.exec
  have hb := B.bytes
  have hr := B.returns
  have hts : ∀ w ∈ TB, w.before _ s = true := fun w h => atoms_spec (ws := _ :: TB) B.pre w (List.mem_cons_of_mem _ h)
  have hown : s.vm.findClass RX11 = some m.cls := findClass_of_methodNamed B.named
  have hlocks := B.notSynchronized
  have hh : Hp D (Nf sz) (fun _ => True) s.heap s.heap [] cs ad en := ⟨hP, hD0, va_S.rf⟩
  have hA : ∀ q : Nat, s.heap.size ≤ q → Nf sz q := fun q h => by rw [hsz] at h; exact h
  have hl := lv_entry ([.ref (ad 0), .int a, .int b, .int n]) (n := 5) (Nat.le_of_ble_eq_true rfl)
  rw [lg_entry_eq]
  generalize (lg_sl ([.ref (ad 0), .int a, .int b, .int n]) ++ List.replicate (5 - (lg_sl ([.ref (ad 0), .int a, .int b, .int n])).length) Slot.unset).toArray = ls at hl ⊢
  have hl : lv_has ls 5 [(0, .ref (ad 0)), (1, .int a), (2, .int b), (3, .int n)] := hl
  refine lv_iload_n hx hb dX11_growth_0 rfl (lv_at hl 1 rfl) ?_
  refine lv_iconst (v := 1) hx hb dX11_growth_1 (by decide) ?_
  refine lv_bipush (v := 9) hx hb dX11_growth_2 (by decide) ?_
  refine hp_callRi (va_runS (As := [.int a, .int 1, .int 9]) (rest := []) ⟨hx, hb, hml, hown, hts⟩ (c_X11_isWithin l D cy _ cs ad en a 1 9 ) (kw_X11_isWithin hts tw_274 ⟨by decide, by decide⟩) (preS_of hh hK) rfl rfl hl.1 rfl (lv_room (Nat.le_of_ble_eq_true rfl)) dX11_growth_4 ⟨Nat.le_of_ble_eq_true rfl, Nat.le_of_ble_eq_true rfl⟩) hh hA (fun r_46 H locs hw_46 hh => ?_)
  rcases Decidable.em (wi a 1 9) with hp_46 | hp_46
  · obtain rfl : r_46 = 1 := Eq.trans hw_46 (if_pos hp_46)
    refine lv_if_eq (tgt := 30) hx hb dX11_growth_7 (by decide) (fun c_0 => absurd c_0 (by decide)) (fun _ => ?_)
    refine lv_iload_n hx hb dX11_growth_10 rfl (lv_at hl 2 rfl) ?_
    refine lv_iconst (v := 1) hx hb dX11_growth_11 (by decide) ?_
    refine lv_bipush (v := 9) hx hb dX11_growth_12 (by decide) ?_
    refine hp_callRi (va_runS (As := [.int b, .int 1, .int 9]) (rest := []) ⟨hx, hb, hml, hown, hts⟩ (c_X11_isWithin l D cy _ cs ad en b 1 9 ) (kw_X11_isWithin hts tw_274 ⟨by decide, by decide⟩) (preS_of hh hK) rfl rfl hl.1 rfl (lv_room (Nat.le_of_ble_eq_true rfl)) dX11_growth_14 ⟨Nat.le_of_ble_eq_true rfl, Nat.le_of_ble_eq_true rfl⟩) hh hA (fun r_47 H locs hw_47 hh => ?_)
    rcases Decidable.em (wi b 1 9) with hp_47 | hp_47
    · obtain rfl : r_47 = 1 := Eq.trans hw_47 (if_pos hp_47)
      refine lv_if_eq (tgt := 30) hx hb dX11_growth_17 (by decide) (fun c_0 => absurd c_0 (by decide)) (fun _ => ?_)
      refine lv_iload_n hx hb dX11_growth_20 rfl (lv_at hl 3 rfl) ?_
      refine lv_iconst (v := 1) hx hb dX11_growth_21 (by decide) ?_
      refine lv_bipush (v := 7) hx hb dX11_growth_22 (by decide) ?_
      refine hp_callRi (va_runS (As := [.int n, .int 1, .int 7]) (rest := []) ⟨hx, hb, hml, hown, hts⟩ (c_X11_isWithin l D cy _ cs ad en n 1 7 ) (kw_X11_isWithin hts tw_274 ⟨by decide, by decide⟩) (preS_of hh hK) rfl rfl hl.1 rfl (lv_room (Nat.le_of_ble_eq_true rfl)) dX11_growth_24 ⟨Nat.le_of_ble_eq_true rfl, Nat.le_of_ble_eq_true rfl⟩) hh hA (fun r_48 H locs hw_48 hh => ?_)
      rcases Decidable.em (wi n 1 7) with hp_48 | hp_48
      · obtain rfl : r_48 = 1 := Eq.trans hw_48 (if_pos hp_48)
        refine lv_if_ne (tgt := 33) hx hb dX11_growth_27 (by decide) (fun _ => ?_) (fun c_0 => absurd c_0 (by decide))
        refine lv_aload_n hx hb dX11_growth_33 rfl (lv_at hl 0 rfl) ?_
        refine hp_get hx hb hts ix11 hown hK hh (q := 0) rfl (hcs _ (by decide)) e0 rfl 0 (by decide) (hts _ tw_245) (fun _ h9 => h9) rfl dX11_growth_34 ?_
        refine hp_callRi (va_runV (As := []) (rest := []) ⟨hx, hb, hml, hown, hts⟩ (c_X8_modulus l D cy _ cs ad en hcs 0 2 0 e1) (kw_X8_modulus hts tw_561 ⟨by decide, by decide⟩) (preV_of hh hK (hcs _ (by decide)) e1 rfl) rfl rfl hl.1 rfl (lv_room (Nat.le_of_ble_eq_true rfl)) dX11_growth_37 ⟨Nat.le_of_ble_eq_true rfl, Nat.le_of_ble_eq_true rfl⟩) hh hA (fun r_49 H locs hw_49 hh => ?_)
        obtain rfl : r_49 = 0 := hw_49
        refine lv_if_gt (tgt := 53) hx hb dX11_growth_40 (by decide) (fun c_0 => absurd c_0 (by decide)) (fun _ => ?_)
        refine lv_aload_n hx hb dX11_growth_43 rfl (lv_at hl 0 rfl) ?_
        refine hp_get hx hb hts ix11 hown hK hh (q := 0) rfl (hcs _ (by decide)) e0 rfl 0 (by decide) (hts _ tw_245) (fun _ h9 => h9) rfl dX11_growth_44 ?_
        refine hp_callRi (va_runV (As := []) (rest := []) ⟨hx, hb, hml, hown, hts⟩ (c_X8_count l D cy _ cs ad en hcs 0 2 0 e1) (kw_X8_count hts tw_318 ⟨by decide, by decide⟩) (preV_of hh hK (hcs _ (by decide)) e1 rfl) rfl rfl hl.1 rfl (lv_room (Nat.le_of_ble_eq_true rfl)) dX11_growth_47 ⟨Nat.le_of_ble_eq_true rfl, Nat.le_of_ble_eq_true rfl⟩) hh hA (fun r_50 H locs hw_50 hh => ?_)
        obtain rfl : r_50 = 0 := hw_50
        refine lv_if_ne (tgt := 56) hx hb dX11_growth_50 (by decide) (fun c_0 => absurd c_0 (by decide)) (fun _ => ?_)
        refine lv_bipush (v := (-3)) hx hb dX11_growth_53 (by decide) ?_
        exact hp_iretR hx hb hr rfl hlocks hsz hh ((if_pos ⟨hp_46, hp_47, hp_48⟩).symm) dX11_growth_55
      · obtain rfl : r_48 = 0 := Eq.trans hw_48 (if_neg hp_48)
        refine lv_if_ne (tgt := 33) hx hb dX11_growth_27 (by decide) (fun c_0 => absurd c_0 (by decide)) (fun _ => ?_)
        refine lv_bipush (v := (-2)) hx hb dX11_growth_30 (by decide) ?_
        exact hp_iretR hx hb hr rfl hlocks hsz hh ((if_neg (fun h => hp_48 h.2.2)).symm) dX11_growth_32
    · obtain rfl : r_47 = 0 := Eq.trans hw_47 (if_neg hp_47)
      refine lv_if_eq (tgt := 30) hx hb dX11_growth_17 (by decide) (fun _ => ?_) (fun c_0 => absurd c_0 (by decide))
      refine lv_bipush (v := (-2)) hx hb dX11_growth_30 (by decide) ?_
      exact hp_iretR hx hb hr rfl hlocks hsz hh ((if_neg (fun h => hp_47 h.2.1)).symm) dX11_growth_32
  · obtain rfl : r_46 = 0 := Eq.trans hw_46 (if_neg hp_46)
    refine lv_if_eq (tgt := 30) hx hb dX11_growth_7 (by decide) (fun _ => ?_) (fun c_0 => absurd c_0 (by decide))
    refine lv_bipush (v := (-2)) hx hb dX11_growth_30 (by decide) ?_
    exact hp_iretR hx hb hr rfl hlocks hsz hh ((if_neg (fun h => hp_46 h.1)).symm) dX11_growth_32
theorem kw_X11_growth {R : Room} {s : State} {args : Array Value} {own : String} {idx : Nat} (hts : ∀ w ∈ TB, w.before args s = true) (hl : Cond.methodLink own idx yX11_growth ∈ TB) (hR : 1 + 1 ≤ R.frames ∧ 8 + (5 + 11) + 40 * 1 ≤ R.locals) : CallW R s args own RX11 idx yX11_growth cX11_growth 5 (some .int) (Cond.code yX11_growth cX11_growth 5 (some .int) :: TB) (rmN 1) 0 0 3 := cwV 3 hts (TB_V hl tw_558 tw_559 tw_1 tw_560) rfl rfl rfl (by decide +kernel) hR
set_option maxHeartbeats 4000000 in
set_option maxRecDepth 100000 in
/-- isFound, new object -/
theorem c_X0_isFound (l : Launch) (D : va_G) (cy : Nat → ClassId) (sz : Nat) (cs : List Nat) (ad : Nat → Nat) (en : Nat → va_E) (hcs : ∀ c, c < 115 → c ∈ cs) (e70 : en 70 = .inr (0, [.ref (ad 1), .ref (ad 71), .ref (ad 72), .ref (ad 73), .null, .null, .null, .int 0, .int 0, .int 0, .int 0, .int 0, .int 0]))  : Met l yX0_isFound (Cond.code yX0_isFound cX0_isFound 1 (some .boolean) :: TB) (rmN 0) (va_Pc [.ref (ad 70)] (Pre D cy cs ad en sz)) (va_Qi (S := Unit) (fun r _ => r = 0) (fun _ _ => True) (Nf sz)) 0 0 (Nf sz) := by
  refine Met.ofW (cc := cX0_isFound) (maxL := 1) (ret := (some .boolean)) (by decide) rfl ?_
  intro p e s m args below meth c s₁ B hml hv
  obtain ⟨rfl, hsz, hP, hK, hD0⟩ := hv
  have hx := B.exec
  have hb := B.bytes
  have hr := B.returns
  have hts : ∀ w ∈ TB, w.before _ s = true := fun w h => atoms_spec (ws := _ :: TB) B.pre w (List.mem_cons_of_mem _ h)
  have hown : s.vm.findClass RX0 = some m.cls := findClass_of_methodNamed B.named
  have hlocks := B.notSynchronized
  have hh : Hp D (Nf sz) (fun _ => True) s.heap s.heap [] cs ad en := ⟨hP, hD0, va_S.rf⟩
  have hA : ∀ q : Nat, s.heap.size ≤ q → Nf sz q := fun q h => by rw [hsz] at h; exact h
  have hl := lv_entry ([.ref (ad 70)]) (n := 1) (Nat.le_of_ble_eq_true rfl)
  rw [lg_entry_eq]
  generalize (lg_sl ([.ref (ad 70)]) ++ List.replicate (1 - (lg_sl ([.ref (ad 70)])).length) Slot.unset).toArray = ls at hl ⊢
  have hl : lv_has ls 1 [(0, .ref (ad 70))] := hl
  refine lv_aload_n hx hb dX0_isFound_0 rfl (lv_at hl 0 rfl) ?_
  refine hp_get hx hb hts ix0 hown hK hh (q := 70) rfl (hcs _ (by decide)) e70 rfl 7 (by decide) (hts _ tw_154) (fun _ h9 => h9) rfl dX0_isFound_1 ?_
  refine lv_iconst (v := 1) hx hb dX0_isFound_4 (by decide) ?_
  refine lv_icmp_ne (tgt := 12) hx hb dX0_isFound_5 (by decide) (fun _ => ?_) (fun c_0 => absurd c_0 (by decide))
  refine lv_iconst (v := 0) hx hb dX0_isFound_12 (by decide) ?_
  exact hp_iretR hx hb hr rfl hlocks hsz hh (rfl) dX0_isFound_13
theorem kw_X0_isFound {R : Room} {s : State} {args : Array Value} {own : String} {idx : Nat} (hts : ∀ w ∈ TB, w.before args s = true) (hl : Cond.methodLink own idx yX0_isFound ∈ TB) (hR : 0 + 1 ≤ R.frames ∧ 8 + (1 + 11) + 40 * 0 ≤ R.locals) : CallW R s args own RX0 idx yX0_isFound cX0_isFound 1 (some .boolean) (Cond.code yX0_isFound cX0_isFound 1 (some .boolean) :: TB) (rmN 0) 0 0 0 := cwV 0 hts (TB_V hl tw_645 tw_646 tw_5 tw_647) rfl rfl rfl (by decide +kernel) hR
set_option maxHeartbeats 4000000 in
set_option maxRecDepth 100000 in
/-- Closure.has, new object -/
theorem c_X0_has (l : Launch) (D : va_G) (cy : Nat → ClassId) (sz : Nat) (cs : List Nat) (ad : Nat → Nat) (en : Nat → va_E) (hcs : ∀ c, c < 115 → c ∈ cs) (k : Int32) (e70 : en 70 = .inr (0, [.ref (ad 1), .ref (ad 71), .ref (ad 72), .ref (ad 73), .null, .null, .null, .int 0, .int 0, .int 0, .int 0, .int 0, .int 0]))  : Met l yX0_has (Cond.code yX0_has cX0_has 2 (some .boolean) :: TB) (rmN 1) (va_Pc [.ref (ad 70), .int k] (Pre D cy cs ad en sz)) (va_Qi (S := Unit) (fun r _ => r = 0) (fun _ _ => True) (Nf sz)) 0 0 (Nf sz) := by
  refine Met.ofW (cc := cX0_has) (maxL := 2) (ret := (some .boolean)) (by decide) rfl ?_
  intro p e s m args below meth c s₁ B hml hv
  obtain ⟨rfl, hsz, hP, hK, hD0⟩ := hv
  have hx := B.exec
  have hb := B.bytes
  have hr := B.returns
  have hts : ∀ w ∈ TB, w.before _ s = true := fun w h => atoms_spec (ws := _ :: TB) B.pre w (List.mem_cons_of_mem _ h)
  have hown : s.vm.findClass RX0 = some m.cls := findClass_of_methodNamed B.named
  have hlocks := B.notSynchronized
  have hh : Hp D (Nf sz) (fun _ => True) s.heap s.heap [] cs ad en := ⟨hP, hD0, va_S.rf⟩
  have hA : ∀ q : Nat, s.heap.size ≤ q → Nf sz q := fun q h => by rw [hsz] at h; exact h
  have hl := lv_entry ([.ref (ad 70), .int k]) (n := 2) (Nat.le_of_ble_eq_true rfl)
  rw [lg_entry_eq]
  generalize (lg_sl ([.ref (ad 70), .int k]) ++ List.replicate (2 - (lg_sl ([.ref (ad 70), .int k])).length) Slot.unset).toArray = ls at hl ⊢
  have hl : lv_has ls 2 [(0, .ref (ad 70)), (1, .int k)] := hl
  refine lv_aload_n hx hb dX0_has_0 rfl (lv_at hl 0 rfl) ?_
  refine hp_callRi (va_runV (As := []) (rest := []) ⟨hx, hb, hml, hown, hts⟩ (c_X0_isFound l D cy _ cs ad en hcs  e70 ) (kw_X0_isFound hts tw_660 ⟨by decide, by decide⟩) (preV_of hh hK (hcs _ (by decide)) e70 rfl) rfl rfl hl.1 rfl (lv_room (Nat.le_of_ble_eq_true rfl)) dX0_has_1 ⟨Nat.le_of_ble_eq_true rfl, Nat.le_of_ble_eq_true rfl⟩) hh hA (fun r_51 H locs hw_51 hh => ?_)
  obtain rfl : r_51 = 0 := hw_51
  refine lv_if_eq (tgt := 23) hx hb dX0_has_4 (by decide) (fun _ => ?_) (fun c_0 => absurd c_0 (by decide))
  refine lv_iconst (v := 0) hx hb dX0_has_23 (by decide) ?_
  exact hp_iretR hx hb hr rfl hlocks hsz hh (rfl) dX0_has_24
theorem kw_X0_has {R : Room} {s : State} {args : Array Value} {own : String} {idx : Nat} (hts : ∀ w ∈ TB, w.before args s = true) (hl : Cond.methodLink own idx yX0_has ∈ TB) (hR : 1 + 1 ≤ R.frames ∧ 8 + (2 + 11) + 40 * 1 ≤ R.locals) : CallW R s args own RX0 idx yX0_has cX0_has 2 (some .boolean) (Cond.code yX0_has cX0_has 2 (some .boolean) :: TB) (rmN 1) 0 0 1 := cwV 1 hts (TB_V hl tw_657 tw_658 tw_5 tw_659) rfl rfl rfl (by decide +kernel) hR
set_option maxHeartbeats 4000000 in
set_option maxRecDepth 100000 in
/-- closed, new object -/
theorem c_X11_closed (l : Launch) (D : va_G) (cy : Nat → ClassId) (sz : Nat) (cs : List Nat) (ad : Nat → Nat) (en : Nat → va_E) (hcs : ∀ c, c < 115 → c ∈ cs) (lf w : Int32) (e0 : en 0 = .inr (10, [.ref (ad 1), .ref (ad 12), .ref (ad 70), .ref (ad 74), .ref (ad 75), .ref (ad 76), .int 0, .int lf])) (e70 : en 70 = .inr (0, [.ref (ad 1), .ref (ad 71), .ref (ad 72), .ref (ad 73), .null, .null, .null, .int 0, .int 0, .int 0, .int 0, .int 0, .int 0]))  : Met l yX11_closed (Cond.code yX11_closed cX11_closed 2 (some .int) :: TB) (rmN 1) (va_Pc [.ref (ad 0), .int w] (Pre D cy cs ad en sz)) (va_Qi (S := Unit) (fun r _ => r = if wi w 0 4 then (-3) else (-2)) (fun _ _ => True) (Nf sz)) 0 0 (Nf sz) := by
  refine Met.ofW (cc := cX11_closed) (maxL := 2) (ret := (some .int)) (by decide) rfl ?_
  intro p e s m args below meth c s₁ B hml hv
  obtain ⟨rfl, hsz, hP, hK, hD0⟩ := hv
  have hx := B.exec
  have hb := B.bytes
  have hr := B.returns
  have hts : ∀ w ∈ TB, w.before _ s = true := fun w h => atoms_spec (ws := _ :: TB) B.pre w (List.mem_cons_of_mem _ h)
  have hown : s.vm.findClass RX11 = some m.cls := findClass_of_methodNamed B.named
  have hlocks := B.notSynchronized
  have hh : Hp D (Nf sz) (fun _ => True) s.heap s.heap [] cs ad en := ⟨hP, hD0, va_S.rf⟩
  have hA : ∀ q : Nat, s.heap.size ≤ q → Nf sz q := fun q h => by rw [hsz] at h; exact h
  have hl := lv_entry ([.ref (ad 0), .int w]) (n := 2) (Nat.le_of_ble_eq_true rfl)
  rw [lg_entry_eq]
  generalize (lg_sl ([.ref (ad 0), .int w]) ++ List.replicate (2 - (lg_sl ([.ref (ad 0), .int w])).length) Slot.unset).toArray = ls at hl ⊢
  have hl : lv_has ls 2 [(0, .ref (ad 0)), (1, .int w)] := hl
  refine lv_iload_n hx hb dX11_closed_0 rfl (lv_at hl 1 rfl) ?_
  refine lv_iconst (v := 0) hx hb dX11_closed_1 (by decide) ?_
  refine lv_iconst (v := 4) hx hb dX11_closed_2 (by decide) ?_
  refine hp_callRi (va_runS (As := [.int w, .int 0, .int 4]) (rest := []) ⟨hx, hb, hml, hown, hts⟩ (c_X11_isWithin l D cy _ cs ad en w 0 4 ) (kw_X11_isWithin hts tw_274 ⟨by decide, by decide⟩) (preS_of hh hK) rfl rfl hl.1 rfl (lv_room (Nat.le_of_ble_eq_true rfl)) dX11_closed_3 ⟨Nat.le_of_ble_eq_true rfl, Nat.le_of_ble_eq_true rfl⟩) hh hA (fun r_52 H locs hw_52 hh => ?_)
  rcases Decidable.em (wi w 0 4) with hp_52 | hp_52
  · obtain rfl : r_52 = 1 := Eq.trans hw_52 (if_pos hp_52)
    refine lv_if_ne (tgt := 12) hx hb dX11_closed_6 (by decide) (fun _ => ?_) (fun c_0 => absurd c_0 (by decide))
    refine lv_aload_n hx hb dX11_closed_12 rfl (lv_at hl 0 rfl) ?_
    refine hp_get hx hb hts ix11 hown hK hh (q := 0) rfl (hcs _ (by decide)) e0 rfl 2 (by decide) (hts _ tw_247) (fun _ h9 => h9) rfl dX11_closed_13 ?_
    refine hp_callRi (va_runV (As := []) (rest := []) ⟨hx, hb, hml, hown, hts⟩ (c_X0_isFound l D cy _ cs ad en hcs  e70 ) (kw_X0_isFound hts tw_644 ⟨by decide, by decide⟩) (preV_of hh hK (hcs _ (by decide)) e70 rfl) rfl rfl hl.1 rfl (lv_room (Nat.le_of_ble_eq_true rfl)) dX11_closed_16 ⟨Nat.le_of_ble_eq_true rfl, Nat.le_of_ble_eq_true rfl⟩) hh hA (fun r_53 H locs hw_53 hh => ?_)
    obtain rfl : r_53 = 0 := hw_53
    refine lv_if_ne (tgt := 25) hx hb dX11_closed_19 (by decide) (fun c_0 => absurd c_0 (by decide)) (fun _ => ?_)
    refine lv_bipush (v := (-3)) hx hb dX11_closed_22 (by decide) ?_
    exact hp_iretR hx hb hr rfl hlocks hsz hh ((if_pos hp_52).symm) dX11_closed_24
  · obtain rfl : r_52 = 0 := Eq.trans hw_52 (if_neg hp_52)
    refine lv_if_ne (tgt := 12) hx hb dX11_closed_6 (by decide) (fun c_0 => absurd c_0 (by decide)) (fun _ => ?_)
    refine lv_bipush (v := (-2)) hx hb dX11_closed_9 (by decide) ?_
    exact hp_iretR hx hb hr rfl hlocks hsz hh ((if_neg hp_52).symm) dX11_closed_11
theorem kw_X11_closed {R : Room} {s : State} {args : Array Value} {own : String} {idx : Nat} (hts : ∀ w ∈ TB, w.before args s = true) (hl : Cond.methodLink own idx yX11_closed ∈ TB) (hR : 1 + 1 ≤ R.frames ∧ 8 + (2 + 11) + 40 * 1 ≤ R.locals) : CallW R s args own RX11 idx yX11_closed cX11_closed 2 (some .int) (Cond.code yX11_closed cX11_closed 2 (some .int) :: TB) (rmN 1) 0 0 1 := cwV 1 hts (TB_V hl tw_641 tw_642 tw_1 tw_643) rfl rfl rfl (by decide +kernel) hR
set_option maxHeartbeats 4000000 in
set_option maxRecDepth 100000 in
/-- product, new object -/
theorem c_X11_product (l : Launch) (D : va_G) (cy : Nat → ClassId) (sz : Nat) (cs : List Nat) (ad : Nat → Nat) (en : Nat → va_E) (hcs : ∀ c, c < 115 → c ∈ cs) (lf k r0 c0 : Int32) (e0 : en 0 = .inr (10, [.ref (ad 1), .ref (ad 12), .ref (ad 70), .ref (ad 74), .ref (ad 75), .ref (ad 76), .int 0, .int lf])) (e70 : en 70 = .inr (0, [.ref (ad 1), .ref (ad 71), .ref (ad 72), .ref (ad 73), .null, .null, .null, .int 0, .int 0, .int 0, .int 0, .int 0, .int 0]))  : Met l yX11_product (Cond.code yX11_product cX11_product 4 (some .long) :: TB) (rmN 2) (va_Pc [.ref (ad 0), .int k, .int r0, .int c0] (Pre D cy cs ad en sz)) (va_Ql (S := Unit) (fun r _ => r = (-9223372036854775808)) (fun _ _ => True) (Nf sz)) 0 0 (Nf sz) := by
  refine Met.ofW (cc := cX11_product) (maxL := 4) (ret := (some .long)) (by decide) rfl ?_
  intro p e s m args below meth c s₁ B hml hv
  obtain ⟨rfl, hsz, hP, hK, hD0⟩ := hv
  have hx := B.exec
  have hb := B.bytes
  have hr := B.returns
  have hts : ∀ w ∈ TB, w.before _ s = true := fun w h => atoms_spec (ws := _ :: TB) B.pre w (List.mem_cons_of_mem _ h)
  have hown : s.vm.findClass RX11 = some m.cls := findClass_of_methodNamed B.named
  have hlocks := B.notSynchronized
  have hh : Hp D (Nf sz) (fun _ => True) s.heap s.heap [] cs ad en := ⟨hP, hD0, va_S.rf⟩
  have hA : ∀ q : Nat, s.heap.size ≤ q → Nf sz q := fun q h => by rw [hsz] at h; exact h
  have hl := lv_entry ([.ref (ad 0), .int k, .int r0, .int c0]) (n := 4) (Nat.le_of_ble_eq_true rfl)
  rw [lg_entry_eq]
  generalize (lg_sl ([.ref (ad 0), .int k, .int r0, .int c0]) ++ List.replicate (4 - (lg_sl ([.ref (ad 0), .int k, .int r0, .int c0])).length) Slot.unset).toArray = ls at hl ⊢
  have hl : lv_has ls 4 [(0, .ref (ad 0)), (1, .int k), (2, .int r0), (3, .int c0)] := hl
  refine lv_aload_n hx hb dX11_product_0 rfl (lv_at hl 0 rfl) ?_
  refine hp_get hx hb hts ix11 hown hK hh (q := 0) rfl (hcs _ (by decide)) e0 rfl 2 (by decide) (hts _ tw_247) (fun _ h9 => h9) rfl dX11_product_1 ?_
  refine lv_iload_n hx hb dX11_product_4 rfl (lv_at hl 1 rfl) ?_
  refine hp_callRi (va_runV (As := [.int k]) (rest := []) ⟨hx, hb, hml, hown, hts⟩ (c_X0_has l D cy _ cs ad en hcs k e70 ) (kw_X0_has hts tw_656 ⟨by decide, by decide⟩) (preV_of hh hK (hcs _ (by decide)) e70 rfl) rfl rfl hl.1 rfl (lv_room (Nat.le_of_ble_eq_true rfl)) dX11_product_5 ⟨Nat.le_of_ble_eq_true rfl, Nat.le_of_ble_eq_true rfl⟩) hh hA (fun r_54 H locs hw_54 hh => ?_)
  obtain rfl : r_54 = 0 := hw_54
  refine lv_if_eq (tgt := 23) hx hb dX11_product_8 (by decide) (fun _ => ?_) (fun c_0 => absurd c_0 (by decide))
  refine lv_ldc2 hx hb hown (hts _ tw_420) dX11_product_23 ?_
  exact hp_lretR hx hb hr hlocks hsz hh (rfl) dX11_product_26
theorem kw_X11_product {R : Room} {s : State} {args : Array Value} {own : String} {idx : Nat} (hts : ∀ w ∈ TB, w.before args s = true) (hl : Cond.methodLink own idx yX11_product ∈ TB) (hR : 2 + 1 ≤ R.frames ∧ 8 + (4 + 11) + 40 * 2 ≤ R.locals) : CallW R s args own RX11 idx yX11_product cX11_product 4 (some .long) (Cond.code yX11_product cX11_product 4 (some .long) :: TB) (rmN 2) 0 0 3 := cwV 3 hts (TB_V hl tw_653 tw_654 tw_1 tw_655) rfl rfl rfl (by decide +kernel) hR
set_option maxHeartbeats 4000000 in
set_option maxRecDepth 100000 in
/-- times, new object -/
theorem c_X11_times (l : Launch) (D : va_G) (cy : Nat → ClassId) (sz : Nat) (cs : List Nat) (ad : Nat → Nat) (en : Nat → va_E) (hcs : ∀ c, c < 115 → c ∈ cs) (lf k j : Int32) (e0 : en 0 = .inr (10, [.ref (ad 1), .ref (ad 12), .ref (ad 70), .ref (ad 74), .ref (ad 75), .ref (ad 76), .int 0, .int lf])) (e70 : en 70 = .inr (0, [.ref (ad 1), .ref (ad 71), .ref (ad 72), .ref (ad 73), .null, .null, .null, .int 0, .int 0, .int 0, .int 0, .int 0, .int 0]))  : Met l yX11_times (Cond.code yX11_times cX11_times 3 (some .int) :: TB) (rmN 2) (va_Pc [.ref (ad 0), .int k, .int j] (Pre D cy cs ad en sz)) (va_Qi (S := Unit) (fun r _ => r = (-1)) (fun _ _ => True) (Nf sz)) 0 0 (Nf sz) := by
  refine Met.ofW (cc := cX11_times) (maxL := 3) (ret := (some .int)) (by decide) rfl ?_
  intro p e s m args below meth c s₁ B hml hv
  obtain ⟨rfl, hsz, hP, hK, hD0⟩ := hv
  have hx := B.exec
  have hb := B.bytes
  have hr := B.returns
  have hts : ∀ w ∈ TB, w.before _ s = true := fun w h => atoms_spec (ws := _ :: TB) B.pre w (List.mem_cons_of_mem _ h)
  have hown : s.vm.findClass RX11 = some m.cls := findClass_of_methodNamed B.named
  have hlocks := B.notSynchronized
  have hh : Hp D (Nf sz) (fun _ => True) s.heap s.heap [] cs ad en := ⟨hP, hD0, va_S.rf⟩
  have hA : ∀ q : Nat, s.heap.size ≤ q → Nf sz q := fun q h => by rw [hsz] at h; exact h
  have hl := lv_entry ([.ref (ad 0), .int k, .int j]) (n := 3) (Nat.le_of_ble_eq_true rfl)
  rw [lg_entry_eq]
  generalize (lg_sl ([.ref (ad 0), .int k, .int j]) ++ List.replicate (3 - (lg_sl ([.ref (ad 0), .int k, .int j])).length) Slot.unset).toArray = ls at hl ⊢
  have hl : lv_has ls 3 [(0, .ref (ad 0)), (1, .int k), (2, .int j)] := hl
  refine lv_aload_n hx hb dX11_times_0 rfl (lv_at hl 0 rfl) ?_
  refine hp_get hx hb hts ix11 hown hK hh (q := 0) rfl (hcs _ (by decide)) e0 rfl 2 (by decide) (hts _ tw_247) (fun _ h9 => h9) rfl dX11_times_1 ?_
  refine lv_iload_n hx hb dX11_times_4 rfl (lv_at hl 1 rfl) ?_
  refine hp_callRi (va_runV (As := [.int k]) (rest := []) ⟨hx, hb, hml, hown, hts⟩ (c_X0_has l D cy _ cs ad en hcs k e70 ) (kw_X0_has hts tw_656 ⟨by decide, by decide⟩) (preV_of hh hK (hcs _ (by decide)) e70 rfl) rfl rfl hl.1 rfl (lv_room (Nat.le_of_ble_eq_true rfl)) dX11_times_5 ⟨Nat.le_of_ble_eq_true rfl, Nat.le_of_ble_eq_true rfl⟩) hh hA (fun r_55 H locs hw_55 hh => ?_)
  obtain rfl : r_55 = 0 := hw_55
  refine lv_if_eq (tgt := 22) hx hb dX11_times_8 (by decide) (fun _ => ?_) (fun c_0 => absurd c_0 (by decide))
  refine lv_iconst (v := (-1)) hx hb dX11_times_22 (by decide) ?_
  exact hp_iretR hx hb hr rfl hlocks hsz hh (rfl) dX11_times_23
theorem kw_X11_times {R : Room} {s : State} {args : Array Value} {own : String} {idx : Nat} (hts : ∀ w ∈ TB, w.before args s = true) (hl : Cond.methodLink own idx yX11_times ∈ TB) (hR : 2 + 1 ≤ R.frames ∧ 8 + (3 + 11) + 40 * 2 ≤ R.locals) : CallW R s args own RX11 idx yX11_times cX11_times 3 (some .int) (Cond.code yX11_times cX11_times 3 (some .int) :: TB) (rmN 2) 0 0 2 := cwV 2 hts (TB_V hl tw_666 tw_667 tw_1 tw_668) rfl rfl rfl (by decide +kernel) hR
set_option maxHeartbeats 4000000 in
set_option maxRecDepth 100000 in
/-- hasWord, new object -/
theorem c_X11_hasWord (l : Launch) (D : va_G) (cy : Nat → ClassId) (sz : Nat) (cs : List Nat) (ad : Nat → Nat) (en : Nat → va_E) (hcs : ∀ c, c < 115 → c ∈ cs) (lf w : Int32) (e0 : en 0 = .inr (10, [.ref (ad 1), .ref (ad 12), .ref (ad 70), .ref (ad 74), .ref (ad 75), .ref (ad 76), .int 0, .int lf]))  : Met l yX11_hasWord (Cond.code yX11_hasWord cX11_hasWord 2 (some .boolean) :: TB) (rmN 1) (va_Pc [.ref (ad 0), .int w] (Pre D cy cs ad en sz)) (va_Qi (S := Unit) (fun r _ => r = 0) (fun _ _ => True) (Nf sz)) 0 0 (Nf sz) := by
  refine Met.ofW (cc := cX11_hasWord) (maxL := 2) (ret := (some .boolean)) (by decide) rfl ?_
  intro p e s m args below meth c s₁ B hml hv
  obtain ⟨rfl, hsz, hP, hK, hD0⟩ := hv
  have hx := B.exec
  have hb := B.bytes
  have hr := B.returns
  have hts : ∀ w ∈ TB, w.before _ s = true := fun w h => atoms_spec (ws := _ :: TB) B.pre w (List.mem_cons_of_mem _ h)
  have hown : s.vm.findClass RX11 = some m.cls := findClass_of_methodNamed B.named
  have hlocks := B.notSynchronized
  have hh : Hp D (Nf sz) (fun _ => True) s.heap s.heap [] cs ad en := ⟨hP, hD0, va_S.rf⟩
  have hA : ∀ q : Nat, s.heap.size ≤ q → Nf sz q := fun q h => by rw [hsz] at h; exact h
  have hl := lv_entry ([.ref (ad 0), .int w]) (n := 2) (Nat.le_of_ble_eq_true rfl)
  rw [lg_entry_eq]
  generalize (lg_sl ([.ref (ad 0), .int w]) ++ List.replicate (2 - (lg_sl ([.ref (ad 0), .int w])).length) Slot.unset).toArray = ls at hl ⊢
  have hl : lv_has ls 2 [(0, .ref (ad 0)), (1, .int w)] := hl
  refine lv_iload_n hx hb dX11_hasWord_0 rfl (lv_at hl 1 rfl) ?_
  refine lv_iconst (v := 0) hx hb dX11_hasWord_1 (by decide) ?_
  refine lv_aload_n hx hb dX11_hasWord_2 rfl (lv_at hl 0 rfl) ?_
  refine hp_get hx hb hts ix11 hown hK hh (q := 0) rfl (hcs _ (by decide)) e0 rfl 6 (by decide) (hts _ tw_251) (fun _ h9 => h9) rfl dX11_hasWord_3 ?_
  refine lv_iconst (v := 1) hx hb dX11_hasWord_6 (by decide) ?_
  refine lv_isub hx hb dX11_hasWord_7 ?_
  rw [show (0 : Int32) - 1 = (-1) by decide]
  refine hp_callRi (va_runS (As := [.int w, .int 0, .int (-1)]) (rest := []) ⟨hx, hb, hml, hown, hts⟩ (c_X11_isWithin l D cy _ cs ad en w 0 (-1) ) (kw_X11_isWithin hts tw_274 ⟨by decide, by decide⟩) (preS_of hh hK) rfl rfl hl.1 rfl (lv_room (Nat.le_of_ble_eq_true rfl)) dX11_hasWord_8 ⟨Nat.le_of_ble_eq_true rfl, Nat.le_of_ble_eq_true rfl⟩) hh hA (fun r_56 H locs hw_56 hh => ?_)
  obtain rfl : r_56 = 0 := Eq.trans hw_56 (if_neg (fun h => absurd (Int.le_trans h.1 h.2) (by decide)))
  exact hp_iretR hx hb hr rfl hlocks hsz hh (rfl) dX11_hasWord_11
theorem kw_X11_hasWord {R : Room} {s : State} {args : Array Value} {own : String} {idx : Nat} (hts : ∀ w ∈ TB, w.before args s = true) (hl : Cond.methodLink own idx yX11_hasWord ∈ TB) (hR : 1 + 1 ≤ R.frames ∧ 8 + (2 + 11) + 40 * 1 ≤ R.locals) : CallW R s args own RX11 idx yX11_hasWord cX11_hasWord 2 (some .boolean) (Cond.code yX11_hasWord cX11_hasWord 2 (some .boolean) :: TB) (rmN 1) 0 0 1 := cwV 1 hts (TB_V hl tw_705 ts_26 tw_1 tw_706) rfl rfl rfl (by decide +kernel) hR
set_option maxHeartbeats 4000000 in
set_option maxRecDepth 100000 in
/-- join, new object -/
theorem c_X11_join (l : Launch) (D : va_G) (cy : Nat → ClassId) (sz : Nat) (cs : List Nat) (ad : Nat → Nat) (en : Nat → va_E) (hcs : ∀ c, c < 115 → c ∈ cs) (lf a b : Int32) (e0 : en 0 = .inr (10, [.ref (ad 1), .ref (ad 12), .ref (ad 70), .ref (ad 74), .ref (ad 75), .ref (ad 76), .int 0, .int lf]))  : Met l yX11_join (Cond.code yX11_join cX11_join 4 (some .int) :: TB) (rmN 2) (va_Pc [.ref (ad 0), .int a, .int b] (Pre D cy cs ad en sz)) (va_Qi (S := Unit) (fun r _ => r = (-1)) (fun _ _ => True) (Nf sz)) 0 0 (Nf sz) := by
  refine Met.ofW (cc := cX11_join) (maxL := 4) (ret := (some .int)) (by decide) rfl ?_
  intro p e s m args below meth c s₁ B hml hv
  obtain ⟨rfl, hsz, hP, hK, hD0⟩ := hv
  have hx := B.exec
  have hb := B.bytes
  have hr := B.returns
  have hts : ∀ w ∈ TB, w.before _ s = true := fun w h => atoms_spec (ws := _ :: TB) B.pre w (List.mem_cons_of_mem _ h)
  have hown : s.vm.findClass RX11 = some m.cls := findClass_of_methodNamed B.named
  have hlocks := B.notSynchronized
  have hh : Hp D (Nf sz) (fun _ => True) s.heap s.heap [] cs ad en := ⟨hP, hD0, va_S.rf⟩
  have hA : ∀ q : Nat, s.heap.size ≤ q → Nf sz q := fun q h => by rw [hsz] at h; exact h
  have hl := lv_entry ([.ref (ad 0), .int a, .int b]) (n := 4) (Nat.le_of_ble_eq_true rfl)
  rw [lg_entry_eq]
  generalize (lg_sl ([.ref (ad 0), .int a, .int b]) ++ List.replicate (4 - (lg_sl ([.ref (ad 0), .int a, .int b])).length) Slot.unset).toArray = ls at hl ⊢
  have hl : lv_has ls 4 [(0, .ref (ad 0)), (1, .int a), (2, .int b)] := hl
  refine lv_aload_n hx hb dX11_join_0 rfl (lv_at hl 0 rfl) ?_
  refine lv_iload_n hx hb dX11_join_1 rfl (lv_at hl 1 rfl) ?_
  refine hp_callRi (va_runV (As := [.int a]) (rest := []) ⟨hx, hb, hml, hown, hts⟩ (c_X11_hasWord l D cy _ cs ad en hcs lf a e0 ) (kw_X11_hasWord hts tw_703 ⟨by decide, by decide⟩) (preV_of hh hK (hcs _ (by decide)) e0 rfl) rfl rfl hl.1 rfl (lv_room (Nat.le_of_ble_eq_true rfl)) dX11_join_2 ⟨Nat.le_of_ble_eq_true rfl, Nat.le_of_ble_eq_true rfl⟩) hh hA (fun r_57 H locs hw_57 hh => ?_)
  obtain rfl : r_57 = 0 := hw_57
  refine lv_if_eq (tgt := 16) hx hb dX11_join_5 (by decide) (fun _ => ?_) (fun c_0 => absurd c_0 (by decide))
  refine lv_iconst (v := (-1)) hx hb dX11_join_16 (by decide) ?_
  exact hp_iretR hx hb hr rfl hlocks hsz hh (rfl) dX11_join_17
theorem kw_X11_join {R : Room} {s : State} {args : Array Value} {own : String} {idx : Nat} (hts : ∀ w ∈ TB, w.before args s = true) (hl : Cond.methodLink own idx yX11_join ∈ TB) (hR : 2 + 1 ≤ R.frames ∧ 8 + (4 + 11) + 40 * 2 ≤ R.locals) : CallW R s args own RX11 idx yX11_join cX11_join 4 (some .int) (Cond.code yX11_join cX11_join 4 (some .int) :: TB) (rmN 2) 0 0 2 := cwV 2 hts (TB_V hl tw_700 tw_701 tw_1 tw_702) rfl rfl rfl (by decide +kernel) hR
set_option maxHeartbeats 4000000 in
set_option maxRecDepth 100000 in
/-- letter, new object -/
theorem c_X11_letter (l : Launch) (D : va_G) (cy : Nat → ClassId) (sz : Nat) (cs : List Nat) (ad : Nat → Nat) (en : Nat → va_E) (hcs : ∀ c, c < 115 → c ∈ cs) (lf w i : Int32) (e0 : en 0 = .inr (10, [.ref (ad 1), .ref (ad 12), .ref (ad 70), .ref (ad 74), .ref (ad 75), .ref (ad 76), .int 0, .int lf]))  : Met l yX11_letter (Cond.code yX11_letter cX11_letter 3 (some .int) :: TB) (rmN 2) (va_Pc [.ref (ad 0), .int w, .int i] (Pre D cy cs ad en sz)) (va_Qi (S := Unit) (fun r _ => r = (-1)) (fun _ _ => True) (Nf sz)) 0 0 (Nf sz) := by
  refine Met.ofW (cc := cX11_letter) (maxL := 3) (ret := (some .int)) (by decide) rfl ?_
  intro p e s m args below meth c s₁ B hml hv
  obtain ⟨rfl, hsz, hP, hK, hD0⟩ := hv
  have hx := B.exec
  have hb := B.bytes
  have hr := B.returns
  have hts : ∀ w ∈ TB, w.before _ s = true := fun w h => atoms_spec (ws := _ :: TB) B.pre w (List.mem_cons_of_mem _ h)
  have hown : s.vm.findClass RX11 = some m.cls := findClass_of_methodNamed B.named
  have hlocks := B.notSynchronized
  have hh : Hp D (Nf sz) (fun _ => True) s.heap s.heap [] cs ad en := ⟨hP, hD0, va_S.rf⟩
  have hA : ∀ q : Nat, s.heap.size ≤ q → Nf sz q := fun q h => by rw [hsz] at h; exact h
  have hl := lv_entry ([.ref (ad 0), .int w, .int i]) (n := 3) (Nat.le_of_ble_eq_true rfl)
  rw [lg_entry_eq]
  generalize (lg_sl ([.ref (ad 0), .int w, .int i]) ++ List.replicate (3 - (lg_sl ([.ref (ad 0), .int w, .int i])).length) Slot.unset).toArray = ls at hl ⊢
  have hl : lv_has ls 3 [(0, .ref (ad 0)), (1, .int w), (2, .int i)] := hl
  refine lv_aload_n hx hb dX11_letter_0 rfl (lv_at hl 0 rfl) ?_
  refine lv_iload_n hx hb dX11_letter_1 rfl (lv_at hl 1 rfl) ?_
  refine hp_callRi (va_runV (As := [.int w]) (rest := []) ⟨hx, hb, hml, hown, hts⟩ (c_X11_hasWord l D cy _ cs ad en hcs lf w e0 ) (kw_X11_hasWord hts tw_703 ⟨by decide, by decide⟩) (preV_of hh hK (hcs _ (by decide)) e0 rfl) rfl rfl hl.1 rfl (lv_room (Nat.le_of_ble_eq_true rfl)) dX11_letter_2 ⟨Nat.le_of_ble_eq_true rfl, Nat.le_of_ble_eq_true rfl⟩) hh hA (fun r_58 H locs hw_58 hh => ?_)
  obtain rfl : r_58 = 0 := hw_58
  refine lv_if_eq (tgt := 27) hx hb dX11_letter_5 (by decide) (fun _ => ?_) (fun c_0 => absurd c_0 (by decide))
  refine lv_iconst (v := (-1)) hx hb dX11_letter_27 (by decide) ?_
  exact hp_iretR hx hb hr rfl hlocks hsz hh (rfl) dX11_letter_28
theorem kw_X11_letter {R : Room} {s : State} {args : Array Value} {own : String} {idx : Nat} (hts : ∀ w ∈ TB, w.before args s = true) (hl : Cond.methodLink own idx yX11_letter ∈ TB) (hR : 2 + 1 ≤ R.frames ∧ 8 + (3 + 11) + 40 * 2 ≤ R.locals) : CallW R s args own RX11 idx yX11_letter cX11_letter 3 (some .int) (Cond.code yX11_letter cX11_letter 3 (some .int) :: TB) (rmN 2) 0 0 2 := cwV 2 hts (TB_V hl tw_713 tw_714 tw_1 tw_715) rfl rfl rfl (by decide +kernel) hR
set_option maxHeartbeats 4000000 in
set_option maxRecDepth 100000 in
/-- about, new object -/
theorem c_X11_about (l : Launch) (D : va_G) (cy : Nat → ClassId) (sz : Nat) (cs : List Nat) (ad : Nat → Nat) (en : Nat → va_E) (hcs : ∀ c, c < 115 → c ∈ cs) (lf w z : Int32) (e0 : en 0 = .inr (10, [.ref (ad 1), .ref (ad 12), .ref (ad 70), .ref (ad 74), .ref (ad 75), .ref (ad 76), .int 0, .int lf]))  : Met l yX11_about (Cond.code yX11_about cX11_about 4 (some .int) :: TB) (rmN 2) (va_Pc [.ref (ad 0), .int w, .int z] (Pre D cy cs ad en sz)) (va_Qi (S := Unit) (fun r _ => r = (-1)) (fun _ _ => True) (Nf sz)) 0 0 (Nf sz) := by
  refine Met.ofW (cc := cX11_about) (maxL := 4) (ret := (some .int)) (by decide) rfl ?_
  intro p e s m args below meth c s₁ B hml hv
  obtain ⟨rfl, hsz, hP, hK, hD0⟩ := hv
  have hx := B.exec
  have hb := B.bytes
  have hr := B.returns
  have hts : ∀ w ∈ TB, w.before _ s = true := fun w h => atoms_spec (ws := _ :: TB) B.pre w (List.mem_cons_of_mem _ h)
  have hown : s.vm.findClass RX11 = some m.cls := findClass_of_methodNamed B.named
  have hlocks := B.notSynchronized
  have hh : Hp D (Nf sz) (fun _ => True) s.heap s.heap [] cs ad en := ⟨hP, hD0, va_S.rf⟩
  have hA : ∀ q : Nat, s.heap.size ≤ q → Nf sz q := fun q h => by rw [hsz] at h; exact h
  have hl := lv_entry ([.ref (ad 0), .int w, .int z]) (n := 4) (Nat.le_of_ble_eq_true rfl)
  rw [lg_entry_eq]
  generalize (lg_sl ([.ref (ad 0), .int w, .int z]) ++ List.replicate (4 - (lg_sl ([.ref (ad 0), .int w, .int z])).length) Slot.unset).toArray = ls at hl ⊢
  have hl : lv_has ls 4 [(0, .ref (ad 0)), (1, .int w), (2, .int z)] := hl
  refine lv_aload_n hx hb dX11_about_0 rfl (lv_at hl 0 rfl) ?_
  refine lv_iload_n hx hb dX11_about_1 rfl (lv_at hl 1 rfl) ?_
  refine hp_callRi (va_runV (As := [.int w]) (rest := []) ⟨hx, hb, hml, hown, hts⟩ (c_X11_hasWord l D cy _ cs ad en hcs lf w e0 ) (kw_X11_hasWord hts tw_703 ⟨by decide, by decide⟩) (preV_of hh hK (hcs _ (by decide)) e0 rfl) rfl rfl hl.1 rfl (lv_room (Nat.le_of_ble_eq_true rfl)) dX11_about_2 ⟨Nat.le_of_ble_eq_true rfl, Nat.le_of_ble_eq_true rfl⟩) hh hA (fun r_59 H locs hw_59 hh => ?_)
  obtain rfl : r_59 = 0 := hw_59
  refine lv_if_ne (tgt := 10) hx hb dX11_about_5 (by decide) (fun c_0 => absurd c_0 (by decide)) (fun _ => ?_)
  refine lv_iconst (v := (-1)) hx hb dX11_about_8 (by decide) ?_
  exact hp_iretR hx hb hr rfl hlocks hsz hh (rfl) dX11_about_9
theorem kw_X11_about {R : Room} {s : State} {args : Array Value} {own : String} {idx : Nat} (hts : ∀ w ∈ TB, w.before args s = true) (hl : Cond.methodLink own idx yX11_about ∈ TB) (hR : 2 + 1 ≤ R.frames ∧ 8 + (4 + 11) + 40 * 2 ≤ R.locals) : CallW R s args own RX11 idx yX11_about cX11_about 4 (some .int) (Cond.code yX11_about cX11_about 4 (some .int) :: TB) (rmN 2) 0 0 2 := cwV 2 hts (TB_V hl tw_717 tw_718 tw_1 tw_719) rfl rfl rfl (by decide +kernel) hR
set_option maxHeartbeats 4000000 in
set_option maxRecDepth 100000 in
/-- entryOf, new object -/
theorem c_X11_entryOf (l : Launch) (D : va_G) (cy : Nat → ClassId) (sz : Nat) (cs : List Nat) (ad : Nat → Nat) (en : Nat → va_E) (hcs : ∀ c, c < 115 → c ∈ cs) (lf w r0 c0 : Int32) (e0 : en 0 = .inr (10, [.ref (ad 1), .ref (ad 12), .ref (ad 70), .ref (ad 74), .ref (ad 75), .ref (ad 76), .int 0, .int lf]))  : Met l yX11_entryOf (Cond.code yX11_entryOf cX11_entryOf 4 (some .long) :: TB) (rmN 2) (va_Pc [.ref (ad 0), .int w, .int r0, .int c0] (Pre D cy cs ad en sz)) (va_Ql (S := Unit) (fun r _ => r = (-9223372036854775808)) (fun _ _ => True) (Nf sz)) 0 0 (Nf sz) := by
  refine Met.ofW (cc := cX11_entryOf) (maxL := 4) (ret := (some .long)) (by decide) rfl ?_
  intro p e s m args below meth c s₁ B hml hv
  obtain ⟨rfl, hsz, hP, hK, hD0⟩ := hv
  have hx := B.exec
  have hb := B.bytes
  have hr := B.returns
  have hts : ∀ w ∈ TB, w.before _ s = true := fun w h => atoms_spec (ws := _ :: TB) B.pre w (List.mem_cons_of_mem _ h)
  have hown : s.vm.findClass RX11 = some m.cls := findClass_of_methodNamed B.named
  have hlocks := B.notSynchronized
  have hh : Hp D (Nf sz) (fun _ => True) s.heap s.heap [] cs ad en := ⟨hP, hD0, va_S.rf⟩
  have hA : ∀ q : Nat, s.heap.size ≤ q → Nf sz q := fun q h => by rw [hsz] at h; exact h
  have hl := lv_entry ([.ref (ad 0), .int w, .int r0, .int c0]) (n := 4) (Nat.le_of_ble_eq_true rfl)
  rw [lg_entry_eq]
  generalize (lg_sl ([.ref (ad 0), .int w, .int r0, .int c0]) ++ List.replicate (4 - (lg_sl ([.ref (ad 0), .int w, .int r0, .int c0])).length) Slot.unset).toArray = ls at hl ⊢
  have hl : lv_has ls 4 [(0, .ref (ad 0)), (1, .int w), (2, .int r0), (3, .int c0)] := hl
  refine lv_aload_n hx hb dX11_entryOf_0 rfl (lv_at hl 0 rfl) ?_
  refine lv_iload_n hx hb dX11_entryOf_1 rfl (lv_at hl 1 rfl) ?_
  refine hp_callRi (va_runV (As := [.int w]) (rest := []) ⟨hx, hb, hml, hown, hts⟩ (c_X11_hasWord l D cy _ cs ad en hcs lf w e0 ) (kw_X11_hasWord hts tw_703 ⟨by decide, by decide⟩) (preV_of hh hK (hcs _ (by decide)) e0 rfl) rfl rfl hl.1 rfl (lv_room (Nat.le_of_ble_eq_true rfl)) dX11_entryOf_2 ⟨Nat.le_of_ble_eq_true rfl, Nat.le_of_ble_eq_true rfl⟩) hh hA (fun r_60 H locs hw_60 hh => ?_)
  obtain rfl : r_60 = 0 := hw_60
  refine lv_if_eq (tgt := 20) hx hb dX11_entryOf_5 (by decide) (fun _ => ?_) (fun c_0 => absurd c_0 (by decide))
  refine lv_ldc2 hx hb hown (hts _ tw_420) dX11_entryOf_20 ?_
  exact hp_lretR hx hb hr hlocks hsz hh (rfl) dX11_entryOf_23
theorem kw_X11_entryOf {R : Room} {s : State} {args : Array Value} {own : String} {idx : Nat} (hts : ∀ w ∈ TB, w.before args s = true) (hl : Cond.methodLink own idx yX11_entryOf ∈ TB) (hR : 2 + 1 ≤ R.frames ∧ 8 + (4 + 11) + 40 * 2 ≤ R.locals) : CallW R s args own RX11 idx yX11_entryOf cX11_entryOf 4 (some .long) (Cond.code yX11_entryOf cX11_entryOf 4 (some .long) :: TB) (rmN 2) 0 0 3 := cwV 3 hts (TB_V hl tw_737 tw_738 tw_1 tw_739) rfl rfl rfl (by decide +kernel) hR
set_option maxHeartbeats 4000000 in
set_option maxRecDepth 100000 in
/-- size, new object -/
theorem c_X11_size (l : Launch) (D : va_G) (cy : Nat → ClassId) (sz : Nat) (cs : List Nat) (ad : Nat → Nat) (en : Nat → va_E) (hcs : ∀ c, c < 115 → c ∈ cs) (lf w z : Int32) (e0 : en 0 = .inr (10, [.ref (ad 1), .ref (ad 12), .ref (ad 70), .ref (ad 74), .ref (ad 75), .ref (ad 76), .int 0, .int lf]))  : Met l yX11_size (Cond.code yX11_size cX11_size 3 (some .long) :: TB) (rmN 2) (va_Pc [.ref (ad 0), .int w, .int z] (Pre D cy cs ad en sz)) (va_Ql (S := Unit) (fun r _ => r = (-9223372036854775808)) (fun _ _ => True) (Nf sz)) 0 0 (Nf sz) := by
  refine Met.ofW (cc := cX11_size) (maxL := 3) (ret := (some .long)) (by decide) rfl ?_
  intro p e s m args below meth c s₁ B hml hv
  obtain ⟨rfl, hsz, hP, hK, hD0⟩ := hv
  have hx := B.exec
  have hb := B.bytes
  have hr := B.returns
  have hts : ∀ w ∈ TB, w.before _ s = true := fun w h => atoms_spec (ws := _ :: TB) B.pre w (List.mem_cons_of_mem _ h)
  have hown : s.vm.findClass RX11 = some m.cls := findClass_of_methodNamed B.named
  have hlocks := B.notSynchronized
  have hh : Hp D (Nf sz) (fun _ => True) s.heap s.heap [] cs ad en := ⟨hP, hD0, va_S.rf⟩
  have hA : ∀ q : Nat, s.heap.size ≤ q → Nf sz q := fun q h => by rw [hsz] at h; exact h
  have hl := lv_entry ([.ref (ad 0), .int w, .int z]) (n := 3) (Nat.le_of_ble_eq_true rfl)
  rw [lg_entry_eq]
  generalize (lg_sl ([.ref (ad 0), .int w, .int z]) ++ List.replicate (3 - (lg_sl ([.ref (ad 0), .int w, .int z])).length) Slot.unset).toArray = ls at hl ⊢
  have hl : lv_has ls 3 [(0, .ref (ad 0)), (1, .int w), (2, .int z)] := hl
  refine lv_aload_n hx hb dX11_size_0 rfl (lv_at hl 0 rfl) ?_
  refine lv_iload_n hx hb dX11_size_1 rfl (lv_at hl 1 rfl) ?_
  refine hp_callRi (va_runV (As := [.int w]) (rest := []) ⟨hx, hb, hml, hown, hts⟩ (c_X11_hasWord l D cy _ cs ad en hcs lf w e0 ) (kw_X11_hasWord hts tw_703 ⟨by decide, by decide⟩) (preV_of hh hK (hcs _ (by decide)) e0 rfl) rfl rfl hl.1 rfl (lv_room (Nat.le_of_ble_eq_true rfl)) dX11_size_2 ⟨Nat.le_of_ble_eq_true rfl, Nat.le_of_ble_eq_true rfl⟩) hh hA (fun r_61 H locs hw_61 hh => ?_)
  obtain rfl : r_61 = 0 := hw_61
  refine lv_if_eq (tgt := 17) hx hb dX11_size_5 (by decide) (fun _ => ?_) (fun c_0 => absurd c_0 (by decide))
  refine lv_ldc2 hx hb hown (hts _ tw_420) dX11_size_17 ?_
  exact hp_lretR hx hb hr hlocks hsz hh (rfl) dX11_size_20
theorem kw_X11_size {R : Room} {s : State} {args : Array Value} {own : String} {idx : Nat} (hts : ∀ w ∈ TB, w.before args s = true) (hl : Cond.methodLink own idx yX11_size ∈ TB) (hR : 2 + 1 ≤ R.frames ∧ 8 + (3 + 11) + 40 * 2 ≤ R.locals) : CallW R s args own RX11 idx yX11_size cX11_size 3 (some .long) (Cond.code yX11_size cX11_size 3 (some .long) :: TB) (rmN 2) 0 0 2 := cwV 2 hts (TB_V hl tw_741 tw_742 tw_1 tw_743) rfl rfl rfl (by decide +kernel) hR
set_option maxHeartbeats 4000000 in
set_option maxRecDepth 100000 in
/-- tell, new object -/
theorem c_X11_tell (l : Launch) (D : va_G) (cy : Nat → ClassId) (sz : Nat) (cs : List Nat) (ad : Nat → Nat) (en : Nat → va_E) (hcs : ∀ c, c < 115 → c ∈ cs) (lf t : Int32) (e0 : en 0 = .inr (10, [.ref (ad 1), .ref (ad 12), .ref (ad 70), .ref (ad 74), .ref (ad 75), .ref (ad 76), .int 0, .int lf])) (e1 : en 1 = .inr (7, [.ref (ad 2), .ref (ad 3), .ref (ad 10), .ref (ad 11), .int 0, .int 2, .int 0]))  : Met l yX11_tell (Cond.code yX11_tell cX11_tell 2 (some .int) :: TB) (rmN 1) (va_Pc [.ref (ad 0), .int t] (Pre D cy cs ad en sz)) (va_Qi (S := Unit) (fun r _ => r = (-1)) (fun _ _ => True) (Nf sz)) 0 0 (Nf sz) := by
  refine Met.ofW (cc := cX11_tell) (maxL := 2) (ret := (some .int)) (by decide) rfl ?_
  intro p e s m args below meth c s₁ B hml hv
  obtain ⟨rfl, hsz, hP, hK, hD0⟩ := hv
  have hx := B.exec
  have hb := B.bytes
  have hr := B.returns
  have hts : ∀ w ∈ TB, w.before _ s = true := fun w h => atoms_spec (ws := _ :: TB) B.pre w (List.mem_cons_of_mem _ h)
  have hown : s.vm.findClass RX11 = some m.cls := findClass_of_methodNamed B.named
  have hlocks := B.notSynchronized
  have hh : Hp D (Nf sz) (fun _ => True) s.heap s.heap [] cs ad en := ⟨hP, hD0, va_S.rf⟩
  have hA : ∀ q : Nat, s.heap.size ≤ q → Nf sz q := fun q h => by rw [hsz] at h; exact h
  have hl := lv_entry ([.ref (ad 0), .int t]) (n := 2) (Nat.le_of_ble_eq_true rfl)
  rw [lg_entry_eq]
  generalize (lg_sl ([.ref (ad 0), .int t]) ++ List.replicate (2 - (lg_sl ([.ref (ad 0), .int t])).length) Slot.unset).toArray = ls at hl ⊢
  have hl : lv_has ls 2 [(0, .ref (ad 0)), (1, .int t)] := hl
  refine lv_aload_n hx hb dX11_tell_0 rfl (lv_at hl 0 rfl) ?_
  refine hp_get hx hb hts ix11 hown hK hh (q := 0) rfl (hcs _ (by decide)) e0 rfl 0 (by decide) (hts _ tw_245) (fun _ h9 => h9) rfl dX11_tell_1 ?_
  refine lv_iload_n hx hb dX11_tell_4 rfl (lv_at hl 1 rfl) ?_
  refine hp_callRi (va_runV (As := [.int t]) (rest := []) ⟨hx, hb, hml, hown, hts⟩ (c_X8_has l D cy _ cs ad en hcs 0 2 0 t e1) (kw_X8_has hts tw_412 ⟨by decide, by decide⟩) (preV_of hh hK (hcs _ (by decide)) e1 rfl) rfl rfl hl.1 rfl (lv_room (Nat.le_of_ble_eq_true rfl)) dX11_tell_5 ⟨Nat.le_of_ble_eq_true rfl, Nat.le_of_ble_eq_true rfl⟩) hh hA (fun r_62 H locs hw_62 hh => ?_)
  obtain rfl : r_62 = 0 := Eq.trans hw_62 (if_neg (no_has (by decide)))
  refine lv_if_eq (tgt := 29) hx hb dX11_tell_8 (by decide) (fun _ => ?_) (fun c_0 => absurd c_0 (by decide))
  refine lv_iconst (v := (-1)) hx hb dX11_tell_29 (by decide) ?_
  exact hp_iretR hx hb hr rfl hlocks hsz hh (rfl) dX11_tell_30
theorem kw_X11_tell {R : Room} {s : State} {args : Array Value} {own : String} {idx : Nat} (hts : ∀ w ∈ TB, w.before args s = true) (hl : Cond.methodLink own idx yX11_tell ∈ TB) (hR : 1 + 1 ≤ R.frames ∧ 8 + (2 + 11) + 40 * 1 ≤ R.locals) : CallW R s args own RX11 idx yX11_tell cX11_tell 2 (some .int) (Cond.code yX11_tell cX11_tell 2 (some .int) :: TB) (rmN 1) 0 0 1 := cwV 1 hts (TB_V hl tw_784 tw_785 tw_1 tw_786) rfl rfl rfl (by decide +kernel) hR
set_option maxHeartbeats 4000000 in
set_option maxRecDepth 100000 in
/-- weigh, new object -/
theorem c_X11_weigh (l : Launch) (D : va_G) (cy : Nat → ClassId) (sz : Nat) (cs : List Nat) (ad : Nat → Nat) (en : Nat → va_E) (hcs : ∀ c, c < 115 → c ∈ cs) (lf t : Int32) (e0 : en 0 = .inr (10, [.ref (ad 1), .ref (ad 12), .ref (ad 70), .ref (ad 74), .ref (ad 75), .ref (ad 76), .int 0, .int lf])) (e1 : en 1 = .inr (7, [.ref (ad 2), .ref (ad 3), .ref (ad 10), .ref (ad 11), .int 0, .int 2, .int 0]))  : Met l yX11_weigh (Cond.code yX11_weigh cX11_weigh 2 (some .int) :: TB) (rmN 1) (va_Pc [.ref (ad 0), .int t] (Pre D cy cs ad en sz)) (va_Qi (S := Unit) (fun r _ => r = (-1)) (fun _ _ => True) (Nf sz)) 0 0 (Nf sz) := by
  refine Met.ofW (cc := cX11_weigh) (maxL := 2) (ret := (some .int)) (by decide) rfl ?_
  intro p e s m args below meth c s₁ B hml hv
  obtain ⟨rfl, hsz, hP, hK, hD0⟩ := hv
  have hx := B.exec
  have hb := B.bytes
  have hr := B.returns
  have hts : ∀ w ∈ TB, w.before _ s = true := fun w h => atoms_spec (ws := _ :: TB) B.pre w (List.mem_cons_of_mem _ h)
  have hown : s.vm.findClass RX11 = some m.cls := findClass_of_methodNamed B.named
  have hlocks := B.notSynchronized
  have hh : Hp D (Nf sz) (fun _ => True) s.heap s.heap [] cs ad en := ⟨hP, hD0, va_S.rf⟩
  have hA : ∀ q : Nat, s.heap.size ≤ q → Nf sz q := fun q h => by rw [hsz] at h; exact h
  have hl := lv_entry ([.ref (ad 0), .int t]) (n := 2) (Nat.le_of_ble_eq_true rfl)
  rw [lg_entry_eq]
  generalize (lg_sl ([.ref (ad 0), .int t]) ++ List.replicate (2 - (lg_sl ([.ref (ad 0), .int t])).length) Slot.unset).toArray = ls at hl ⊢
  have hl : lv_has ls 2 [(0, .ref (ad 0)), (1, .int t)] := hl
  refine lv_aload_n hx hb dX11_weigh_0 rfl (lv_at hl 0 rfl) ?_
  refine hp_get hx hb hts ix11 hown hK hh (q := 0) rfl (hcs _ (by decide)) e0 rfl 0 (by decide) (hts _ tw_245) (fun _ h9 => h9) rfl dX11_weigh_1 ?_
  refine lv_iload_n hx hb dX11_weigh_4 rfl (lv_at hl 1 rfl) ?_
  refine hp_callRi (va_runV (As := [.int t]) (rest := []) ⟨hx, hb, hml, hown, hts⟩ (c_X8_has l D cy _ cs ad en hcs 0 2 0 t e1) (kw_X8_has hts tw_412 ⟨by decide, by decide⟩) (preV_of hh hK (hcs _ (by decide)) e1 rfl) rfl rfl hl.1 rfl (lv_room (Nat.le_of_ble_eq_true rfl)) dX11_weigh_5 ⟨Nat.le_of_ble_eq_true rfl, Nat.le_of_ble_eq_true rfl⟩) hh hA (fun r_63 H locs hw_63 hh => ?_)
  obtain rfl : r_63 = 0 := Eq.trans hw_63 (if_neg (no_has (by decide)))
  refine lv_if_eq (tgt := 29) hx hb dX11_weigh_8 (by decide) (fun _ => ?_) (fun c_0 => absurd c_0 (by decide))
  refine lv_iconst (v := (-1)) hx hb dX11_weigh_29 (by decide) ?_
  exact hp_iretR hx hb hr rfl hlocks hsz hh (rfl) dX11_weigh_30
theorem kw_X11_weigh {R : Room} {s : State} {args : Array Value} {own : String} {idx : Nat} (hts : ∀ w ∈ TB, w.before args s = true) (hl : Cond.methodLink own idx yX11_weigh ∈ TB) (hR : 1 + 1 ≤ R.frames ∧ 8 + (2 + 11) + 40 * 1 ≤ R.locals) : CallW R s args own RX11 idx yX11_weigh cX11_weigh 2 (some .int) (Cond.code yX11_weigh cX11_weigh 2 (some .int) :: TB) (rmN 1) 0 0 1 := cwV 1 hts (TB_V hl tw_823 tw_824 tw_1 tw_825) rfl rfl rfl (by decide +kernel) hR
set_option maxHeartbeats 4000000 in
set_option maxRecDepth 100000 in
/-- takeAs, new object -/
theorem c_X11_takeAs (l : Launch) (D : va_G) (cy : Nat → ClassId) (sz : Nat) (cs : List Nat) (ad : Nat → Nat) (en : Nat → va_E) (hcs : ∀ c, c < 115 → c ∈ cs) (lf t z : Int32) (e0 : en 0 = .inr (10, [.ref (ad 1), .ref (ad 12), .ref (ad 70), .ref (ad 74), .ref (ad 75), .ref (ad 76), .int 0, .int lf])) (e1 : en 1 = .inr (7, [.ref (ad 2), .ref (ad 3), .ref (ad 10), .ref (ad 11), .int 0, .int 2, .int 0]))  : Met l yX11_takeAs (Cond.code yX11_takeAs cX11_takeAs 3 (some .int) :: TB) (rmN 1) (va_Pc [.ref (ad 0), .int t, .int z] (Pre D cy cs ad en sz)) (va_Qi (S := Unit) (fun r _ => r = (-1)) (fun _ _ => True) (Nf sz)) 0 0 (Nf sz) := by
  refine Met.ofW (cc := cX11_takeAs) (maxL := 3) (ret := (some .int)) (by decide) rfl ?_
  intro p e s m args below meth c s₁ B hml hv
  obtain ⟨rfl, hsz, hP, hK, hD0⟩ := hv
  have hx := B.exec
  have hb := B.bytes
  have hr := B.returns
  have hts : ∀ w ∈ TB, w.before _ s = true := fun w h => atoms_spec (ws := _ :: TB) B.pre w (List.mem_cons_of_mem _ h)
  have hown : s.vm.findClass RX11 = some m.cls := findClass_of_methodNamed B.named
  have hlocks := B.notSynchronized
  have hh : Hp D (Nf sz) (fun _ => True) s.heap s.heap [] cs ad en := ⟨hP, hD0, va_S.rf⟩
  have hA : ∀ q : Nat, s.heap.size ≤ q → Nf sz q := fun q h => by rw [hsz] at h; exact h
  have hl := lv_entry ([.ref (ad 0), .int t, .int z]) (n := 3) (Nat.le_of_ble_eq_true rfl)
  rw [lg_entry_eq]
  generalize (lg_sl ([.ref (ad 0), .int t, .int z]) ++ List.replicate (3 - (lg_sl ([.ref (ad 0), .int t, .int z])).length) Slot.unset).toArray = ls at hl ⊢
  have hl : lv_has ls 3 [(0, .ref (ad 0)), (1, .int t), (2, .int z)] := hl
  refine lv_aload_n hx hb dX11_takeAs_0 rfl (lv_at hl 0 rfl) ?_
  refine hp_get hx hb hts ix11 hown hK hh (q := 0) rfl (hcs _ (by decide)) e0 rfl 0 (by decide) (hts _ tw_245) (fun _ h9 => h9) rfl dX11_takeAs_1 ?_
  refine lv_iload_n hx hb dX11_takeAs_4 rfl (lv_at hl 1 rfl) ?_
  refine hp_callRi (va_runV (As := [.int t]) (rest := []) ⟨hx, hb, hml, hown, hts⟩ (c_X8_has l D cy _ cs ad en hcs 0 2 0 t e1) (kw_X8_has hts tw_412 ⟨by decide, by decide⟩) (preV_of hh hK (hcs _ (by decide)) e1 rfl) rfl rfl hl.1 rfl (lv_room (Nat.le_of_ble_eq_true rfl)) dX11_takeAs_5 ⟨Nat.le_of_ble_eq_true rfl, Nat.le_of_ble_eq_true rfl⟩) hh hA (fun r_64 H locs hw_64 hh => ?_)
  obtain rfl : r_64 = 0 := Eq.trans hw_64 (if_neg (no_has (by decide)))
  refine lv_if_ne (tgt := 13) hx hb dX11_takeAs_8 (by decide) (fun c_0 => absurd c_0 (by decide)) (fun _ => ?_)
  refine lv_iconst (v := (-1)) hx hb dX11_takeAs_11 (by decide) ?_
  exact hp_iretR hx hb hr rfl hlocks hsz hh (rfl) dX11_takeAs_12
theorem kw_X11_takeAs {R : Room} {s : State} {args : Array Value} {own : String} {idx : Nat} (hts : ∀ w ∈ TB, w.before args s = true) (hl : Cond.methodLink own idx yX11_takeAs ∈ TB) (hR : 1 + 1 ≤ R.frames ∧ 8 + (3 + 11) + 40 * 1 ≤ R.locals) : CallW R s args own RX11 idx yX11_takeAs cX11_takeAs 3 (some .int) (Cond.code yX11_takeAs cX11_takeAs 3 (some .int) :: TB) (rmN 1) 0 0 2 := cwV 2 hts (TB_V hl tw_841 ts_30 tw_1 tw_842) rfl rfl rfl (by decide +kernel) hR
set_option maxHeartbeats 4000000 in
set_option maxRecDepth 100000 in
/-- as, new object -/
theorem c_X11_as (l : Launch) (D : va_G) (cy : Nat → ClassId) (sz : Nat) (cs : List Nat) (ad : Nat → Nat) (en : Nat → va_E) (hcs : ∀ c, c < 115 → c ∈ cs) (lf t z : Int32) (e0 : en 0 = .inr (10, [.ref (ad 1), .ref (ad 12), .ref (ad 70), .ref (ad 74), .ref (ad 75), .ref (ad 76), .int 0, .int lf])) (e1 : en 1 = .inr (7, [.ref (ad 2), .ref (ad 3), .ref (ad 10), .ref (ad 11), .int 0, .int 2, .int 0]))  : Met l yX11_as (Cond.code yX11_as cX11_as 3 (some .int) :: TB) (rmN 2) (va_Pc [.ref (ad 0), .int t, .int z] (Pre D cy cs ad en sz)) (va_Qi (S := Nat → va_E) (fun r _ => r = (-1)) (PostM D cs ad) (Af cs ad sz)) 0 0 (Af cs ad sz) := by
  refine Met.ofW (cc := cX11_as) (maxL := 3) (ret := (some .int)) (by decide) rfl ?_
  intro p e s m args below meth c s₁ B hml hv
  obtain ⟨rfl, hsz, hP, hK, hD0⟩ := hv
  have hx := B.exec
  have hb := B.bytes
  have hr := B.returns
  have hts : ∀ w ∈ TB, w.before _ s = true := fun w h => atoms_spec (ws := _ :: TB) B.pre w (List.mem_cons_of_mem _ h)
  have hown : s.vm.findClass RX11 = some m.cls := findClass_of_methodNamed B.named
  have hlocks := B.notSynchronized
  have hh : Hp D (Af cs ad sz) (Af cs ad sz) s.heap s.heap [] cs ad en := ⟨hP, Af_self hD0, va_S.rf⟩
  have hA : ∀ q : Nat, s.heap.size ≤ q → Af cs ad sz q := fun q h => Or.inr (by rw [hsz] at h; exact h)
  have hl := lv_entry ([.ref (ad 0), .int t, .int z]) (n := 3) (Nat.le_of_ble_eq_true rfl)
  rw [lg_entry_eq]
  generalize (lg_sl ([.ref (ad 0), .int t, .int z]) ++ List.replicate (3 - (lg_sl ([.ref (ad 0), .int t, .int z])).length) Slot.unset).toArray = ls at hl ⊢
  have hl : lv_has ls 3 [(0, .ref (ad 0)), (1, .int t), (2, .int z)] := hl
  refine lv_aload_n hx hb dX11_as_0 rfl (lv_at hl 0 rfl) ?_
  refine lv_aload_n hx hb dX11_as_1 rfl (lv_at hl 0 rfl) ?_
  refine lv_iload_n hx hb dX11_as_2 rfl (lv_at hl 1 rfl) ?_
  refine lv_iload_n hx hb dX11_as_3 rfl (lv_at hl 2 rfl) ?_
  refine hp_callRi (va_runV (As := [.int t, .int z]) (rest := [.ref (ad 0)]) ⟨hx, hb, hml, hown, hts⟩ (c_X11_takeAs l D cy _ cs ad en hcs lf t z e0 e1 ) (kw_X11_takeAs hts tw_839 ⟨by decide, by decide⟩) (preV_of hh hK (hcs _ (by decide)) e0 rfl) rfl rfl hl.1 rfl (lv_room (Nat.le_of_ble_eq_true rfl)) dX11_as_4 ⟨Nat.le_of_ble_eq_true rfl, Nat.le_of_ble_eq_true rfl⟩) hh hA (fun r_65 H locs hw_65 hh => ?_)
  obtain rfl : r_65 = (-1) := hw_65
  refine hp_callMi (va_runV (As := [.int (-1)]) (rest := []) ⟨hx, hb, hml, hown, hts⟩ (c_X11_settle l D cy _ cs ad en hcs 0 lf (-1) e0 ) (kw_X11_settle hts tw_404 ⟨by decide, by decide⟩) (preV_of hh hK (hcs _ (by decide)) e0 rfl) rfl rfl hl.1 rfl (lv_room (Nat.le_of_ble_eq_true rfl)) dX11_as_7 ⟨Nat.le_of_ble_eq_true rfl, Nat.le_of_ble_eq_true rfl⟩) hh hA (fun r_66 H locs en_66 hw_66 hh => ?_)
  obtain ⟨rfl, hen_66⟩ := hw_66
  rw [if_neg (by decide)] at hen_66
  have e1_66 : en_66 1 = .inr (7, [.ref (ad 2), .ref (ad 3), .ref (ad 10), .ref (ad 11), .int 0, .int 2, .int 0]) := by rw [hen_66, va_up_ne _ _ (by decide)]; exact e1
  have e0_66 : en_66 0 = .inr (10, [.ref (ad 1), .ref (ad 12), .ref (ad 70), .ref (ad 74), .ref (ad 75), .ref (ad 76), .int 0, .int 0]) := by rw [hen_66]; exact va_up_self _ _ _
  exact hp_iretM hx hb hr rfl hlocks hh (rfl) dX11_as_10
theorem kw_X11_as {R : Room} {s : State} {args : Array Value} {own : String} {idx : Nat} (hts : ∀ w ∈ TB, w.before args s = true) (hl : Cond.methodLink own idx yX11_as ∈ TB) (hR : 2 + 1 ≤ R.frames ∧ 8 + (3 + 11) + 40 * 2 ≤ R.locals) : CallW R s args own RX11 idx yX11_as cX11_as 3 (some .int) (Cond.code yX11_as cX11_as 3 (some .int) :: TB) (rmN 2) 0 0 2 := cwV 2 hts (TB_V hl tw_836 tw_837 tw_1 tw_838) rfl rfl rfl (by decide +kernel) hR
set_option maxHeartbeats 4000000 in
set_option maxRecDepth 100000 in
/-- history, new object -/
theorem c_X11_history (l : Launch) (D : va_G) (cy : Nat → ClassId) (sz : Nat) (cs : List Nat) (ad : Nat → Nat) (en : Nat → va_E) (hcs : ∀ c, c < 115 → c ∈ cs) (lf : Int32) (e0 : en 0 = .inr (10, [.ref (ad 1), .ref (ad 12), .ref (ad 70), .ref (ad 74), .ref (ad 75), .ref (ad 76), .int 0, .int lf])) (e76 : en 76 = .inr (8, [.int 0]))  : Met l yX11_history (Cond.code yX11_history cX11_history 1 (some .int) :: TB) (rmN 0) (va_Pc [.ref (ad 0)] (Pre D cy cs ad en sz)) (va_Qi (S := Unit) (fun r _ => r = 0) (fun _ _ => True) (Nf sz)) 0 0 (Nf sz) := by
  refine Met.ofW (cc := cX11_history) (maxL := 1) (ret := (some .int)) (by decide) rfl ?_
  intro p e s m args below meth c s₁ B hml hv
  obtain ⟨rfl, hsz, hP, hK, hD0⟩ := hv
  have hx := B.exec
  have hb := B.bytes
  have hr := B.returns
  have hts : ∀ w ∈ TB, w.before _ s = true := fun w h => atoms_spec (ws := _ :: TB) B.pre w (List.mem_cons_of_mem _ h)
  have hown : s.vm.findClass RX11 = some m.cls := findClass_of_methodNamed B.named
  have hlocks := B.notSynchronized
  have hh : Hp D (Nf sz) (fun _ => True) s.heap s.heap [] cs ad en := ⟨hP, hD0, va_S.rf⟩
  have hA : ∀ q : Nat, s.heap.size ≤ q → Nf sz q := fun q h => by rw [hsz] at h; exact h
  have hl := lv_entry ([.ref (ad 0)]) (n := 1) (Nat.le_of_ble_eq_true rfl)
  rw [lg_entry_eq]
  generalize (lg_sl ([.ref (ad 0)]) ++ List.replicate (1 - (lg_sl ([.ref (ad 0)])).length) Slot.unset).toArray = ls at hl ⊢
  have hl : lv_has ls 1 [(0, .ref (ad 0))] := hl
  refine lv_aload_n hx hb dX11_history_0 rfl (lv_at hl 0 rfl) ?_
  refine hp_get hx hb hts ix11 hown hK hh (q := 0) rfl (hcs _ (by decide)) e0 rfl 5 (by decide) (hts _ tw_250) (fun _ h9 => h9) rfl dX11_history_1 ?_
  refine hp_get hx hb hts ix9 hown hK hh (q := 76) rfl (hcs _ (by decide)) e76 rfl 0 (by decide) (hts _ tw_202) (fun _ h9 => h9) rfl dX11_history_4 ?_
  exact hp_iretR hx hb hr rfl hlocks hsz hh (rfl) dX11_history_7
theorem kw_X11_history {R : Room} {s : State} {args : Array Value} {own : String} {idx : Nat} (hts : ∀ w ∈ TB, w.before args s = true) (hl : Cond.methodLink own idx yX11_history ∈ TB) (hR : 0 + 1 ≤ R.frames ∧ 8 + (1 + 11) + 40 * 0 ≤ R.locals) : CallW R s args own RX11 idx yX11_history cX11_history 1 (some .int) (Cond.code yX11_history cX11_history 1 (some .int) :: TB) (rmN 0) 0 0 0 := cwV 0 hts (TB_V hl tw_857 tw_858 tw_1 tw_859) rfl rfl rfl (by decide +kernel) hR
set_option maxHeartbeats 4000000 in
set_option maxRecDepth 100000 in
/-- fault, new object -/
theorem c_X11_fault (l : Launch) (D : va_G) (cy : Nat → ClassId) (sz : Nat) (cs : List Nat) (ad : Nat → Nat) (en : Nat → va_E) (hcs : ∀ c, c < 115 → c ∈ cs) (e0 : en 0 = .inr (10, [.ref (ad 1), .ref (ad 12), .ref (ad 70), .ref (ad 74), .ref (ad 75), .ref (ad 76), .int 0, .int 0]))  : Met l yX11_fault (Cond.code yX11_fault cX11_fault 1 (some .int) :: TB) (rmN 0) (va_Pc [.ref (ad 0)] (Pre D cy cs ad en sz)) (va_Qi (S := Unit) (fun r _ => r = 0) (fun _ _ => True) (Nf sz)) 0 0 (Nf sz) := by
  refine Met.ofW (cc := cX11_fault) (maxL := 1) (ret := (some .int)) (by decide) rfl ?_
  intro p e s m args below meth c s₁ B hml hv
  obtain ⟨rfl, hsz, hP, hK, hD0⟩ := hv
  have hx := B.exec
  have hb := B.bytes
  have hr := B.returns
  have hts : ∀ w ∈ TB, w.before _ s = true := fun w h => atoms_spec (ws := _ :: TB) B.pre w (List.mem_cons_of_mem _ h)
  have hown : s.vm.findClass RX11 = some m.cls := findClass_of_methodNamed B.named
  have hlocks := B.notSynchronized
  have hh : Hp D (Nf sz) (fun _ => True) s.heap s.heap [] cs ad en := ⟨hP, hD0, va_S.rf⟩
  have hA : ∀ q : Nat, s.heap.size ≤ q → Nf sz q := fun q h => by rw [hsz] at h; exact h
  have hl := lv_entry ([.ref (ad 0)]) (n := 1) (Nat.le_of_ble_eq_true rfl)
  rw [lg_entry_eq]
  generalize (lg_sl ([.ref (ad 0)]) ++ List.replicate (1 - (lg_sl ([.ref (ad 0)])).length) Slot.unset).toArray = ls at hl ⊢
  have hl : lv_has ls 1 [(0, .ref (ad 0))] := hl
  refine lv_aload_n hx hb dX11_fault_0 rfl (lv_at hl 0 rfl) ?_
  refine hp_get hx hb hts ix11 hown hK hh (q := 0) rfl (hcs _ (by decide)) e0 rfl 7 (by decide) (hts _ tw_252) (fun _ h9 => h9) rfl dX11_fault_1 ?_
  exact hp_iretR hx hb hr rfl hlocks hsz hh (rfl) dX11_fault_4
theorem kw_X11_fault {R : Room} {s : State} {args : Array Value} {own : String} {idx : Nat} (hts : ∀ w ∈ TB, w.before args s = true) (hl : Cond.methodLink own idx yX11_fault ∈ TB) (hR : 0 + 1 ≤ R.frames ∧ 8 + (1 + 11) + 40 * 0 ≤ R.locals) : CallW R s args own RX11 idx yX11_fault cX11_fault 1 (some .int) (Cond.code yX11_fault cX11_fault 1 (some .int) :: TB) (rmN 0) 0 0 0 := cwV 0 hts (TB_V hl tw_861 tw_862 tw_1 tw_863) rfl rfl rfl (by decide +kernel) hR
