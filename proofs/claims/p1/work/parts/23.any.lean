set_option maxHeartbeats 8000000 in
set_option maxRecDepth 100000 in
/-- AnyOrder() -/
theorem c_X11_init (l : Launch) (D : va_G) (cy : Nat → ClassId) (sz : Nat) (ad : Nat → Nat) (en : Nat → va_E)  (et : en 0 = .inr (10, [.null, .null, .null, .null, .null, .null, .int 0, .int 0])) : Met l yX11_init (Cond.code yX11_init cX11_init 2 none :: TB) (rmC 4 114 1061) (va_Pc [.ref (ad 0)] (PreC D cy 1 ad en sz)) (va_Qv (S := (Nat → Nat) × (Nat → va_E)) (fun u => (∀ i, i < 1 → u.1 i = ad i) ∧ (∀ i, i < 1 → i ≠ 0 → u.2 i = en i) ∧ u.2 0 = .inr (10, [.ref (u.1 1), .ref (u.1 12), .ref (u.1 70), .ref (u.1 74), .ref (u.1 75), .ref (u.1 76), .int 0, .int 0]) ∧ u.2 1 = .inr (7, [.ref (u.1 2), .ref (u.1 3), .ref (u.1 10), .ref (u.1 11), .int 0, .int 2, .int 0]) ∧ (∃ f : Nat → Int32, u.2 10 = .inl (cy 2, 36, .inl f)) ∧ u.2 12 = .inr (2, [.ref (u.1 1), .ref (u.1 13), .ref (u.1 14), .ref (u.1 24), .ref (u.1 33), .int 0]) ∧ u.2 13 = .inl (cy 4, 9, .inr (.inr (.inr (.inr (fun j => some (u.1 (34 + 4 * j))))))) ∧ u.2 14 = .inl (cy 7, 9, .inr (.inr (.inr (.inr (fun j => some (u.1 (15 + j))))))) ∧ u.2 16 = .inl (cy 0, 6, .inl (fun _ => 0)) ∧ (∀ j, j < 9 → u.2 (34 + 4 * j) = .inr (5, [.ref (u.1 (35 + 4 * j)), .ref (u.1 (36 + 4 * j)), .ref (u.1 (37 + 4 * j)), .int 0, .int 0, .int 0, .long 0, .long 0, .long 0, .long 0])) ∧ u.2 70 = .inr (0, [.ref (u.1 1), .ref (u.1 71), .ref (u.1 72), .ref (u.1 73), .null, .null, .null, .int 0, .int 0, .int 0, .int 0, .int 0, .int 0]) ∧ u.2 75 = .inl (cy 6, 4, .inr (.inr (.inr (.inr (fun j => some (u.1 (107 + 2 * j))))))) ∧ (∀ j, j < 4 → u.2 (107 + 2 * j) = .inr (3, [.ref (u.1 (108 + 2 * j)), .int 0, .int 0, .int 0])) ∧ (∀ j, j < 4 → u.2 (108 + 2 * j) = .inl (cy 0, 40, .inl (fun _ => 0))) ∧ u.2 76 = .inr (8, [.int 0])) (PostC D 115 (Af (List.range 1) ad sz)) (Af (List.range 1) ad sz)) 114 1061 (Af (List.range 1) ad sz) := by
  refine Met.ofW (cc := cX11_init) (maxL := 2) (ret := none) (by decide) rfl ?_
  intro p e s m args below meth c s₁ B hml hv
  obtain ⟨rfl, ⟨hsz, hP, hK, hD0⟩, hX⟩ := hv
  have hx := B.exec
  have hb := B.bytes
  have hr := B.returns
  have hts : ∀ w ∈ TB, w.before _ s = true := fun w h => atoms_spec (ws := _ :: TB) B.pre w (List.mem_cons_of_mem _ h)
  have hown : s.vm.findClass RX11 = some m.cls := findClass_of_methodNamed B.named
  have hlocks := B.notSynchronized
  have hin : meth.name = "<init>" := (name_of_methodNamed B.named B.method).1
  have hh : Hp D (Af (List.range 1) ad sz) (Af (List.range 1) ad sz) s.heap s.heap [] (List.range 1) ad en := ⟨hP, Af_self hD0, va_S.rf⟩
  have hA : ∀ q : Nat, s.heap.size ≤ q → (Af (List.range 1) ad sz) q := fun q h => Or.inr (by rw [hsz] at h; exact h)
  generalize (Af (List.range 1) ad sz) = A at hh hA ⊢
  have hl := lv_entry ([.ref (ad 0)]) (n := 2) (Nat.le_of_ble_eq_true rfl)
  rw [lg_entry_eq]
  generalize (lg_sl ([.ref (ad 0)]) ++ List.replicate (2 - (lg_sl ([.ref (ad 0)])).length) Slot.unset).toArray = ls at hl ⊢
  have hl : lv_has ls 2 [(0, .ref (ad 0))] := hl
  refine lv_aload_n hx hb dX11_init_0 rfl (lv_at hl 0 rfl) ?_
  refine W.objInit hx hb hown (hts _ tw_22) (hts _ tw_23) (hts _ tw_24) rfl (by rw [hml]; exact hl.1) rfl dX11_init_1 (Nat.le_of_ble_eq_true rfl) (Nat.le_of_ble_eq_true rfl) ?_
  refine W.eq (g2 := F0 m 4 ls []) rfl ?_
  refine lv_aload_n hx hb dX11_init_4 rfl (lv_at hl 0 rfl) ?_
  refine hq_new (ci := 7) (fs := [.null, .null, .null, .null, .int 0, .int 0, .int 0]) hx hb hts ix8 tyX8 tyX8_ok hown (hts _ tw_25) (hts _ tw_26) (hts _ tw_2) hK hh hA rfl (fun j hj => by rcases (show j = 0 ∨ j = 1 ∨ j = 2 ∨ j = 3 ∨ j = 4 ∨ j = 5 ∨ j = 6 by omega) with rfl | rfl | rfl | rfl | rfl | rfl | rfl <;> rfl) (Nat.le_of_ble_eq_true rfl) (Nat.le_of_ble_eq_true rfl) dX11_init_5 (fun q_345 H ad_345 en_345 had_345 hen_345 hh => ?_)
  have hh : Hp D A A s.heap H _ (List.range 2) ad_345 en_345 := hh
  have et_345 : en_345 0 = .inr (10, [.null, .null, .null, .null, .null, .null, .int 0, .int 0]) := by rw [hen_345, va_up_ne _ _ (by decide)]; exact et
  have heta_345 : ad_345 0 = (ad 0) := by rw [had_345, va_up_ne _ _ (by decide)]
  have e1_345 : en_345 1 = .inr (7, [.null, .null, .null, .null, .int 0, .int 0, .int 0]) := by rw [hen_345]; exact va_up_self _ _ _
  have he1a_345 : ad_345 1 = q_345 := by rw [had_345]; exact va_up_self _ _ _
  refine W.widen (k := 1) (n := 7) (Nat.le_refl _) (Nat.le_refl _) ?_
  refine lv_dup hx hb dX11_init_8 rfl ?_
  refine W.eq (g2 := F0 m 9 ls [.ref (ad_345 1), .ref q_345, .ref (ad 0)]) (by rw [he1a_345]) ?_
  refine hq_callC (va_runI (As := []) (rest := [.ref q_345, .ref (ad 0)]) ⟨hx, hb, hml, hown, hts⟩ (c_X8_init l D cy _ ad_345 en_345 e1_345) (kw_X8_init hts tw_27 ⟨by decide, by decide⟩) (preC_of hh hK hX) rfl rfl hl.1 rfl (lv_room (Nat.le_of_ble_eq_true rfl)) dX11_init_9 ⟨Nat.le_of_ble_eq_true rfl, Nat.le_of_ble_eq_true rfl⟩) hh hA (fun H locs ad_346 en_346 hw_346 hh => ?_)
  have hh : Hp D A A s.heap H _ (List.range 12) ad_346 en_346 := hh
  obtain ⟨hda_346, hue_346, e1_346, f_346, e10_346⟩ := hw_346
  dsimp only at hda_346 hue_346 e1_346 e10_346
  have et_346 : en_346 0 = .inr (10, [.null, .null, .null, .null, .null, .null, .int 0, .int 0]) := by rw [hue_346 _ (by decide) (by decide)]; exact et_345
  have heta_346 : ad_346 0 = (ad 0) := by rw [hda_346 _ (by decide)]; exact heta_345
  have he1a_346 : ad_346 1 = q_345 := by rw [hda_346 _ (by decide)]; exact he1a_345
  refine W.widen (k := 11) (n := 118) (Nat.le_refl _) (Nat.le_refl _) ?_
  refine hp_putF hx hb hts ix11 tyX11 tyX11_ok nmX11 hown hK hh (q := 0) heta_346 (List.mem_range.mpr (by decide)) et_346 rfl 0 (by decide) (hts _ tw_245) (fun _ h9 => h9) rfl hin rfl (ty := (.object "AnyOrder$Tables")) (by decide +kernel) rfl rfl (Nat.le_of_ble_eq_true rfl) dX11_init_12 (fun H locs en_347 hen_347 hh => ?_)
  have e1_347 : en_347 1 = .inr (7, [.ref (ad_346 2), .ref (ad_346 3), .ref (ad_346 10), .ref (ad_346 11), .int 0, .int 2, .int 0]) := by rw [hen_347, va_up_ne _ _ (by decide)]; exact e1_346
  have e10_347 : en_347 10 = .inl (cy 2, 36, .inl f_346) := by rw [hen_347, va_up_ne _ _ (by decide)]; exact e10_346
  have et_347 : en_347 0 = .inr (10, [.ref q_345, .null, .null, .null, .null, .null, .int 0, .int 0]) := by rw [hen_347]; exact va_up_self _ _ _
  refine lv_aload_n hx hb dX11_init_15 rfl (lv_at hl 0 rfl) ?_
  refine hq_new (ci := 2) (fs := [.null, .null, .null, .null, .null, .int 0]) hx hb hts ix2 tyX2 tyX2_ok hown (hts _ tw_63) (hts _ tw_64) (hts _ tw_3) hK hh hA rfl (fun j hj => by rcases (show j = 0 ∨ j = 1 ∨ j = 2 ∨ j = 3 ∨ j = 4 ∨ j = 5 by omega) with rfl | rfl | rfl | rfl | rfl | rfl <;> rfl) (Nat.le_of_ble_eq_true rfl) (Nat.le_of_ble_eq_true rfl) dX11_init_16 (fun q_348 H ad_348 en_348 had_348 hen_348 hh => ?_)
  have hh : Hp D A A s.heap H _ (List.range 13) ad_348 en_348 := hh
  have et_348 : en_348 0 = .inr (10, [.ref q_345, .null, .null, .null, .null, .null, .int 0, .int 0]) := by rw [hen_348, va_up_ne _ _ (by decide)]; exact et_347
  have heta_348 : ad_348 0 = (ad 0) := by rw [had_348, va_up_ne _ _ (by decide)]; exact heta_346
  have e1_348 : en_348 1 = .inr (7, [.ref (ad_346 2), .ref (ad_346 3), .ref (ad_346 10), .ref (ad_346 11), .int 0, .int 2, .int 0]) := by rw [hen_348, va_up_ne _ _ (by decide)]; exact e1_347
  have he1a_348 : ad_348 1 = q_345 := by rw [had_348, va_up_ne _ _ (by decide)]; exact he1a_346
  have e10_348 : en_348 10 = .inl (cy 2, 36, .inl f_346) := by rw [hen_348, va_up_ne _ _ (by decide)]; exact e10_347
  have he10a_348 : ad_348 10 = (ad_346 10) := by rw [had_348, va_up_ne _ _ (by decide)]
  have hex2a_348 : ad_348 2 = (ad_346 2) := by rw [had_348, va_up_ne _ _ (by decide)]
  have hex3a_348 : ad_348 3 = (ad_346 3) := by rw [had_348, va_up_ne _ _ (by decide)]
  have hex11a_348 : ad_348 11 = (ad_346 11) := by rw [had_348, va_up_ne _ _ (by decide)]
  have e12_348 : en_348 12 = .inr (2, [.null, .null, .null, .null, .null, .int 0]) := by rw [hen_348]; exact va_up_self _ _ _
  have he12a_348 : ad_348 12 = q_348 := by rw [had_348]; exact va_up_self _ _ _
  refine W.widen (k := 12) (n := 124) (Nat.le_refl _) (Nat.le_refl _) ?_
  refine lv_dup hx hb dX11_init_19 rfl ?_
  refine lv_aload_n hx hb dX11_init_20 rfl (lv_at hl 0 rfl) ?_
  refine hp_get hx hb hts ix11 hown hK hh (q := 0) heta_348 (List.mem_range.mpr (by decide)) et_348 rfl 0 (by decide) (hts _ tw_245) (fun _ h9 => h9) rfl dX11_init_21 ?_
  refine W.eq (g2 := F0 m 24 ls [.ref (ad_348 1), .ref (ad_348 12), .ref q_348, .ref (ad 0)]) (by rw [he1a_348, he12a_348]) ?_
  refine hq_callC (va_runI (As := [.ref (ad_348 1)]) (rest := [.ref q_348, .ref (ad 0)]) ⟨hx, hb, hml, hown, hts⟩ (c_X2_init l D cy _ ad_348 en_348 e12_348) (kw_X2_init hts tw_65 ⟨by decide, by decide⟩) (preC_of hh hK hX) rfl rfl hl.1 rfl (lv_room (Nat.le_of_ble_eq_true rfl)) dX11_init_24 ⟨Nat.le_of_ble_eq_true rfl, Nat.le_of_ble_eq_true rfl⟩) hh hA (fun H locs ad_349 en_349 hw_349 hh => ?_)
  have hh : Hp D A A s.heap H _ (List.range 70) ad_349 en_349 := hh
  obtain ⟨hda_349, hue_349, e12_349, e13_349, e14_349, e16_349, hv_349⟩ := hw_349
  dsimp only at hda_349 hue_349 e12_349 e13_349 e14_349 e16_349 hv_349
  have et_349 : en_349 0 = .inr (10, [.ref q_345, .null, .null, .null, .null, .null, .int 0, .int 0]) := by rw [hue_349 _ (by decide) (by decide)]; exact et_348
  have heta_349 : ad_349 0 = (ad 0) := by rw [hda_349 _ (by decide)]; exact heta_348
  have e1_349 : en_349 1 = .inr (7, [.ref (ad_346 2), .ref (ad_346 3), .ref (ad_346 10), .ref (ad_346 11), .int 0, .int 2, .int 0]) := by rw [hue_349 _ (by decide) (by decide)]; exact e1_348
  have he1a_349 : ad_349 1 = q_345 := by rw [hda_349 _ (by decide)]; exact he1a_348
  have e10_349 : en_349 10 = .inl (cy 2, 36, .inl f_346) := by rw [hue_349 _ (by decide) (by decide)]; exact e10_348
  have he10a_349 : ad_349 10 = (ad_346 10) := by rw [hda_349 _ (by decide)]; exact he10a_348
  have hex2a_349 : ad_349 2 = (ad_346 2) := by rw [hda_349 _ (by decide)]; exact hex2a_348
  have hex3a_349 : ad_349 3 = (ad_346 3) := by rw [hda_349 _ (by decide)]; exact hex3a_348
  have hex11a_349 : ad_349 11 = (ad_346 11) := by rw [hda_349 _ (by decide)]; exact hex11a_348
  have he12a_349 : ad_349 12 = q_348 := by rw [hda_349 _ (by decide)]; exact he12a_348
  refine W.widen (k := 69) (n := 590) (Nat.le_refl _) (Nat.le_refl _) ?_
  refine hp_putF hx hb hts ix11 tyX11 tyX11_ok nmX11 hown hK hh (q := 0) heta_349 (List.mem_range.mpr (by decide)) et_349 rfl 1 (by decide) (hts _ tw_246) (fun _ h9 => h9) rfl hin rfl (ty := (.object "AnyOrder$Lengths")) (by decide +kernel) rfl rfl (Nat.le_of_ble_eq_true rfl) dX11_init_27 (fun H locs en_350 hen_350 hh => ?_)
  have e1_350 : en_350 1 = .inr (7, [.ref (ad_346 2), .ref (ad_346 3), .ref (ad_346 10), .ref (ad_346 11), .int 0, .int 2, .int 0]) := by rw [hen_350, va_up_ne _ _ (by decide)]; exact e1_349
  have e10_350 : en_350 10 = .inl (cy 2, 36, .inl f_346) := by rw [hen_350, va_up_ne _ _ (by decide)]; exact e10_349
  have e12_350 : en_350 12 = .inr (2, [.ref (ad_349 1), .ref (ad_349 13), .ref (ad_349 14), .ref (ad_349 24), .ref (ad_349 33), .int 0]) := by rw [hen_350, va_up_ne _ _ (by decide)]; exact e12_349
  have e13_350 : en_350 13 = .inl (cy 4, 9, .inr (.inr (.inr (.inr (fun j => some (ad_349 (34 + 4 * j))))))) := by rw [hen_350, va_up_ne _ _ (by decide)]; exact e13_349
  have e14_350 : en_350 14 = .inl (cy 7, 9, .inr (.inr (.inr (.inr (fun j => some (ad_349 (15 + j))))))) := by rw [hen_350, va_up_ne _ _ (by decide)]; exact e14_349
  have e16_350 : en_350 16 = .inl (cy 0, 6, .inl (fun _ => 0)) := by rw [hen_350, va_up_ne _ _ (by decide)]; exact e16_349
  have hv_350 : ∀ j, j < 9 → en_350 (34 + 4 * j) = .inr (5, [.ref (ad_349 (35 + 4 * j)), .ref (ad_349 (36 + 4 * j)), .ref (ad_349 (37 + 4 * j)), .int 0, .int 0, .int 0, .long 0, .long 0, .long 0, .long 0]) := fun j hj => by rw [hen_350, va_up_ne _ _ (fne2 34 4 0 (by decide))]; exact hv_349 j hj
  have et_350 : en_350 0 = .inr (10, [.ref q_345, .ref q_348, .null, .null, .null, .null, .int 0, .int 0]) := by rw [hen_350]; exact va_up_self _ _ _
  refine lv_aload_n hx hb dX11_init_30 rfl (lv_at hl 0 rfl) ?_
  refine hq_new (ci := 0) (fs := [.null, .null, .null, .null, .null, .null, .null, .int 0, .int 0, .int 0, .int 0, .int 0, .int 0]) hx hb hts ix0 tyX0 tyX0_ok hown (hts _ tw_141) (hts _ tw_142) (hts _ tw_5) hK hh hA rfl (fun j hj => by rcases (show j = 0 ∨ j = 1 ∨ j = 2 ∨ j = 3 ∨ j = 4 ∨ j = 5 ∨ j = 6 ∨ j = 7 ∨ j = 8 ∨ j = 9 ∨ j = 10 ∨ j = 11 ∨ j = 12 by omega) with rfl | rfl | rfl | rfl | rfl | rfl | rfl | rfl | rfl | rfl | rfl | rfl | rfl <;> rfl) (Nat.le_of_ble_eq_true rfl) (Nat.le_of_ble_eq_true rfl) dX11_init_31 (fun q_351 H ad_351 en_351 had_351 hen_351 hh => ?_)
  have hh : Hp D A A s.heap H _ (List.range 71) ad_351 en_351 := hh
  have et_351 : en_351 0 = .inr (10, [.ref q_345, .ref q_348, .null, .null, .null, .null, .int 0, .int 0]) := by rw [hen_351, va_up_ne _ _ (by decide)]; exact et_350
  have heta_351 : ad_351 0 = (ad 0) := by rw [had_351, va_up_ne _ _ (by decide)]; exact heta_349
  have e1_351 : en_351 1 = .inr (7, [.ref (ad_346 2), .ref (ad_346 3), .ref (ad_346 10), .ref (ad_346 11), .int 0, .int 2, .int 0]) := by rw [hen_351, va_up_ne _ _ (by decide)]; exact e1_350
  have he1a_351 : ad_351 1 = q_345 := by rw [had_351, va_up_ne _ _ (by decide)]; exact he1a_349
  have e10_351 : en_351 10 = .inl (cy 2, 36, .inl f_346) := by rw [hen_351, va_up_ne _ _ (by decide)]; exact e10_350
  have he10a_351 : ad_351 10 = (ad_346 10) := by rw [had_351, va_up_ne _ _ (by decide)]; exact he10a_349
  have hex2a_351 : ad_351 2 = (ad_346 2) := by rw [had_351, va_up_ne _ _ (by decide)]; exact hex2a_349
  have hex3a_351 : ad_351 3 = (ad_346 3) := by rw [had_351, va_up_ne _ _ (by decide)]; exact hex3a_349
  have hex11a_351 : ad_351 11 = (ad_346 11) := by rw [had_351, va_up_ne _ _ (by decide)]; exact hex11a_349
  have e12_351 : en_351 12 = .inr (2, [.ref (ad_349 1), .ref (ad_349 13), .ref (ad_349 14), .ref (ad_349 24), .ref (ad_349 33), .int 0]) := by rw [hen_351, va_up_ne _ _ (by decide)]; exact e12_350
  have he12a_351 : ad_351 12 = q_348 := by rw [had_351, va_up_ne _ _ (by decide)]; exact he12a_349
  have e13_351 : en_351 13 = .inl (cy 4, 9, .inr (.inr (.inr (.inr (fun j => some (ad_349 (34 + 4 * j))))))) := by rw [hen_351, va_up_ne _ _ (by decide)]; exact e13_350
  have he13a_351 : ad_351 13 = (ad_349 13) := by rw [had_351, va_up_ne _ _ (by decide)]
  have e14_351 : en_351 14 = .inl (cy 7, 9, .inr (.inr (.inr (.inr (fun j => some (ad_349 (15 + j))))))) := by rw [hen_351, va_up_ne _ _ (by decide)]; exact e14_350
  have he14a_351 : ad_351 14 = (ad_349 14) := by rw [had_351, va_up_ne _ _ (by decide)]
  have e16_351 : en_351 16 = .inl (cy 0, 6, .inl (fun _ => 0)) := by rw [hen_351, va_up_ne _ _ (by decide)]; exact e16_350
  have he16a_351 : ad_351 16 = (ad_349 16) := by rw [had_351, va_up_ne _ _ (by decide)]
  have hex24a_351 : ad_351 24 = (ad_349 24) := by rw [had_351, va_up_ne _ _ (by decide)]
  have hex33a_351 : ad_351 33 = (ad_349 33) := by rw [had_351, va_up_ne _ _ (by decide)]
  have hv_351 : ∀ j, j < 9 → en_351 (34 + 4 * j) = .inr (5, [.ref (ad_351 (35 + 4 * j)), .ref (ad_351 (36 + 4 * j)), .ref (ad_351 (37 + 4 * j)), .int 0, .int 0, .int 0, .long 0, .long 0, .long 0, .long 0]) := fun j hj => by rw [hen_351, va_up_ne _ _ (fne 34 4 70 hj (by decide)), had_351, va_up_ne _ _ (fne 35 4 70 hj (by decide)), va_up_ne _ _ (fne 36 4 70 hj (by decide)), va_up_ne _ _ (fne 37 4 70 hj (by decide))]; exact hv_350 j hj
  have e70_351 : en_351 70 = .inr (0, [.null, .null, .null, .null, .null, .null, .null, .int 0, .int 0, .int 0, .int 0, .int 0, .int 0]) := by rw [hen_351]; exact va_up_self _ _ _
  have he70a_351 : ad_351 70 = q_351 := by rw [had_351]; exact va_up_self _ _ _
  refine W.widen (k := 70) (n := 603) (Nat.le_refl _) (Nat.le_refl _) ?_
  refine lv_dup hx hb dX11_init_34 rfl ?_
  refine lv_aload_n hx hb dX11_init_35 rfl (lv_at hl 0 rfl) ?_
  refine hp_get hx hb hts ix11 hown hK hh (q := 0) heta_351 (List.mem_range.mpr (by decide)) et_351 rfl 0 (by decide) (hts _ tw_245) (fun _ h9 => h9) rfl dX11_init_36 ?_
  refine W.eq (g2 := F0 m 39 ls [.ref (ad_351 1), .ref (ad_351 70), .ref q_351, .ref (ad 0)]) (by rw [he1a_351, he70a_351]) ?_
  refine hq_callC (va_runI (As := [.ref (ad_351 1)]) (rest := [.ref q_351, .ref (ad 0)]) ⟨hx, hb, hml, hown, hts⟩ (c_X0_init l D cy _ ad_351 en_351 e70_351) (kw_X0_init hts tw_143 ⟨by decide, by decide⟩) (preC_of hh hK hX) rfl rfl hl.1 rfl (lv_room (Nat.le_of_ble_eq_true rfl)) dX11_init_39 ⟨Nat.le_of_ble_eq_true rfl, Nat.le_of_ble_eq_true rfl⟩) hh hA (fun H locs ad_352 en_352 hw_352 hh => ?_)
  have hh : Hp D A A s.heap H _ (List.range 74) ad_352 en_352 := hh
  obtain ⟨hda_352, hue_352, e70_352⟩ := hw_352
  dsimp only at hda_352 hue_352 e70_352
  have et_352 : en_352 0 = .inr (10, [.ref q_345, .ref q_348, .null, .null, .null, .null, .int 0, .int 0]) := by rw [hue_352 _ (by decide) (by decide)]; exact et_351
  have heta_352 : ad_352 0 = (ad 0) := by rw [hda_352 _ (by decide)]; exact heta_351
  have e1_352 : en_352 1 = .inr (7, [.ref (ad_346 2), .ref (ad_346 3), .ref (ad_346 10), .ref (ad_346 11), .int 0, .int 2, .int 0]) := by rw [hue_352 _ (by decide) (by decide)]; exact e1_351
  have he1a_352 : ad_352 1 = q_345 := by rw [hda_352 _ (by decide)]; exact he1a_351
  have e10_352 : en_352 10 = .inl (cy 2, 36, .inl f_346) := by rw [hue_352 _ (by decide) (by decide)]; exact e10_351
  have he10a_352 : ad_352 10 = (ad_346 10) := by rw [hda_352 _ (by decide)]; exact he10a_351
  have hex2a_352 : ad_352 2 = (ad_346 2) := by rw [hda_352 _ (by decide)]; exact hex2a_351
  have hex3a_352 : ad_352 3 = (ad_346 3) := by rw [hda_352 _ (by decide)]; exact hex3a_351
  have hex11a_352 : ad_352 11 = (ad_346 11) := by rw [hda_352 _ (by decide)]; exact hex11a_351
  have e12_352 : en_352 12 = .inr (2, [.ref (ad_349 1), .ref (ad_349 13), .ref (ad_349 14), .ref (ad_349 24), .ref (ad_349 33), .int 0]) := by rw [hue_352 _ (by decide) (by decide)]; exact e12_351
  have he12a_352 : ad_352 12 = q_348 := by rw [hda_352 _ (by decide)]; exact he12a_351
  have e13_352 : en_352 13 = .inl (cy 4, 9, .inr (.inr (.inr (.inr (fun j => some (ad_349 (34 + 4 * j))))))) := by rw [hue_352 _ (by decide) (by decide)]; exact e13_351
  have he13a_352 : ad_352 13 = (ad_349 13) := by rw [hda_352 _ (by decide)]; exact he13a_351
  have e14_352 : en_352 14 = .inl (cy 7, 9, .inr (.inr (.inr (.inr (fun j => some (ad_349 (15 + j))))))) := by rw [hue_352 _ (by decide) (by decide)]; exact e14_351
  have he14a_352 : ad_352 14 = (ad_349 14) := by rw [hda_352 _ (by decide)]; exact he14a_351
  have e16_352 : en_352 16 = .inl (cy 0, 6, .inl (fun _ => 0)) := by rw [hue_352 _ (by decide) (by decide)]; exact e16_351
  have he16a_352 : ad_352 16 = (ad_349 16) := by rw [hda_352 _ (by decide)]; exact he16a_351
  have hex24a_352 : ad_352 24 = (ad_349 24) := by rw [hda_352 _ (by decide)]; exact hex24a_351
  have hex33a_352 : ad_352 33 = (ad_349 33) := by rw [hda_352 _ (by decide)]; exact hex33a_351
  have he70a_352 : ad_352 70 = q_351 := by rw [hda_352 _ (by decide)]; exact he70a_351
  have hv_352 : ∀ j, j < 9 → en_352 (34 + 4 * j) = .inr (5, [.ref (ad_352 (35 + 4 * j)), .ref (ad_352 (36 + 4 * j)), .ref (ad_352 (37 + 4 * j)), .int 0, .int 0, .int 0, .long 0, .long 0, .long 0, .long 0]) := fun j hj => by rw [hue_352 _ (flt 34 4 71 hj (by decide)) (fne 34 4 70 hj (by decide)), hda_352 _ (flt 35 4 71 hj (by decide)), hda_352 _ (flt 36 4 71 hj (by decide)), hda_352 _ (flt 37 4 71 hj (by decide))]; exact hv_351 j hj
  refine W.widen (k := 73) (n := 630) (Nat.le_refl _) (Nat.le_refl _) ?_
  refine hp_putF hx hb hts ix11 tyX11 tyX11_ok nmX11 hown hK hh (q := 0) heta_352 (List.mem_range.mpr (by decide)) et_352 rfl 2 (by decide) (hts _ tw_247) (fun _ h9 => h9) rfl hin rfl (ty := (.object "AnyOrder$Closure")) (by decide +kernel) rfl rfl (Nat.le_of_ble_eq_true rfl) dX11_init_42 (fun H locs en_353 hen_353 hh => ?_)
  have e1_353 : en_353 1 = .inr (7, [.ref (ad_346 2), .ref (ad_346 3), .ref (ad_346 10), .ref (ad_346 11), .int 0, .int 2, .int 0]) := by rw [hen_353, va_up_ne _ _ (by decide)]; exact e1_352
  have e10_353 : en_353 10 = .inl (cy 2, 36, .inl f_346) := by rw [hen_353, va_up_ne _ _ (by decide)]; exact e10_352
  have e12_353 : en_353 12 = .inr (2, [.ref (ad_349 1), .ref (ad_349 13), .ref (ad_349 14), .ref (ad_349 24), .ref (ad_349 33), .int 0]) := by rw [hen_353, va_up_ne _ _ (by decide)]; exact e12_352
  have e13_353 : en_353 13 = .inl (cy 4, 9, .inr (.inr (.inr (.inr (fun j => some (ad_349 (34 + 4 * j))))))) := by rw [hen_353, va_up_ne _ _ (by decide)]; exact e13_352
  have e14_353 : en_353 14 = .inl (cy 7, 9, .inr (.inr (.inr (.inr (fun j => some (ad_349 (15 + j))))))) := by rw [hen_353, va_up_ne _ _ (by decide)]; exact e14_352
  have e16_353 : en_353 16 = .inl (cy 0, 6, .inl (fun _ => 0)) := by rw [hen_353, va_up_ne _ _ (by decide)]; exact e16_352
  have e70_353 : en_353 70 = .inr (0, [.ref (ad_352 1), .ref (ad_352 71), .ref (ad_352 72), .ref (ad_352 73), .null, .null, .null, .int 0, .int 0, .int 0, .int 0, .int 0, .int 0]) := by rw [hen_353, va_up_ne _ _ (by decide)]; exact e70_352
  have hv_353 : ∀ j, j < 9 → en_353 (34 + 4 * j) = .inr (5, [.ref (ad_352 (35 + 4 * j)), .ref (ad_352 (36 + 4 * j)), .ref (ad_352 (37 + 4 * j)), .int 0, .int 0, .int 0, .long 0, .long 0, .long 0, .long 0]) := fun j hj => by rw [hen_353, va_up_ne _ _ (fne2 34 4 0 (by decide))]; exact hv_352 j hj
  have et_353 : en_353 0 = .inr (10, [.ref q_345, .ref q_348, .ref q_351, .null, .null, .null, .int 0, .int 0]) := by rw [hen_353]; exact va_up_self _ _ _
  refine lv_aload_n hx hb dX11_init_45 rfl (lv_at hl 0 rfl) ?_
  refine lv_bipush (v := 10) hx hb dX11_init_46 (by decide) ?_
  refine hq_newq hx hb hown (hts _ tw_191) hX.2.2.1 hK hh hA 5 rfl (N' := 10) (by decide) (by decide) (by decide) (Nat.le_of_ble_eq_true rfl) (Nat.le_of_ble_eq_true rfl) dX11_init_48 (fun q_354 H ad_354 en_354 had_354 hen_354 hh => ?_)
  have hh : Hp D A A s.heap H _ (List.range 75) ad_354 en_354 := hh
  have et_354 : en_354 0 = .inr (10, [.ref q_345, .ref q_348, .ref q_351, .null, .null, .null, .int 0, .int 0]) := by rw [hen_354, va_up_ne _ _ (by decide)]; exact et_353
  have heta_354 : ad_354 0 = (ad 0) := by rw [had_354, va_up_ne _ _ (by decide)]; exact heta_352
  have e1_354 : en_354 1 = .inr (7, [.ref (ad_346 2), .ref (ad_346 3), .ref (ad_346 10), .ref (ad_346 11), .int 0, .int 2, .int 0]) := by rw [hen_354, va_up_ne _ _ (by decide)]; exact e1_353
  have he1a_354 : ad_354 1 = q_345 := by rw [had_354, va_up_ne _ _ (by decide)]; exact he1a_352
  have e10_354 : en_354 10 = .inl (cy 2, 36, .inl f_346) := by rw [hen_354, va_up_ne _ _ (by decide)]; exact e10_353
  have he10a_354 : ad_354 10 = (ad_346 10) := by rw [had_354, va_up_ne _ _ (by decide)]; exact he10a_352
  have hex2a_354 : ad_354 2 = (ad_346 2) := by rw [had_354, va_up_ne _ _ (by decide)]; exact hex2a_352
  have hex3a_354 : ad_354 3 = (ad_346 3) := by rw [had_354, va_up_ne _ _ (by decide)]; exact hex3a_352
  have hex11a_354 : ad_354 11 = (ad_346 11) := by rw [had_354, va_up_ne _ _ (by decide)]; exact hex11a_352
  have e12_354 : en_354 12 = .inr (2, [.ref (ad_349 1), .ref (ad_349 13), .ref (ad_349 14), .ref (ad_349 24), .ref (ad_349 33), .int 0]) := by rw [hen_354, va_up_ne _ _ (by decide)]; exact e12_353
  have he12a_354 : ad_354 12 = q_348 := by rw [had_354, va_up_ne _ _ (by decide)]; exact he12a_352
  have e13_354 : en_354 13 = .inl (cy 4, 9, .inr (.inr (.inr (.inr (fun j => some (ad_349 (34 + 4 * j))))))) := by rw [hen_354, va_up_ne _ _ (by decide)]; exact e13_353
  have he13a_354 : ad_354 13 = (ad_349 13) := by rw [had_354, va_up_ne _ _ (by decide)]; exact he13a_352
  have e14_354 : en_354 14 = .inl (cy 7, 9, .inr (.inr (.inr (.inr (fun j => some (ad_349 (15 + j))))))) := by rw [hen_354, va_up_ne _ _ (by decide)]; exact e14_353
  have he14a_354 : ad_354 14 = (ad_349 14) := by rw [had_354, va_up_ne _ _ (by decide)]; exact he14a_352
  have e16_354 : en_354 16 = .inl (cy 0, 6, .inl (fun _ => 0)) := by rw [hen_354, va_up_ne _ _ (by decide)]; exact e16_353
  have he16a_354 : ad_354 16 = (ad_349 16) := by rw [had_354, va_up_ne _ _ (by decide)]; exact he16a_352
  have hex24a_354 : ad_354 24 = (ad_349 24) := by rw [had_354, va_up_ne _ _ (by decide)]; exact hex24a_352
  have hex33a_354 : ad_354 33 = (ad_349 33) := by rw [had_354, va_up_ne _ _ (by decide)]; exact hex33a_352
  have e70_354 : en_354 70 = .inr (0, [.ref (ad_352 1), .ref (ad_352 71), .ref (ad_352 72), .ref (ad_352 73), .null, .null, .null, .int 0, .int 0, .int 0, .int 0, .int 0, .int 0]) := by rw [hen_354, va_up_ne _ _ (by decide)]; exact e70_353
  have he70a_354 : ad_354 70 = q_351 := by rw [had_354, va_up_ne _ _ (by decide)]; exact he70a_352
  have hex71a_354 : ad_354 71 = (ad_352 71) := by rw [had_354, va_up_ne _ _ (by decide)]
  have hex72a_354 : ad_354 72 = (ad_352 72) := by rw [had_354, va_up_ne _ _ (by decide)]
  have hex73a_354 : ad_354 73 = (ad_352 73) := by rw [had_354, va_up_ne _ _ (by decide)]
  have hv_354 : ∀ j, j < 9 → en_354 (34 + 4 * j) = .inr (5, [.ref (ad_354 (35 + 4 * j)), .ref (ad_354 (36 + 4 * j)), .ref (ad_354 (37 + 4 * j)), .int 0, .int 0, .int 0, .long 0, .long 0, .long 0, .long 0]) := fun j hj => by rw [hen_354, va_up_ne _ _ (fne 34 4 74 hj (by decide)), had_354, va_up_ne _ _ (fne 35 4 74 hj (by decide)), va_up_ne _ _ (fne 36 4 74 hj (by decide)), va_up_ne _ _ (fne 37 4 74 hj (by decide))]; exact hv_353 j hj
  have e74_354 : en_354 74 = .inl (cy 5, 10, .inr (.inr (.inr (.inr (fun _ => none))))) := by rw [hen_354]; exact va_up_self _ _ _
  have he74a_354 : ad_354 74 = q_354 := by rw [had_354]; exact va_up_self _ _ _
  refine W.widen (k := 74) (n := 640) (Nat.le_refl _) (Nat.le_refl _) ?_
  refine hp_putF hx hb hts ix11 tyX11 tyX11_ok nmX11 hown hK hh (q := 0) heta_354 (List.mem_range.mpr (by decide)) et_354 rfl 3 (by decide) (hts _ tw_248) (fun _ h9 => h9) rfl hin rfl (ty := (.array (.object "AnyOrder$Word"))) (by decide +kernel) rfl rfl (Nat.le_of_ble_eq_true rfl) dX11_init_51 (fun H locs en_355 hen_355 hh => ?_)
  have e1_355 : en_355 1 = .inr (7, [.ref (ad_346 2), .ref (ad_346 3), .ref (ad_346 10), .ref (ad_346 11), .int 0, .int 2, .int 0]) := by rw [hen_355, va_up_ne _ _ (by decide)]; exact e1_354
  have e10_355 : en_355 10 = .inl (cy 2, 36, .inl f_346) := by rw [hen_355, va_up_ne _ _ (by decide)]; exact e10_354
  have e12_355 : en_355 12 = .inr (2, [.ref (ad_349 1), .ref (ad_349 13), .ref (ad_349 14), .ref (ad_349 24), .ref (ad_349 33), .int 0]) := by rw [hen_355, va_up_ne _ _ (by decide)]; exact e12_354
  have e13_355 : en_355 13 = .inl (cy 4, 9, .inr (.inr (.inr (.inr (fun j => some (ad_349 (34 + 4 * j))))))) := by rw [hen_355, va_up_ne _ _ (by decide)]; exact e13_354
  have e14_355 : en_355 14 = .inl (cy 7, 9, .inr (.inr (.inr (.inr (fun j => some (ad_349 (15 + j))))))) := by rw [hen_355, va_up_ne _ _ (by decide)]; exact e14_354
  have e16_355 : en_355 16 = .inl (cy 0, 6, .inl (fun _ => 0)) := by rw [hen_355, va_up_ne _ _ (by decide)]; exact e16_354
  have e70_355 : en_355 70 = .inr (0, [.ref (ad_352 1), .ref (ad_352 71), .ref (ad_352 72), .ref (ad_352 73), .null, .null, .null, .int 0, .int 0, .int 0, .int 0, .int 0, .int 0]) := by rw [hen_355, va_up_ne _ _ (by decide)]; exact e70_354
  have e74_355 : en_355 74 = .inl (cy 5, 10, .inr (.inr (.inr (.inr (fun _ => none))))) := by rw [hen_355, va_up_ne _ _ (by decide)]; exact e74_354
  have hv_355 : ∀ j, j < 9 → en_355 (34 + 4 * j) = .inr (5, [.ref (ad_354 (35 + 4 * j)), .ref (ad_354 (36 + 4 * j)), .ref (ad_354 (37 + 4 * j)), .int 0, .int 0, .int 0, .long 0, .long 0, .long 0, .long 0]) := fun j hj => by rw [hen_355, va_up_ne _ _ (fne2 34 4 0 (by decide))]; exact hv_354 j hj
  have et_355 : en_355 0 = .inr (10, [.ref q_345, .ref q_348, .ref q_351, .ref q_354, .null, .null, .int 0, .int 0]) := by rw [hen_355]; exact va_up_self _ _ _
  refine lv_aload_n hx hb dX11_init_54 rfl (lv_at hl 0 rfl) ?_
  refine lv_iconst (v := 4) hx hb dX11_init_55 (by decide) ?_
  refine hq_newq hx hb hown (hts _ tw_193) hX.2.2.2.1 hK hh hA 6 rfl (N' := 4) (by decide) (by decide) (by decide) (Nat.le_of_ble_eq_true rfl) (Nat.le_of_ble_eq_true rfl) dX11_init_56 (fun q_356 H ad_356 en_356 had_356 hen_356 hh => ?_)
  have hh : Hp D A A s.heap H _ (List.range 76) ad_356 en_356 := hh
  have et_356 : en_356 0 = .inr (10, [.ref q_345, .ref q_348, .ref q_351, .ref q_354, .null, .null, .int 0, .int 0]) := by rw [hen_356, va_up_ne _ _ (by decide)]; exact et_355
  have heta_356 : ad_356 0 = (ad 0) := by rw [had_356, va_up_ne _ _ (by decide)]; exact heta_354
  have e1_356 : en_356 1 = .inr (7, [.ref (ad_346 2), .ref (ad_346 3), .ref (ad_346 10), .ref (ad_346 11), .int 0, .int 2, .int 0]) := by rw [hen_356, va_up_ne _ _ (by decide)]; exact e1_355
  have he1a_356 : ad_356 1 = q_345 := by rw [had_356, va_up_ne _ _ (by decide)]; exact he1a_354
  have e10_356 : en_356 10 = .inl (cy 2, 36, .inl f_346) := by rw [hen_356, va_up_ne _ _ (by decide)]; exact e10_355
  have he10a_356 : ad_356 10 = (ad_346 10) := by rw [had_356, va_up_ne _ _ (by decide)]; exact he10a_354
  have hex2a_356 : ad_356 2 = (ad_346 2) := by rw [had_356, va_up_ne _ _ (by decide)]; exact hex2a_354
  have hex3a_356 : ad_356 3 = (ad_346 3) := by rw [had_356, va_up_ne _ _ (by decide)]; exact hex3a_354
  have hex11a_356 : ad_356 11 = (ad_346 11) := by rw [had_356, va_up_ne _ _ (by decide)]; exact hex11a_354
  have e12_356 : en_356 12 = .inr (2, [.ref (ad_349 1), .ref (ad_349 13), .ref (ad_349 14), .ref (ad_349 24), .ref (ad_349 33), .int 0]) := by rw [hen_356, va_up_ne _ _ (by decide)]; exact e12_355
  have he12a_356 : ad_356 12 = q_348 := by rw [had_356, va_up_ne _ _ (by decide)]; exact he12a_354
  have e13_356 : en_356 13 = .inl (cy 4, 9, .inr (.inr (.inr (.inr (fun j => some (ad_349 (34 + 4 * j))))))) := by rw [hen_356, va_up_ne _ _ (by decide)]; exact e13_355
  have he13a_356 : ad_356 13 = (ad_349 13) := by rw [had_356, va_up_ne _ _ (by decide)]; exact he13a_354
  have e14_356 : en_356 14 = .inl (cy 7, 9, .inr (.inr (.inr (.inr (fun j => some (ad_349 (15 + j))))))) := by rw [hen_356, va_up_ne _ _ (by decide)]; exact e14_355
  have he14a_356 : ad_356 14 = (ad_349 14) := by rw [had_356, va_up_ne _ _ (by decide)]; exact he14a_354
  have e16_356 : en_356 16 = .inl (cy 0, 6, .inl (fun _ => 0)) := by rw [hen_356, va_up_ne _ _ (by decide)]; exact e16_355
  have he16a_356 : ad_356 16 = (ad_349 16) := by rw [had_356, va_up_ne _ _ (by decide)]; exact he16a_354
  have hex24a_356 : ad_356 24 = (ad_349 24) := by rw [had_356, va_up_ne _ _ (by decide)]; exact hex24a_354
  have hex33a_356 : ad_356 33 = (ad_349 33) := by rw [had_356, va_up_ne _ _ (by decide)]; exact hex33a_354
  have e70_356 : en_356 70 = .inr (0, [.ref (ad_352 1), .ref (ad_352 71), .ref (ad_352 72), .ref (ad_352 73), .null, .null, .null, .int 0, .int 0, .int 0, .int 0, .int 0, .int 0]) := by rw [hen_356, va_up_ne _ _ (by decide)]; exact e70_355
  have he70a_356 : ad_356 70 = q_351 := by rw [had_356, va_up_ne _ _ (by decide)]; exact he70a_354
  have hex71a_356 : ad_356 71 = (ad_352 71) := by rw [had_356, va_up_ne _ _ (by decide)]; exact hex71a_354
  have hex72a_356 : ad_356 72 = (ad_352 72) := by rw [had_356, va_up_ne _ _ (by decide)]; exact hex72a_354
  have hex73a_356 : ad_356 73 = (ad_352 73) := by rw [had_356, va_up_ne _ _ (by decide)]; exact hex73a_354
  have e74_356 : en_356 74 = .inl (cy 5, 10, .inr (.inr (.inr (.inr (fun _ => none))))) := by rw [hen_356, va_up_ne _ _ (by decide)]; exact e74_355
  have he74a_356 : ad_356 74 = q_354 := by rw [had_356, va_up_ne _ _ (by decide)]; exact he74a_354
  have hv_356 : ∀ j, j < 9 → en_356 (34 + 4 * j) = .inr (5, [.ref (ad_356 (35 + 4 * j)), .ref (ad_356 (36 + 4 * j)), .ref (ad_356 (37 + 4 * j)), .int 0, .int 0, .int 0, .long 0, .long 0, .long 0, .long 0]) := fun j hj => by rw [hen_356, va_up_ne _ _ (fne 34 4 75 hj (by decide)), had_356, va_up_ne _ _ (fne 35 4 75 hj (by decide)), va_up_ne _ _ (fne 36 4 75 hj (by decide)), va_up_ne _ _ (fne 37 4 75 hj (by decide))]; exact hv_355 j hj
  have e75_356 : en_356 75 = .inl (cy 6, 4, .inr (.inr (.inr (.inr (fun _ => none))))) := by rw [hen_356]; exact va_up_self _ _ _
  have he75a_356 : ad_356 75 = q_356 := by rw [had_356]; exact va_up_self _ _ _
  refine W.widen (k := 75) (n := 644) (Nat.le_refl _) (Nat.le_refl _) ?_
  refine hp_putF hx hb hts ix11 tyX11 tyX11_ok nmX11 hown hK hh (q := 0) heta_356 (List.mem_range.mpr (by decide)) et_356 rfl 4 (by decide) (hts _ tw_249) (fun _ h9 => h9) rfl hin rfl (ty := (.array (.object "AnyOrder$Sheet"))) (by decide +kernel) rfl rfl (Nat.le_of_ble_eq_true rfl) dX11_init_59 (fun H locs en_357 hen_357 hh => ?_)
  have e1_357 : en_357 1 = .inr (7, [.ref (ad_346 2), .ref (ad_346 3), .ref (ad_346 10), .ref (ad_346 11), .int 0, .int 2, .int 0]) := by rw [hen_357, va_up_ne _ _ (by decide)]; exact e1_356
  have e10_357 : en_357 10 = .inl (cy 2, 36, .inl f_346) := by rw [hen_357, va_up_ne _ _ (by decide)]; exact e10_356
  have e12_357 : en_357 12 = .inr (2, [.ref (ad_349 1), .ref (ad_349 13), .ref (ad_349 14), .ref (ad_349 24), .ref (ad_349 33), .int 0]) := by rw [hen_357, va_up_ne _ _ (by decide)]; exact e12_356
  have e13_357 : en_357 13 = .inl (cy 4, 9, .inr (.inr (.inr (.inr (fun j => some (ad_349 (34 + 4 * j))))))) := by rw [hen_357, va_up_ne _ _ (by decide)]; exact e13_356
  have e14_357 : en_357 14 = .inl (cy 7, 9, .inr (.inr (.inr (.inr (fun j => some (ad_349 (15 + j))))))) := by rw [hen_357, va_up_ne _ _ (by decide)]; exact e14_356
  have e16_357 : en_357 16 = .inl (cy 0, 6, .inl (fun _ => 0)) := by rw [hen_357, va_up_ne _ _ (by decide)]; exact e16_356
  have e70_357 : en_357 70 = .inr (0, [.ref (ad_352 1), .ref (ad_352 71), .ref (ad_352 72), .ref (ad_352 73), .null, .null, .null, .int 0, .int 0, .int 0, .int 0, .int 0, .int 0]) := by rw [hen_357, va_up_ne _ _ (by decide)]; exact e70_356
  have e74_357 : en_357 74 = .inl (cy 5, 10, .inr (.inr (.inr (.inr (fun _ => none))))) := by rw [hen_357, va_up_ne _ _ (by decide)]; exact e74_356
  have e75_357 : en_357 75 = .inl (cy 6, 4, .inr (.inr (.inr (.inr (fun _ => none))))) := by rw [hen_357, va_up_ne _ _ (by decide)]; exact e75_356
  have hv_357 : ∀ j, j < 9 → en_357 (34 + 4 * j) = .inr (5, [.ref (ad_356 (35 + 4 * j)), .ref (ad_356 (36 + 4 * j)), .ref (ad_356 (37 + 4 * j)), .int 0, .int 0, .int 0, .long 0, .long 0, .long 0, .long 0]) := fun j hj => by rw [hen_357, va_up_ne _ _ (fne2 34 4 0 (by decide))]; exact hv_356 j hj
  have et_357 : en_357 0 = .inr (10, [.ref q_345, .ref q_348, .ref q_351, .ref q_354, .ref q_356, .null, .int 0, .int 0]) := by rw [hen_357]; exact va_up_self _ _ _
  refine lv_aload_n hx hb dX11_init_62 rfl (lv_at hl 0 rfl) ?_
  refine hq_new (ci := 8) (fs := [.int 0]) hx hb hts ix9 tyX9 tyX9_ok hown (hts _ tw_195) (hts _ tw_196) (hts _ tw_6) hK hh hA rfl (fun j hj => by rcases (show j = 0 by omega) with rfl <;> rfl) (Nat.le_of_ble_eq_true rfl) (Nat.le_of_ble_eq_true rfl) dX11_init_63 (fun q_358 H ad_358 en_358 had_358 hen_358 hh => ?_)
  have hh : Hp D A A s.heap H _ (List.range 77) ad_358 en_358 := hh
  have et_358 : en_358 0 = .inr (10, [.ref q_345, .ref q_348, .ref q_351, .ref q_354, .ref q_356, .null, .int 0, .int 0]) := by rw [hen_358, va_up_ne _ _ (by decide)]; exact et_357
  have heta_358 : ad_358 0 = (ad 0) := by rw [had_358, va_up_ne _ _ (by decide)]; exact heta_356
  have e1_358 : en_358 1 = .inr (7, [.ref (ad_346 2), .ref (ad_346 3), .ref (ad_346 10), .ref (ad_346 11), .int 0, .int 2, .int 0]) := by rw [hen_358, va_up_ne _ _ (by decide)]; exact e1_357
  have he1a_358 : ad_358 1 = q_345 := by rw [had_358, va_up_ne _ _ (by decide)]; exact he1a_356
  have e10_358 : en_358 10 = .inl (cy 2, 36, .inl f_346) := by rw [hen_358, va_up_ne _ _ (by decide)]; exact e10_357
  have he10a_358 : ad_358 10 = (ad_346 10) := by rw [had_358, va_up_ne _ _ (by decide)]; exact he10a_356
  have hex2a_358 : ad_358 2 = (ad_346 2) := by rw [had_358, va_up_ne _ _ (by decide)]; exact hex2a_356
  have hex3a_358 : ad_358 3 = (ad_346 3) := by rw [had_358, va_up_ne _ _ (by decide)]; exact hex3a_356
  have hex11a_358 : ad_358 11 = (ad_346 11) := by rw [had_358, va_up_ne _ _ (by decide)]; exact hex11a_356
  have e12_358 : en_358 12 = .inr (2, [.ref (ad_349 1), .ref (ad_349 13), .ref (ad_349 14), .ref (ad_349 24), .ref (ad_349 33), .int 0]) := by rw [hen_358, va_up_ne _ _ (by decide)]; exact e12_357
  have he12a_358 : ad_358 12 = q_348 := by rw [had_358, va_up_ne _ _ (by decide)]; exact he12a_356
  have e13_358 : en_358 13 = .inl (cy 4, 9, .inr (.inr (.inr (.inr (fun j => some (ad_349 (34 + 4 * j))))))) := by rw [hen_358, va_up_ne _ _ (by decide)]; exact e13_357
  have he13a_358 : ad_358 13 = (ad_349 13) := by rw [had_358, va_up_ne _ _ (by decide)]; exact he13a_356
  have e14_358 : en_358 14 = .inl (cy 7, 9, .inr (.inr (.inr (.inr (fun j => some (ad_349 (15 + j))))))) := by rw [hen_358, va_up_ne _ _ (by decide)]; exact e14_357
  have he14a_358 : ad_358 14 = (ad_349 14) := by rw [had_358, va_up_ne _ _ (by decide)]; exact he14a_356
  have e16_358 : en_358 16 = .inl (cy 0, 6, .inl (fun _ => 0)) := by rw [hen_358, va_up_ne _ _ (by decide)]; exact e16_357
  have he16a_358 : ad_358 16 = (ad_349 16) := by rw [had_358, va_up_ne _ _ (by decide)]; exact he16a_356
  have hex24a_358 : ad_358 24 = (ad_349 24) := by rw [had_358, va_up_ne _ _ (by decide)]; exact hex24a_356
  have hex33a_358 : ad_358 33 = (ad_349 33) := by rw [had_358, va_up_ne _ _ (by decide)]; exact hex33a_356
  have e70_358 : en_358 70 = .inr (0, [.ref (ad_352 1), .ref (ad_352 71), .ref (ad_352 72), .ref (ad_352 73), .null, .null, .null, .int 0, .int 0, .int 0, .int 0, .int 0, .int 0]) := by rw [hen_358, va_up_ne _ _ (by decide)]; exact e70_357
  have he70a_358 : ad_358 70 = q_351 := by rw [had_358, va_up_ne _ _ (by decide)]; exact he70a_356
  have hex71a_358 : ad_358 71 = (ad_352 71) := by rw [had_358, va_up_ne _ _ (by decide)]; exact hex71a_356
  have hex72a_358 : ad_358 72 = (ad_352 72) := by rw [had_358, va_up_ne _ _ (by decide)]; exact hex72a_356
  have hex73a_358 : ad_358 73 = (ad_352 73) := by rw [had_358, va_up_ne _ _ (by decide)]; exact hex73a_356
  have e74_358 : en_358 74 = .inl (cy 5, 10, .inr (.inr (.inr (.inr (fun _ => none))))) := by rw [hen_358, va_up_ne _ _ (by decide)]; exact e74_357
  have he74a_358 : ad_358 74 = q_354 := by rw [had_358, va_up_ne _ _ (by decide)]; exact he74a_356
  have e75_358 : en_358 75 = .inl (cy 6, 4, .inr (.inr (.inr (.inr (fun _ => none))))) := by rw [hen_358, va_up_ne _ _ (by decide)]; exact e75_357
  have he75a_358 : ad_358 75 = q_356 := by rw [had_358, va_up_ne _ _ (by decide)]; exact he75a_356
  have hv_358 : ∀ j, j < 9 → en_358 (34 + 4 * j) = .inr (5, [.ref (ad_358 (35 + 4 * j)), .ref (ad_358 (36 + 4 * j)), .ref (ad_358 (37 + 4 * j)), .int 0, .int 0, .int 0, .long 0, .long 0, .long 0, .long 0]) := fun j hj => by rw [hen_358, va_up_ne _ _ (fne 34 4 76 hj (by decide)), had_358, va_up_ne _ _ (fne 35 4 76 hj (by decide)), va_up_ne _ _ (fne 36 4 76 hj (by decide)), va_up_ne _ _ (fne 37 4 76 hj (by decide))]; exact hv_357 j hj
  have e76_358 : en_358 76 = .inr (8, [.int 0]) := by rw [hen_358]; exact va_up_self _ _ _
  have he76a_358 : ad_358 76 = q_358 := by rw [had_358]; exact va_up_self _ _ _
  refine W.widen (k := 76) (n := 645) (Nat.le_refl _) (Nat.le_refl _) ?_
  refine lv_dup hx hb dX11_init_66 rfl ?_
  refine W.eq (g2 := F0 m 67 ls [.ref (ad_358 76), .ref q_358, .ref (ad 0)]) (by rw [he76a_358]) ?_
  refine hq_callC (va_runIN (As := []) (rest := [.ref q_358, .ref (ad 0)]) ⟨hx, hb, hml, hown, hts⟩ (c_X9_init l D cy _ ad_358 en_358 77 76 (by decide) e76_358) (kw_X9_init hts hX.2.2.2.2.2.2.2.1 ⟨by decide, by decide⟩) (preC_of hh hK hX) rfl rfl hl.1 rfl (lv_room (Nat.le_of_ble_eq_true rfl)) dX11_init_67 ⟨Nat.le_of_ble_eq_true rfl, Nat.le_of_ble_eq_true rfl⟩) hh hA (fun H locs ad_359 en_359 hw_359 hh => ?_)
  have hh : Hp D A A s.heap H _ (List.range 77) ad_359 en_359 := hh
  obtain ⟨hda_359, hue_359, ew_359⟩ := hw_359
  dsimp only at hda_359 hue_359 ew_359
  have et_359 : en_359 0 = .inr (10, [.ref q_345, .ref q_348, .ref q_351, .ref q_354, .ref q_356, .null, .int 0, .int 0]) := by rw [hue_359 _ (by decide) (by decide)]; exact et_358
  have heta_359 : ad_359 0 = (ad 0) := by rw [hda_359 _ (by decide)]; exact heta_358
  have e1_359 : en_359 1 = .inr (7, [.ref (ad_346 2), .ref (ad_346 3), .ref (ad_346 10), .ref (ad_346 11), .int 0, .int 2, .int 0]) := by rw [hue_359 _ (by decide) (by decide)]; exact e1_358
  have he1a_359 : ad_359 1 = q_345 := by rw [hda_359 _ (by decide)]; exact he1a_358
  have e10_359 : en_359 10 = .inl (cy 2, 36, .inl f_346) := by rw [hue_359 _ (by decide) (by decide)]; exact e10_358
  have he10a_359 : ad_359 10 = (ad_346 10) := by rw [hda_359 _ (by decide)]; exact he10a_358
  have hex2a_359 : ad_359 2 = (ad_346 2) := by rw [hda_359 _ (by decide)]; exact hex2a_358
  have hex3a_359 : ad_359 3 = (ad_346 3) := by rw [hda_359 _ (by decide)]; exact hex3a_358
  have hex11a_359 : ad_359 11 = (ad_346 11) := by rw [hda_359 _ (by decide)]; exact hex11a_358
  have e12_359 : en_359 12 = .inr (2, [.ref (ad_349 1), .ref (ad_349 13), .ref (ad_349 14), .ref (ad_349 24), .ref (ad_349 33), .int 0]) := by rw [hue_359 _ (by decide) (by decide)]; exact e12_358
  have he12a_359 : ad_359 12 = q_348 := by rw [hda_359 _ (by decide)]; exact he12a_358
  have e13_359 : en_359 13 = .inl (cy 4, 9, .inr (.inr (.inr (.inr (fun j => some (ad_349 (34 + 4 * j))))))) := by rw [hue_359 _ (by decide) (by decide)]; exact e13_358
  have he13a_359 : ad_359 13 = (ad_349 13) := by rw [hda_359 _ (by decide)]; exact he13a_358
  have e14_359 : en_359 14 = .inl (cy 7, 9, .inr (.inr (.inr (.inr (fun j => some (ad_349 (15 + j))))))) := by rw [hue_359 _ (by decide) (by decide)]; exact e14_358
  have he14a_359 : ad_359 14 = (ad_349 14) := by rw [hda_359 _ (by decide)]; exact he14a_358
  have e16_359 : en_359 16 = .inl (cy 0, 6, .inl (fun _ => 0)) := by rw [hue_359 _ (by decide) (by decide)]; exact e16_358
  have he16a_359 : ad_359 16 = (ad_349 16) := by rw [hda_359 _ (by decide)]; exact he16a_358
  have hex24a_359 : ad_359 24 = (ad_349 24) := by rw [hda_359 _ (by decide)]; exact hex24a_358
  have hex33a_359 : ad_359 33 = (ad_349 33) := by rw [hda_359 _ (by decide)]; exact hex33a_358
  have e70_359 : en_359 70 = .inr (0, [.ref (ad_352 1), .ref (ad_352 71), .ref (ad_352 72), .ref (ad_352 73), .null, .null, .null, .int 0, .int 0, .int 0, .int 0, .int 0, .int 0]) := by rw [hue_359 _ (by decide) (by decide)]; exact e70_358
  have he70a_359 : ad_359 70 = q_351 := by rw [hda_359 _ (by decide)]; exact he70a_358
  have hex71a_359 : ad_359 71 = (ad_352 71) := by rw [hda_359 _ (by decide)]; exact hex71a_358
  have hex72a_359 : ad_359 72 = (ad_352 72) := by rw [hda_359 _ (by decide)]; exact hex72a_358
  have hex73a_359 : ad_359 73 = (ad_352 73) := by rw [hda_359 _ (by decide)]; exact hex73a_358
  have e74_359 : en_359 74 = .inl (cy 5, 10, .inr (.inr (.inr (.inr (fun _ => none))))) := by rw [hue_359 _ (by decide) (by decide)]; exact e74_358
  have he74a_359 : ad_359 74 = q_354 := by rw [hda_359 _ (by decide)]; exact he74a_358
  have e75_359 : en_359 75 = .inl (cy 6, 4, .inr (.inr (.inr (.inr (fun _ => none))))) := by rw [hue_359 _ (by decide) (by decide)]; exact e75_358
  have he75a_359 : ad_359 75 = q_356 := by rw [hda_359 _ (by decide)]; exact he75a_358
  have he76a_359 : ad_359 76 = q_358 := by rw [hda_359 _ (by decide)]; exact he76a_358
  have hv_359 : ∀ j, j < 9 → en_359 (34 + 4 * j) = .inr (5, [.ref (ad_359 (35 + 4 * j)), .ref (ad_359 (36 + 4 * j)), .ref (ad_359 (37 + 4 * j)), .int 0, .int 0, .int 0, .long 0, .long 0, .long 0, .long 0]) := fun j hj => by rw [hue_359 _ (flt 34 4 77 hj (by decide)) (fne 34 4 76 hj (by decide)), hda_359 _ (flt 35 4 77 hj (by decide)), hda_359 _ (flt 36 4 77 hj (by decide)), hda_359 _ (flt 37 4 77 hj (by decide))]; exact hv_358 j hj
  have ew76_359 := ew_359
  refine W.widen (k := 76) (n := 645) (Nat.le_refl _) (Nat.le_refl _) ?_
  refine hp_putF hx hb hts ix11 tyX11 tyX11_ok nmX11 hown hK hh (q := 0) heta_359 (List.mem_range.mpr (by decide)) et_359 rfl 5 (by decide) (hts _ tw_250) (fun _ h9 => h9) rfl hin rfl (ty := (.object "AnyOrder$Trail")) (by decide +kernel) rfl rfl (Nat.le_of_ble_eq_true rfl) dX11_init_70 (fun H locs en_360 hen_360 hh => ?_)
  have e1_360 : en_360 1 = .inr (7, [.ref (ad_346 2), .ref (ad_346 3), .ref (ad_346 10), .ref (ad_346 11), .int 0, .int 2, .int 0]) := by rw [hen_360, va_up_ne _ _ (by decide)]; exact e1_359
  have e10_360 : en_360 10 = .inl (cy 2, 36, .inl f_346) := by rw [hen_360, va_up_ne _ _ (by decide)]; exact e10_359
  have e12_360 : en_360 12 = .inr (2, [.ref (ad_349 1), .ref (ad_349 13), .ref (ad_349 14), .ref (ad_349 24), .ref (ad_349 33), .int 0]) := by rw [hen_360, va_up_ne _ _ (by decide)]; exact e12_359
  have e13_360 : en_360 13 = .inl (cy 4, 9, .inr (.inr (.inr (.inr (fun j => some (ad_349 (34 + 4 * j))))))) := by rw [hen_360, va_up_ne _ _ (by decide)]; exact e13_359
  have e14_360 : en_360 14 = .inl (cy 7, 9, .inr (.inr (.inr (.inr (fun j => some (ad_349 (15 + j))))))) := by rw [hen_360, va_up_ne _ _ (by decide)]; exact e14_359
  have e16_360 : en_360 16 = .inl (cy 0, 6, .inl (fun _ => 0)) := by rw [hen_360, va_up_ne _ _ (by decide)]; exact e16_359
  have e70_360 : en_360 70 = .inr (0, [.ref (ad_352 1), .ref (ad_352 71), .ref (ad_352 72), .ref (ad_352 73), .null, .null, .null, .int 0, .int 0, .int 0, .int 0, .int 0, .int 0]) := by rw [hen_360, va_up_ne _ _ (by decide)]; exact e70_359
  have e74_360 : en_360 74 = .inl (cy 5, 10, .inr (.inr (.inr (.inr (fun _ => none))))) := by rw [hen_360, va_up_ne _ _ (by decide)]; exact e74_359
  have e75_360 : en_360 75 = .inl (cy 6, 4, .inr (.inr (.inr (.inr (fun _ => none))))) := by rw [hen_360, va_up_ne _ _ (by decide)]; exact e75_359
  have ew76_360 : en_360 76 = .inr (8, [.int 0]) := by rw [hen_360, va_up_ne _ _ (by decide)]; exact ew76_359
  have hv_360 : ∀ j, j < 9 → en_360 (34 + 4 * j) = .inr (5, [.ref (ad_359 (35 + 4 * j)), .ref (ad_359 (36 + 4 * j)), .ref (ad_359 (37 + 4 * j)), .int 0, .int 0, .int 0, .long 0, .long 0, .long 0, .long 0]) := fun j hj => by rw [hen_360, va_up_ne _ _ (fne2 34 4 0 (by decide))]; exact hv_359 j hj
  have et_360 : en_360 0 = .inr (10, [.ref q_345, .ref q_348, .ref q_351, .ref q_354, .ref q_356, .ref q_358, .int 0, .int 0]) := by rw [hen_360]; exact va_up_self _ _ _
  refine lv_iconst (v := 0) hx hb dX11_init_73 (by decide) ?_
  refine lv_istore_n (lv' := [(1, .int 0), (0, .ref (ad 0))]) hx hb dX11_init_74 rfl hl (by decide) rfl (fun ls hl => ?_)
  refine lv_iload_n hx hb dX11_init_75 rfl (lv_at hl 0 rfl) ?_
  refine lv_bipush (v := 10) hx hb dX11_init_76 (by decide) ?_
  refine lv_icmp_ge (tgt := 100) hx hb dX11_init_78 (by decide) (fun c_0 => absurd c_0 (by decide)) (fun _ => ?_)
  refine lv_aload_n hx hb dX11_init_81 rfl (lv_at hl 1 rfl) ?_
  refine hp_get hx hb hts ix11 hown hK hh (q := 0) heta_359 (List.mem_range.mpr (by decide)) et_360 rfl 3 (by decide) (hts _ tw_248) (fun _ h9 => h9) rfl dX11_init_82 ?_
  refine lv_iload_n hx hb dX11_init_85 rfl (lv_at hl 0 rfl) ?_
  refine hq_new (ci := 9) (fs := [.null, .null, .int 0]) hx hb hts ix10 tyX10 tyX10_ok hown (hts _ tw_191) (hts _ tw_206) (hts _ tw_7) hK hh hA rfl (fun j hj => by rcases (show j = 0 ∨ j = 1 ∨ j = 2 by omega) with rfl | rfl | rfl <;> rfl) (Nat.le_of_ble_eq_true rfl) (Nat.le_of_ble_eq_true rfl) dX11_init_86 (fun q_361 H ad_361 en_361 had_361 hen_361 hh => ?_)
  have hh : Hp D A A s.heap H _ (List.range 78) ad_361 en_361 := hh
  have et_361 : en_361 0 = .inr (10, [.ref q_345, .ref q_348, .ref q_351, .ref q_354, .ref q_356, .ref q_358, .int 0, .int 0]) := by rw [hen_361, va_up_ne _ _ (by decide)]; exact et_360
  have heta_361 : ad_361 0 = (ad 0) := by rw [had_361, va_up_ne _ _ (by decide)]; exact heta_359
  have e1_361 : en_361 1 = .inr (7, [.ref (ad_346 2), .ref (ad_346 3), .ref (ad_346 10), .ref (ad_346 11), .int 0, .int 2, .int 0]) := by rw [hen_361, va_up_ne _ _ (by decide)]; exact e1_360
  have he1a_361 : ad_361 1 = q_345 := by rw [had_361, va_up_ne _ _ (by decide)]; exact he1a_359
  have e10_361 : en_361 10 = .inl (cy 2, 36, .inl f_346) := by rw [hen_361, va_up_ne _ _ (by decide)]; exact e10_360
  have he10a_361 : ad_361 10 = (ad_346 10) := by rw [had_361, va_up_ne _ _ (by decide)]; exact he10a_359
  have hex2a_361 : ad_361 2 = (ad_346 2) := by rw [had_361, va_up_ne _ _ (by decide)]; exact hex2a_359
  have hex3a_361 : ad_361 3 = (ad_346 3) := by rw [had_361, va_up_ne _ _ (by decide)]; exact hex3a_359
  have hex11a_361 : ad_361 11 = (ad_346 11) := by rw [had_361, va_up_ne _ _ (by decide)]; exact hex11a_359
  have e12_361 : en_361 12 = .inr (2, [.ref (ad_349 1), .ref (ad_349 13), .ref (ad_349 14), .ref (ad_349 24), .ref (ad_349 33), .int 0]) := by rw [hen_361, va_up_ne _ _ (by decide)]; exact e12_360
  have he12a_361 : ad_361 12 = q_348 := by rw [had_361, va_up_ne _ _ (by decide)]; exact he12a_359
  have e13_361 : en_361 13 = .inl (cy 4, 9, .inr (.inr (.inr (.inr (fun j => some (ad_349 (34 + 4 * j))))))) := by rw [hen_361, va_up_ne _ _ (by decide)]; exact e13_360
  have he13a_361 : ad_361 13 = (ad_349 13) := by rw [had_361, va_up_ne _ _ (by decide)]; exact he13a_359
  have e14_361 : en_361 14 = .inl (cy 7, 9, .inr (.inr (.inr (.inr (fun j => some (ad_349 (15 + j))))))) := by rw [hen_361, va_up_ne _ _ (by decide)]; exact e14_360
  have he14a_361 : ad_361 14 = (ad_349 14) := by rw [had_361, va_up_ne _ _ (by decide)]; exact he14a_359
  have e16_361 : en_361 16 = .inl (cy 0, 6, .inl (fun _ => 0)) := by rw [hen_361, va_up_ne _ _ (by decide)]; exact e16_360
  have he16a_361 : ad_361 16 = (ad_349 16) := by rw [had_361, va_up_ne _ _ (by decide)]; exact he16a_359
  have hex24a_361 : ad_361 24 = (ad_349 24) := by rw [had_361, va_up_ne _ _ (by decide)]; exact hex24a_359
  have hex33a_361 : ad_361 33 = (ad_349 33) := by rw [had_361, va_up_ne _ _ (by decide)]; exact hex33a_359
  have e70_361 : en_361 70 = .inr (0, [.ref (ad_352 1), .ref (ad_352 71), .ref (ad_352 72), .ref (ad_352 73), .null, .null, .null, .int 0, .int 0, .int 0, .int 0, .int 0, .int 0]) := by rw [hen_361, va_up_ne _ _ (by decide)]; exact e70_360
  have he70a_361 : ad_361 70 = q_351 := by rw [had_361, va_up_ne _ _ (by decide)]; exact he70a_359
  have hex71a_361 : ad_361 71 = (ad_352 71) := by rw [had_361, va_up_ne _ _ (by decide)]; exact hex71a_359
  have hex72a_361 : ad_361 72 = (ad_352 72) := by rw [had_361, va_up_ne _ _ (by decide)]; exact hex72a_359
  have hex73a_361 : ad_361 73 = (ad_352 73) := by rw [had_361, va_up_ne _ _ (by decide)]; exact hex73a_359
  have e74_361 : en_361 74 = .inl (cy 5, 10, .inr (.inr (.inr (.inr (fun _ => none))))) := by rw [hen_361, va_up_ne _ _ (by decide)]; exact e74_360
  have he74a_361 : ad_361 74 = q_354 := by rw [had_361, va_up_ne _ _ (by decide)]; exact he74a_359
  have e75_361 : en_361 75 = .inl (cy 6, 4, .inr (.inr (.inr (.inr (fun _ => none))))) := by rw [hen_361, va_up_ne _ _ (by decide)]; exact e75_360
  have he75a_361 : ad_361 75 = q_356 := by rw [had_361, va_up_ne _ _ (by decide)]; exact he75a_359
  have ew76_361 : en_361 76 = .inr (8, [.int 0]) := by rw [hen_361, va_up_ne _ _ (by decide)]; exact ew76_360
  have hew76a_361 : ad_361 76 = q_358 := by rw [had_361, va_up_ne _ _ (by decide)]; exact he76a_359
  have hv_361 : ∀ j, j < 9 → en_361 (34 + 4 * j) = .inr (5, [.ref (ad_361 (35 + 4 * j)), .ref (ad_361 (36 + 4 * j)), .ref (ad_361 (37 + 4 * j)), .int 0, .int 0, .int 0, .long 0, .long 0, .long 0, .long 0]) := fun j hj => by rw [hen_361, va_up_ne _ _ (fne 34 4 77 hj (by decide)), had_361, va_up_ne _ _ (fne 35 4 77 hj (by decide)), va_up_ne _ _ (fne 36 4 77 hj (by decide)), va_up_ne _ _ (fne 37 4 77 hj (by decide))]; exact hv_360 j hj
  have e77_361 : en_361 77 = .inr (9, [.null, .null, .int 0]) := by rw [hen_361]; exact va_up_self _ _ _
  have he77a_361 : ad_361 77 = q_361 := by rw [had_361]; exact va_up_self _ _ _
  refine W.widen (k := 77) (n := 648) (Nat.le_refl _) (Nat.le_refl _) ?_
  refine lv_dup hx hb dX11_init_89 rfl ?_
  refine W.eq (g2 := F0 m 90 ls [.ref (ad_361 77), .ref q_361, .int 0, .ref q_354]) (by rw [he77a_361]) ?_
  refine hq_callC (va_runIN (As := []) (rest := [.ref q_361, .int 0, .ref q_354]) ⟨hx, hb, hml, hown, hts⟩ (c_X10_init l D cy _ ad_361 en_361 78 77 (by decide) e77_361) (kw_X10_init hts hX.2.2.2.2.2.2.2.2.1 ⟨by decide, by decide⟩) (preC_of hh hK hX) rfl rfl hl.1 rfl (lv_room (Nat.le_of_ble_eq_true rfl)) dX11_init_90 ⟨Nat.le_of_ble_eq_true rfl, Nat.le_of_ble_eq_true rfl⟩) hh hA (fun H locs ad_362 en_362 hw_362 hh => ?_)
  have hh : Hp D A A s.heap H _ (List.range 80) ad_362 en_362 := hh
  obtain ⟨hda_362, hue_362, ew_362, ewa_362, ewb_362⟩ := hw_362
  dsimp only at hda_362 hue_362 ew_362 ewa_362 ewb_362
  have et_362 : en_362 0 = .inr (10, [.ref q_345, .ref q_348, .ref q_351, .ref q_354, .ref q_356, .ref q_358, .int 0, .int 0]) := by rw [hue_362 _ (by decide) (by decide)]; exact et_361
  have heta_362 : ad_362 0 = (ad 0) := by rw [hda_362 _ (by decide)]; exact heta_361
  have e1_362 : en_362 1 = .inr (7, [.ref (ad_346 2), .ref (ad_346 3), .ref (ad_346 10), .ref (ad_346 11), .int 0, .int 2, .int 0]) := by rw [hue_362 _ (by decide) (by decide)]; exact e1_361
  have he1a_362 : ad_362 1 = q_345 := by rw [hda_362 _ (by decide)]; exact he1a_361
  have e10_362 : en_362 10 = .inl (cy 2, 36, .inl f_346) := by rw [hue_362 _ (by decide) (by decide)]; exact e10_361
  have he10a_362 : ad_362 10 = (ad_346 10) := by rw [hda_362 _ (by decide)]; exact he10a_361
  have hex2a_362 : ad_362 2 = (ad_346 2) := by rw [hda_362 _ (by decide)]; exact hex2a_361
  have hex3a_362 : ad_362 3 = (ad_346 3) := by rw [hda_362 _ (by decide)]; exact hex3a_361
  have hex11a_362 : ad_362 11 = (ad_346 11) := by rw [hda_362 _ (by decide)]; exact hex11a_361
  have e12_362 : en_362 12 = .inr (2, [.ref (ad_349 1), .ref (ad_349 13), .ref (ad_349 14), .ref (ad_349 24), .ref (ad_349 33), .int 0]) := by rw [hue_362 _ (by decide) (by decide)]; exact e12_361
  have he12a_362 : ad_362 12 = q_348 := by rw [hda_362 _ (by decide)]; exact he12a_361
  have e13_362 : en_362 13 = .inl (cy 4, 9, .inr (.inr (.inr (.inr (fun j => some (ad_349 (34 + 4 * j))))))) := by rw [hue_362 _ (by decide) (by decide)]; exact e13_361
  have he13a_362 : ad_362 13 = (ad_349 13) := by rw [hda_362 _ (by decide)]; exact he13a_361
  have e14_362 : en_362 14 = .inl (cy 7, 9, .inr (.inr (.inr (.inr (fun j => some (ad_349 (15 + j))))))) := by rw [hue_362 _ (by decide) (by decide)]; exact e14_361
  have he14a_362 : ad_362 14 = (ad_349 14) := by rw [hda_362 _ (by decide)]; exact he14a_361
  have e16_362 : en_362 16 = .inl (cy 0, 6, .inl (fun _ => 0)) := by rw [hue_362 _ (by decide) (by decide)]; exact e16_361
  have he16a_362 : ad_362 16 = (ad_349 16) := by rw [hda_362 _ (by decide)]; exact he16a_361
  have hex24a_362 : ad_362 24 = (ad_349 24) := by rw [hda_362 _ (by decide)]; exact hex24a_361
  have hex33a_362 : ad_362 33 = (ad_349 33) := by rw [hda_362 _ (by decide)]; exact hex33a_361
  have e70_362 : en_362 70 = .inr (0, [.ref (ad_352 1), .ref (ad_352 71), .ref (ad_352 72), .ref (ad_352 73), .null, .null, .null, .int 0, .int 0, .int 0, .int 0, .int 0, .int 0]) := by rw [hue_362 _ (by decide) (by decide)]; exact e70_361
  have he70a_362 : ad_362 70 = q_351 := by rw [hda_362 _ (by decide)]; exact he70a_361
  have hex71a_362 : ad_362 71 = (ad_352 71) := by rw [hda_362 _ (by decide)]; exact hex71a_361
  have hex72a_362 : ad_362 72 = (ad_352 72) := by rw [hda_362 _ (by decide)]; exact hex72a_361
  have hex73a_362 : ad_362 73 = (ad_352 73) := by rw [hda_362 _ (by decide)]; exact hex73a_361
  have e74_362 : en_362 74 = .inl (cy 5, 10, .inr (.inr (.inr (.inr (fun _ => none))))) := by rw [hue_362 _ (by decide) (by decide)]; exact e74_361
  have he74a_362 : ad_362 74 = q_354 := by rw [hda_362 _ (by decide)]; exact he74a_361
  have e75_362 : en_362 75 = .inl (cy 6, 4, .inr (.inr (.inr (.inr (fun _ => none))))) := by rw [hue_362 _ (by decide) (by decide)]; exact e75_361
  have he75a_362 : ad_362 75 = q_356 := by rw [hda_362 _ (by decide)]; exact he75a_361
  have ew76_362 : en_362 76 = .inr (8, [.int 0]) := by rw [hue_362 _ (by decide) (by decide)]; exact ew76_361
  have hew76a_362 : ad_362 76 = q_358 := by rw [hda_362 _ (by decide)]; exact hew76a_361
  have he77a_362 : ad_362 77 = q_361 := by rw [hda_362 _ (by decide)]; exact he77a_361
  have hv_362 : ∀ j, j < 9 → en_362 (34 + 4 * j) = .inr (5, [.ref (ad_362 (35 + 4 * j)), .ref (ad_362 (36 + 4 * j)), .ref (ad_362 (37 + 4 * j)), .int 0, .int 0, .int 0, .long 0, .long 0, .long 0, .long 0]) := fun j hj => by rw [hue_362 _ (flt 34 4 78 hj (by decide)) (fne 34 4 77 hj (by decide)), hda_362 _ (flt 35 4 78 hj (by decide)), hda_362 _ (flt 36 4 78 hj (by decide)), hda_362 _ (flt 37 4 78 hj (by decide))]; exact hv_361 j hj
  have ew77_362 := ew_362
  refine W.widen (k := 79) (n := 669) (Nat.le_refl _) (Nat.le_refl _) ?_
  refine hp_astq hx hb hK hh (q := 74) (v := 77) he74a_362 (List.mem_range.mpr (by decide)) he77a_362 (List.mem_range.mpr (by decide)) e74_362 ew77_362 rfl rfl (vp_in_iff.mpr (by decide)) dX11_init_93 (fun H locs en_363 hen_363 hh => ?_)
  have et_363 : en_363 0 = .inr (10, [.ref q_345, .ref q_348, .ref q_351, .ref q_354, .ref q_356, .ref q_358, .int 0, .int 0]) := by rw [hen_363, va_up_ne _ _ (by decide)]; exact et_362
  have e1_363 : en_363 1 = .inr (7, [.ref (ad_346 2), .ref (ad_346 3), .ref (ad_346 10), .ref (ad_346 11), .int 0, .int 2, .int 0]) := by rw [hen_363, va_up_ne _ _ (by decide)]; exact e1_362
  have e10_363 : en_363 10 = .inl (cy 2, 36, .inl f_346) := by rw [hen_363, va_up_ne _ _ (by decide)]; exact e10_362
  have e12_363 : en_363 12 = .inr (2, [.ref (ad_349 1), .ref (ad_349 13), .ref (ad_349 14), .ref (ad_349 24), .ref (ad_349 33), .int 0]) := by rw [hen_363, va_up_ne _ _ (by decide)]; exact e12_362
  have e13_363 : en_363 13 = .inl (cy 4, 9, .inr (.inr (.inr (.inr (fun j => some (ad_349 (34 + 4 * j))))))) := by rw [hen_363, va_up_ne _ _ (by decide)]; exact e13_362
  have e14_363 : en_363 14 = .inl (cy 7, 9, .inr (.inr (.inr (.inr (fun j => some (ad_349 (15 + j))))))) := by rw [hen_363, va_up_ne _ _ (by decide)]; exact e14_362
  have e16_363 : en_363 16 = .inl (cy 0, 6, .inl (fun _ => 0)) := by rw [hen_363, va_up_ne _ _ (by decide)]; exact e16_362
  have e70_363 : en_363 70 = .inr (0, [.ref (ad_352 1), .ref (ad_352 71), .ref (ad_352 72), .ref (ad_352 73), .null, .null, .null, .int 0, .int 0, .int 0, .int 0, .int 0, .int 0]) := by rw [hen_363, va_up_ne _ _ (by decide)]; exact e70_362
  have e75_363 : en_363 75 = .inl (cy 6, 4, .inr (.inr (.inr (.inr (fun _ => none))))) := by rw [hen_363, va_up_ne _ _ (by decide)]; exact e75_362
  have ew76_363 : en_363 76 = .inr (8, [.int 0]) := by rw [hen_363, va_up_ne _ _ (by decide)]; exact ew76_362
  have ew77_363 : en_363 77 = .inr (9, [.ref (ad_362 78), .ref (ad_362 79), .int 0]) := by rw [hen_363, va_up_ne _ _ (by decide)]; exact ew77_362
  have hv_363 : ∀ j, j < 9 → en_363 (34 + 4 * j) = .inr (5, [.ref (ad_362 (35 + 4 * j)), .ref (ad_362 (36 + 4 * j)), .ref (ad_362 (37 + 4 * j)), .int 0, .int 0, .int 0, .long 0, .long 0, .long 0, .long 0]) := fun j hj => by rw [hen_363, va_up_ne _ _ (fne 34 4 74 hj (by decide))]; exact hv_362 j hj
  have e74_363 : en_363 74 = .inl (cy 5, 10, .inr (.inr (.inr (.inr (va_up (fun _ => none) (0 : Int32).toNatClampNeg (some q_361)))))) := by rw [hen_363]; exact va_up_self _ _ _
  refine lv_iinc (v := 1) (lv' := [(1, .int 1), (0, .ref (ad 0))]) hx hb dX11_init_94 hl (k := 0) rfl (by decide) (by decide) rfl (fun ls hl => ?_)
  refine lv_goto (tgt := 75) hx hb dX11_init_97 (by decide) ?_
  refine lv_iload_n hx hb dX11_init_75 rfl (lv_at hl 0 rfl) ?_
  refine lv_bipush (v := 10) hx hb dX11_init_76 (by decide) ?_
  refine lv_icmp_ge (tgt := 100) hx hb dX11_init_78 (by decide) (fun c_0 => absurd c_0 (by decide)) (fun _ => ?_)
  refine lv_aload_n hx hb dX11_init_81 rfl (lv_at hl 1 rfl) ?_
  refine hp_get hx hb hts ix11 hown hK hh (q := 0) heta_362 (List.mem_range.mpr (by decide)) et_363 rfl 3 (by decide) (hts _ tw_248) (fun _ h9 => h9) rfl dX11_init_82 ?_
  refine lv_iload_n hx hb dX11_init_85 rfl (lv_at hl 0 rfl) ?_
  refine hq_new (ci := 9) (fs := [.null, .null, .int 0]) hx hb hts ix10 tyX10 tyX10_ok hown (hts _ tw_191) (hts _ tw_206) (hts _ tw_7) hK hh hA rfl (fun j hj => by rcases (show j = 0 ∨ j = 1 ∨ j = 2 by omega) with rfl | rfl | rfl <;> rfl) (Nat.le_of_ble_eq_true rfl) (Nat.le_of_ble_eq_true rfl) dX11_init_86 (fun q_364 H ad_364 en_364 had_364 hen_364 hh => ?_)
  have hh : Hp D A A s.heap H _ (List.range 81) ad_364 en_364 := hh
  have et_364 : en_364 0 = .inr (10, [.ref q_345, .ref q_348, .ref q_351, .ref q_354, .ref q_356, .ref q_358, .int 0, .int 0]) := by rw [hen_364, va_up_ne _ _ (by decide)]; exact et_363
  have heta_364 : ad_364 0 = (ad 0) := by rw [had_364, va_up_ne _ _ (by decide)]; exact heta_362
  have e1_364 : en_364 1 = .inr (7, [.ref (ad_346 2), .ref (ad_346 3), .ref (ad_346 10), .ref (ad_346 11), .int 0, .int 2, .int 0]) := by rw [hen_364, va_up_ne _ _ (by decide)]; exact e1_363
  have he1a_364 : ad_364 1 = q_345 := by rw [had_364, va_up_ne _ _ (by decide)]; exact he1a_362
  have e10_364 : en_364 10 = .inl (cy 2, 36, .inl f_346) := by rw [hen_364, va_up_ne _ _ (by decide)]; exact e10_363
  have he10a_364 : ad_364 10 = (ad_346 10) := by rw [had_364, va_up_ne _ _ (by decide)]; exact he10a_362
  have hex2a_364 : ad_364 2 = (ad_346 2) := by rw [had_364, va_up_ne _ _ (by decide)]; exact hex2a_362
  have hex3a_364 : ad_364 3 = (ad_346 3) := by rw [had_364, va_up_ne _ _ (by decide)]; exact hex3a_362
  have hex11a_364 : ad_364 11 = (ad_346 11) := by rw [had_364, va_up_ne _ _ (by decide)]; exact hex11a_362
  have e12_364 : en_364 12 = .inr (2, [.ref (ad_349 1), .ref (ad_349 13), .ref (ad_349 14), .ref (ad_349 24), .ref (ad_349 33), .int 0]) := by rw [hen_364, va_up_ne _ _ (by decide)]; exact e12_363
  have he12a_364 : ad_364 12 = q_348 := by rw [had_364, va_up_ne _ _ (by decide)]; exact he12a_362
  have e13_364 : en_364 13 = .inl (cy 4, 9, .inr (.inr (.inr (.inr (fun j => some (ad_349 (34 + 4 * j))))))) := by rw [hen_364, va_up_ne _ _ (by decide)]; exact e13_363
  have he13a_364 : ad_364 13 = (ad_349 13) := by rw [had_364, va_up_ne _ _ (by decide)]; exact he13a_362
  have e14_364 : en_364 14 = .inl (cy 7, 9, .inr (.inr (.inr (.inr (fun j => some (ad_349 (15 + j))))))) := by rw [hen_364, va_up_ne _ _ (by decide)]; exact e14_363
  have he14a_364 : ad_364 14 = (ad_349 14) := by rw [had_364, va_up_ne _ _ (by decide)]; exact he14a_362
  have e16_364 : en_364 16 = .inl (cy 0, 6, .inl (fun _ => 0)) := by rw [hen_364, va_up_ne _ _ (by decide)]; exact e16_363
  have he16a_364 : ad_364 16 = (ad_349 16) := by rw [had_364, va_up_ne _ _ (by decide)]; exact he16a_362
  have hex24a_364 : ad_364 24 = (ad_349 24) := by rw [had_364, va_up_ne _ _ (by decide)]; exact hex24a_362
  have hex33a_364 : ad_364 33 = (ad_349 33) := by rw [had_364, va_up_ne _ _ (by decide)]; exact hex33a_362
  have e70_364 : en_364 70 = .inr (0, [.ref (ad_352 1), .ref (ad_352 71), .ref (ad_352 72), .ref (ad_352 73), .null, .null, .null, .int 0, .int 0, .int 0, .int 0, .int 0, .int 0]) := by rw [hen_364, va_up_ne _ _ (by decide)]; exact e70_363
  have he70a_364 : ad_364 70 = q_351 := by rw [had_364, va_up_ne _ _ (by decide)]; exact he70a_362
  have hex71a_364 : ad_364 71 = (ad_352 71) := by rw [had_364, va_up_ne _ _ (by decide)]; exact hex71a_362
  have hex72a_364 : ad_364 72 = (ad_352 72) := by rw [had_364, va_up_ne _ _ (by decide)]; exact hex72a_362
  have hex73a_364 : ad_364 73 = (ad_352 73) := by rw [had_364, va_up_ne _ _ (by decide)]; exact hex73a_362
  have e74_364 : en_364 74 = .inl (cy 5, 10, .inr (.inr (.inr (.inr (va_up (fun _ => none) (0 : Int32).toNatClampNeg (some q_361)))))) := by rw [hen_364, va_up_ne _ _ (by decide)]; exact e74_363
  have he74a_364 : ad_364 74 = q_354 := by rw [had_364, va_up_ne _ _ (by decide)]; exact he74a_362
  have e75_364 : en_364 75 = .inl (cy 6, 4, .inr (.inr (.inr (.inr (fun _ => none))))) := by rw [hen_364, va_up_ne _ _ (by decide)]; exact e75_363
  have he75a_364 : ad_364 75 = q_356 := by rw [had_364, va_up_ne _ _ (by decide)]; exact he75a_362
  have ew76_364 : en_364 76 = .inr (8, [.int 0]) := by rw [hen_364, va_up_ne _ _ (by decide)]; exact ew76_363
  have hew76a_364 : ad_364 76 = q_358 := by rw [had_364, va_up_ne _ _ (by decide)]; exact hew76a_362
  have hv_364 : ∀ j, j < 9 → en_364 (34 + 4 * j) = .inr (5, [.ref (ad_364 (35 + 4 * j)), .ref (ad_364 (36 + 4 * j)), .ref (ad_364 (37 + 4 * j)), .int 0, .int 0, .int 0, .long 0, .long 0, .long 0, .long 0]) := fun j hj => by rw [hen_364, va_up_ne _ _ (fne 34 4 80 hj (by decide)), had_364, va_up_ne _ _ (fne 35 4 80 hj (by decide)), va_up_ne _ _ (fne 36 4 80 hj (by decide)), va_up_ne _ _ (fne 37 4 80 hj (by decide))]; exact hv_363 j hj
  have e80_364 : en_364 80 = .inr (9, [.null, .null, .int 0]) := by rw [hen_364]; exact va_up_self _ _ _
  have he80a_364 : ad_364 80 = q_364 := by rw [had_364]; exact va_up_self _ _ _
  refine W.widen (k := 80) (n := 672) (Nat.le_refl _) (Nat.le_refl _) ?_
  refine lv_dup hx hb dX11_init_89 rfl ?_
  refine W.eq (g2 := F0 m 90 ls [.ref (ad_364 80), .ref q_364, .int 1, .ref q_354]) (by rw [he80a_364]) ?_
  refine hq_callC (va_runIN (As := []) (rest := [.ref q_364, .int 1, .ref q_354]) ⟨hx, hb, hml, hown, hts⟩ (c_X10_init l D cy _ ad_364 en_364 81 80 (by decide) e80_364) (kw_X10_init hts hX.2.2.2.2.2.2.2.2.1 ⟨by decide, by decide⟩) (preC_of hh hK hX) rfl rfl hl.1 rfl (lv_room (Nat.le_of_ble_eq_true rfl)) dX11_init_90 ⟨Nat.le_of_ble_eq_true rfl, Nat.le_of_ble_eq_true rfl⟩) hh hA (fun H locs ad_365 en_365 hw_365 hh => ?_)
  have hh : Hp D A A s.heap H _ (List.range 83) ad_365 en_365 := hh
  obtain ⟨hda_365, hue_365, ew_365, ewa_365, ewb_365⟩ := hw_365
  dsimp only at hda_365 hue_365 ew_365 ewa_365 ewb_365
  have et_365 : en_365 0 = .inr (10, [.ref q_345, .ref q_348, .ref q_351, .ref q_354, .ref q_356, .ref q_358, .int 0, .int 0]) := by rw [hue_365 _ (by decide) (by decide)]; exact et_364
  have heta_365 : ad_365 0 = (ad 0) := by rw [hda_365 _ (by decide)]; exact heta_364
  have e1_365 : en_365 1 = .inr (7, [.ref (ad_346 2), .ref (ad_346 3), .ref (ad_346 10), .ref (ad_346 11), .int 0, .int 2, .int 0]) := by rw [hue_365 _ (by decide) (by decide)]; exact e1_364
  have he1a_365 : ad_365 1 = q_345 := by rw [hda_365 _ (by decide)]; exact he1a_364
  have e10_365 : en_365 10 = .inl (cy 2, 36, .inl f_346) := by rw [hue_365 _ (by decide) (by decide)]; exact e10_364
  have he10a_365 : ad_365 10 = (ad_346 10) := by rw [hda_365 _ (by decide)]; exact he10a_364
  have hex2a_365 : ad_365 2 = (ad_346 2) := by rw [hda_365 _ (by decide)]; exact hex2a_364
  have hex3a_365 : ad_365 3 = (ad_346 3) := by rw [hda_365 _ (by decide)]; exact hex3a_364
  have hex11a_365 : ad_365 11 = (ad_346 11) := by rw [hda_365 _ (by decide)]; exact hex11a_364
  have e12_365 : en_365 12 = .inr (2, [.ref (ad_349 1), .ref (ad_349 13), .ref (ad_349 14), .ref (ad_349 24), .ref (ad_349 33), .int 0]) := by rw [hue_365 _ (by decide) (by decide)]; exact e12_364
  have he12a_365 : ad_365 12 = q_348 := by rw [hda_365 _ (by decide)]; exact he12a_364
  have e13_365 : en_365 13 = .inl (cy 4, 9, .inr (.inr (.inr (.inr (fun j => some (ad_349 (34 + 4 * j))))))) := by rw [hue_365 _ (by decide) (by decide)]; exact e13_364
  have he13a_365 : ad_365 13 = (ad_349 13) := by rw [hda_365 _ (by decide)]; exact he13a_364
  have e14_365 : en_365 14 = .inl (cy 7, 9, .inr (.inr (.inr (.inr (fun j => some (ad_349 (15 + j))))))) := by rw [hue_365 _ (by decide) (by decide)]; exact e14_364
  have he14a_365 : ad_365 14 = (ad_349 14) := by rw [hda_365 _ (by decide)]; exact he14a_364
  have e16_365 : en_365 16 = .inl (cy 0, 6, .inl (fun _ => 0)) := by rw [hue_365 _ (by decide) (by decide)]; exact e16_364
  have he16a_365 : ad_365 16 = (ad_349 16) := by rw [hda_365 _ (by decide)]; exact he16a_364
  have hex24a_365 : ad_365 24 = (ad_349 24) := by rw [hda_365 _ (by decide)]; exact hex24a_364
  have hex33a_365 : ad_365 33 = (ad_349 33) := by rw [hda_365 _ (by decide)]; exact hex33a_364
  have e70_365 : en_365 70 = .inr (0, [.ref (ad_352 1), .ref (ad_352 71), .ref (ad_352 72), .ref (ad_352 73), .null, .null, .null, .int 0, .int 0, .int 0, .int 0, .int 0, .int 0]) := by rw [hue_365 _ (by decide) (by decide)]; exact e70_364
  have he70a_365 : ad_365 70 = q_351 := by rw [hda_365 _ (by decide)]; exact he70a_364
  have hex71a_365 : ad_365 71 = (ad_352 71) := by rw [hda_365 _ (by decide)]; exact hex71a_364
  have hex72a_365 : ad_365 72 = (ad_352 72) := by rw [hda_365 _ (by decide)]; exact hex72a_364
  have hex73a_365 : ad_365 73 = (ad_352 73) := by rw [hda_365 _ (by decide)]; exact hex73a_364
  have e74_365 : en_365 74 = .inl (cy 5, 10, .inr (.inr (.inr (.inr (va_up (fun _ => none) (0 : Int32).toNatClampNeg (some q_361)))))) := by rw [hue_365 _ (by decide) (by decide)]; exact e74_364
  have he74a_365 : ad_365 74 = q_354 := by rw [hda_365 _ (by decide)]; exact he74a_364
  have e75_365 : en_365 75 = .inl (cy 6, 4, .inr (.inr (.inr (.inr (fun _ => none))))) := by rw [hue_365 _ (by decide) (by decide)]; exact e75_364
  have he75a_365 : ad_365 75 = q_356 := by rw [hda_365 _ (by decide)]; exact he75a_364
  have ew76_365 : en_365 76 = .inr (8, [.int 0]) := by rw [hue_365 _ (by decide) (by decide)]; exact ew76_364
  have hew76a_365 : ad_365 76 = q_358 := by rw [hda_365 _ (by decide)]; exact hew76a_364
  have he80a_365 : ad_365 80 = q_364 := by rw [hda_365 _ (by decide)]; exact he80a_364
  have hv_365 : ∀ j, j < 9 → en_365 (34 + 4 * j) = .inr (5, [.ref (ad_365 (35 + 4 * j)), .ref (ad_365 (36 + 4 * j)), .ref (ad_365 (37 + 4 * j)), .int 0, .int 0, .int 0, .long 0, .long 0, .long 0, .long 0]) := fun j hj => by rw [hue_365 _ (flt 34 4 81 hj (by decide)) (fne 34 4 80 hj (by decide)), hda_365 _ (flt 35 4 81 hj (by decide)), hda_365 _ (flt 36 4 81 hj (by decide)), hda_365 _ (flt 37 4 81 hj (by decide))]; exact hv_364 j hj
  have ew80_365 := ew_365
  refine W.widen (k := 82) (n := 693) (Nat.le_refl _) (Nat.le_refl _) ?_
  refine hp_astq hx hb hK hh (q := 74) (v := 80) he74a_365 (List.mem_range.mpr (by decide)) he80a_365 (List.mem_range.mpr (by decide)) e74_365 ew80_365 rfl rfl (vp_in_iff.mpr (by decide)) dX11_init_93 (fun H locs en_366 hen_366 hh => ?_)
  have et_366 : en_366 0 = .inr (10, [.ref q_345, .ref q_348, .ref q_351, .ref q_354, .ref q_356, .ref q_358, .int 0, .int 0]) := by rw [hen_366, va_up_ne _ _ (by decide)]; exact et_365
  have e1_366 : en_366 1 = .inr (7, [.ref (ad_346 2), .ref (ad_346 3), .ref (ad_346 10), .ref (ad_346 11), .int 0, .int 2, .int 0]) := by rw [hen_366, va_up_ne _ _ (by decide)]; exact e1_365
  have e10_366 : en_366 10 = .inl (cy 2, 36, .inl f_346) := by rw [hen_366, va_up_ne _ _ (by decide)]; exact e10_365
  have e12_366 : en_366 12 = .inr (2, [.ref (ad_349 1), .ref (ad_349 13), .ref (ad_349 14), .ref (ad_349 24), .ref (ad_349 33), .int 0]) := by rw [hen_366, va_up_ne _ _ (by decide)]; exact e12_365
  have e13_366 : en_366 13 = .inl (cy 4, 9, .inr (.inr (.inr (.inr (fun j => some (ad_349 (34 + 4 * j))))))) := by rw [hen_366, va_up_ne _ _ (by decide)]; exact e13_365
  have e14_366 : en_366 14 = .inl (cy 7, 9, .inr (.inr (.inr (.inr (fun j => some (ad_349 (15 + j))))))) := by rw [hen_366, va_up_ne _ _ (by decide)]; exact e14_365
  have e16_366 : en_366 16 = .inl (cy 0, 6, .inl (fun _ => 0)) := by rw [hen_366, va_up_ne _ _ (by decide)]; exact e16_365
  have e70_366 : en_366 70 = .inr (0, [.ref (ad_352 1), .ref (ad_352 71), .ref (ad_352 72), .ref (ad_352 73), .null, .null, .null, .int 0, .int 0, .int 0, .int 0, .int 0, .int 0]) := by rw [hen_366, va_up_ne _ _ (by decide)]; exact e70_365
  have e75_366 : en_366 75 = .inl (cy 6, 4, .inr (.inr (.inr (.inr (fun _ => none))))) := by rw [hen_366, va_up_ne _ _ (by decide)]; exact e75_365
  have ew76_366 : en_366 76 = .inr (8, [.int 0]) := by rw [hen_366, va_up_ne _ _ (by decide)]; exact ew76_365
  have ew80_366 : en_366 80 = .inr (9, [.ref (ad_365 81), .ref (ad_365 82), .int 0]) := by rw [hen_366, va_up_ne _ _ (by decide)]; exact ew80_365
  have hv_366 : ∀ j, j < 9 → en_366 (34 + 4 * j) = .inr (5, [.ref (ad_365 (35 + 4 * j)), .ref (ad_365 (36 + 4 * j)), .ref (ad_365 (37 + 4 * j)), .int 0, .int 0, .int 0, .long 0, .long 0, .long 0, .long 0]) := fun j hj => by rw [hen_366, va_up_ne _ _ (fne 34 4 74 hj (by decide))]; exact hv_365 j hj
  have e74_366 : en_366 74 = .inl (cy 5, 10, .inr (.inr (.inr (.inr (va_up (va_up (fun _ => none) (0 : Int32).toNatClampNeg (some q_361)) (1 : Int32).toNatClampNeg (some q_364)))))) := by rw [hen_366]; exact va_up_self _ _ _
  refine lv_iinc (v := 2) (lv' := [(1, .int 2), (0, .ref (ad 0))]) hx hb dX11_init_94 hl (k := 0) rfl (by decide) (by decide) rfl (fun ls hl => ?_)
  refine lv_goto (tgt := 75) hx hb dX11_init_97 (by decide) ?_
  refine lv_iload_n hx hb dX11_init_75 rfl (lv_at hl 0 rfl) ?_
  refine lv_bipush (v := 10) hx hb dX11_init_76 (by decide) ?_
  refine lv_icmp_ge (tgt := 100) hx hb dX11_init_78 (by decide) (fun c_0 => absurd c_0 (by decide)) (fun _ => ?_)
  refine lv_aload_n hx hb dX11_init_81 rfl (lv_at hl 1 rfl) ?_
  refine hp_get hx hb hts ix11 hown hK hh (q := 0) heta_365 (List.mem_range.mpr (by decide)) et_366 rfl 3 (by decide) (hts _ tw_248) (fun _ h9 => h9) rfl dX11_init_82 ?_
  refine lv_iload_n hx hb dX11_init_85 rfl (lv_at hl 0 rfl) ?_
  refine hq_new (ci := 9) (fs := [.null, .null, .int 0]) hx hb hts ix10 tyX10 tyX10_ok hown (hts _ tw_191) (hts _ tw_206) (hts _ tw_7) hK hh hA rfl (fun j hj => by rcases (show j = 0 ∨ j = 1 ∨ j = 2 by omega) with rfl | rfl | rfl <;> rfl) (Nat.le_of_ble_eq_true rfl) (Nat.le_of_ble_eq_true rfl) dX11_init_86 (fun q_367 H ad_367 en_367 had_367 hen_367 hh => ?_)
  have hh : Hp D A A s.heap H _ (List.range 84) ad_367 en_367 := hh
  have et_367 : en_367 0 = .inr (10, [.ref q_345, .ref q_348, .ref q_351, .ref q_354, .ref q_356, .ref q_358, .int 0, .int 0]) := by rw [hen_367, va_up_ne _ _ (by decide)]; exact et_366
  have heta_367 : ad_367 0 = (ad 0) := by rw [had_367, va_up_ne _ _ (by decide)]; exact heta_365
  have e1_367 : en_367 1 = .inr (7, [.ref (ad_346 2), .ref (ad_346 3), .ref (ad_346 10), .ref (ad_346 11), .int 0, .int 2, .int 0]) := by rw [hen_367, va_up_ne _ _ (by decide)]; exact e1_366
  have he1a_367 : ad_367 1 = q_345 := by rw [had_367, va_up_ne _ _ (by decide)]; exact he1a_365
  have e10_367 : en_367 10 = .inl (cy 2, 36, .inl f_346) := by rw [hen_367, va_up_ne _ _ (by decide)]; exact e10_366
  have he10a_367 : ad_367 10 = (ad_346 10) := by rw [had_367, va_up_ne _ _ (by decide)]; exact he10a_365
  have hex2a_367 : ad_367 2 = (ad_346 2) := by rw [had_367, va_up_ne _ _ (by decide)]; exact hex2a_365
  have hex3a_367 : ad_367 3 = (ad_346 3) := by rw [had_367, va_up_ne _ _ (by decide)]; exact hex3a_365
  have hex11a_367 : ad_367 11 = (ad_346 11) := by rw [had_367, va_up_ne _ _ (by decide)]; exact hex11a_365
  have e12_367 : en_367 12 = .inr (2, [.ref (ad_349 1), .ref (ad_349 13), .ref (ad_349 14), .ref (ad_349 24), .ref (ad_349 33), .int 0]) := by rw [hen_367, va_up_ne _ _ (by decide)]; exact e12_366
  have he12a_367 : ad_367 12 = q_348 := by rw [had_367, va_up_ne _ _ (by decide)]; exact he12a_365
  have e13_367 : en_367 13 = .inl (cy 4, 9, .inr (.inr (.inr (.inr (fun j => some (ad_349 (34 + 4 * j))))))) := by rw [hen_367, va_up_ne _ _ (by decide)]; exact e13_366
  have he13a_367 : ad_367 13 = (ad_349 13) := by rw [had_367, va_up_ne _ _ (by decide)]; exact he13a_365
  have e14_367 : en_367 14 = .inl (cy 7, 9, .inr (.inr (.inr (.inr (fun j => some (ad_349 (15 + j))))))) := by rw [hen_367, va_up_ne _ _ (by decide)]; exact e14_366
  have he14a_367 : ad_367 14 = (ad_349 14) := by rw [had_367, va_up_ne _ _ (by decide)]; exact he14a_365
  have e16_367 : en_367 16 = .inl (cy 0, 6, .inl (fun _ => 0)) := by rw [hen_367, va_up_ne _ _ (by decide)]; exact e16_366
  have he16a_367 : ad_367 16 = (ad_349 16) := by rw [had_367, va_up_ne _ _ (by decide)]; exact he16a_365
  have hex24a_367 : ad_367 24 = (ad_349 24) := by rw [had_367, va_up_ne _ _ (by decide)]; exact hex24a_365
  have hex33a_367 : ad_367 33 = (ad_349 33) := by rw [had_367, va_up_ne _ _ (by decide)]; exact hex33a_365
  have e70_367 : en_367 70 = .inr (0, [.ref (ad_352 1), .ref (ad_352 71), .ref (ad_352 72), .ref (ad_352 73), .null, .null, .null, .int 0, .int 0, .int 0, .int 0, .int 0, .int 0]) := by rw [hen_367, va_up_ne _ _ (by decide)]; exact e70_366
  have he70a_367 : ad_367 70 = q_351 := by rw [had_367, va_up_ne _ _ (by decide)]; exact he70a_365
  have hex71a_367 : ad_367 71 = (ad_352 71) := by rw [had_367, va_up_ne _ _ (by decide)]; exact hex71a_365
  have hex72a_367 : ad_367 72 = (ad_352 72) := by rw [had_367, va_up_ne _ _ (by decide)]; exact hex72a_365
  have hex73a_367 : ad_367 73 = (ad_352 73) := by rw [had_367, va_up_ne _ _ (by decide)]; exact hex73a_365
  have e74_367 : en_367 74 = .inl (cy 5, 10, .inr (.inr (.inr (.inr (va_up (va_up (fun _ => none) (0 : Int32).toNatClampNeg (some q_361)) (1 : Int32).toNatClampNeg (some q_364)))))) := by rw [hen_367, va_up_ne _ _ (by decide)]; exact e74_366
  have he74a_367 : ad_367 74 = q_354 := by rw [had_367, va_up_ne _ _ (by decide)]; exact he74a_365
  have e75_367 : en_367 75 = .inl (cy 6, 4, .inr (.inr (.inr (.inr (fun _ => none))))) := by rw [hen_367, va_up_ne _ _ (by decide)]; exact e75_366
  have he75a_367 : ad_367 75 = q_356 := by rw [had_367, va_up_ne _ _ (by decide)]; exact he75a_365
  have ew76_367 : en_367 76 = .inr (8, [.int 0]) := by rw [hen_367, va_up_ne _ _ (by decide)]; exact ew76_366
  have hew76a_367 : ad_367 76 = q_358 := by rw [had_367, va_up_ne _ _ (by decide)]; exact hew76a_365
  have hv_367 : ∀ j, j < 9 → en_367 (34 + 4 * j) = .inr (5, [.ref (ad_367 (35 + 4 * j)), .ref (ad_367 (36 + 4 * j)), .ref (ad_367 (37 + 4 * j)), .int 0, .int 0, .int 0, .long 0, .long 0, .long 0, .long 0]) := fun j hj => by rw [hen_367, va_up_ne _ _ (fne 34 4 83 hj (by decide)), had_367, va_up_ne _ _ (fne 35 4 83 hj (by decide)), va_up_ne _ _ (fne 36 4 83 hj (by decide)), va_up_ne _ _ (fne 37 4 83 hj (by decide))]; exact hv_366 j hj
  have e83_367 : en_367 83 = .inr (9, [.null, .null, .int 0]) := by rw [hen_367]; exact va_up_self _ _ _
  have he83a_367 : ad_367 83 = q_367 := by rw [had_367]; exact va_up_self _ _ _
  refine W.widen (k := 83) (n := 696) (Nat.le_refl _) (Nat.le_refl _) ?_
  refine lv_dup hx hb dX11_init_89 rfl ?_
  refine W.eq (g2 := F0 m 90 ls [.ref (ad_367 83), .ref q_367, .int 2, .ref q_354]) (by rw [he83a_367]) ?_
  refine hq_callC (va_runIN (As := []) (rest := [.ref q_367, .int 2, .ref q_354]) ⟨hx, hb, hml, hown, hts⟩ (c_X10_init l D cy _ ad_367 en_367 84 83 (by decide) e83_367) (kw_X10_init hts hX.2.2.2.2.2.2.2.2.1 ⟨by decide, by decide⟩) (preC_of hh hK hX) rfl rfl hl.1 rfl (lv_room (Nat.le_of_ble_eq_true rfl)) dX11_init_90 ⟨Nat.le_of_ble_eq_true rfl, Nat.le_of_ble_eq_true rfl⟩) hh hA (fun H locs ad_368 en_368 hw_368 hh => ?_)
  have hh : Hp D A A s.heap H _ (List.range 86) ad_368 en_368 := hh
  obtain ⟨hda_368, hue_368, ew_368, ewa_368, ewb_368⟩ := hw_368
  dsimp only at hda_368 hue_368 ew_368 ewa_368 ewb_368
  have et_368 : en_368 0 = .inr (10, [.ref q_345, .ref q_348, .ref q_351, .ref q_354, .ref q_356, .ref q_358, .int 0, .int 0]) := by rw [hue_368 _ (by decide) (by decide)]; exact et_367
  have heta_368 : ad_368 0 = (ad 0) := by rw [hda_368 _ (by decide)]; exact heta_367
  have e1_368 : en_368 1 = .inr (7, [.ref (ad_346 2), .ref (ad_346 3), .ref (ad_346 10), .ref (ad_346 11), .int 0, .int 2, .int 0]) := by rw [hue_368 _ (by decide) (by decide)]; exact e1_367
  have he1a_368 : ad_368 1 = q_345 := by rw [hda_368 _ (by decide)]; exact he1a_367
  have e10_368 : en_368 10 = .inl (cy 2, 36, .inl f_346) := by rw [hue_368 _ (by decide) (by decide)]; exact e10_367
  have he10a_368 : ad_368 10 = (ad_346 10) := by rw [hda_368 _ (by decide)]; exact he10a_367
  have hex2a_368 : ad_368 2 = (ad_346 2) := by rw [hda_368 _ (by decide)]; exact hex2a_367
  have hex3a_368 : ad_368 3 = (ad_346 3) := by rw [hda_368 _ (by decide)]; exact hex3a_367
  have hex11a_368 : ad_368 11 = (ad_346 11) := by rw [hda_368 _ (by decide)]; exact hex11a_367
  have e12_368 : en_368 12 = .inr (2, [.ref (ad_349 1), .ref (ad_349 13), .ref (ad_349 14), .ref (ad_349 24), .ref (ad_349 33), .int 0]) := by rw [hue_368 _ (by decide) (by decide)]; exact e12_367
  have he12a_368 : ad_368 12 = q_348 := by rw [hda_368 _ (by decide)]; exact he12a_367
  have e13_368 : en_368 13 = .inl (cy 4, 9, .inr (.inr (.inr (.inr (fun j => some (ad_349 (34 + 4 * j))))))) := by rw [hue_368 _ (by decide) (by decide)]; exact e13_367
  have he13a_368 : ad_368 13 = (ad_349 13) := by rw [hda_368 _ (by decide)]; exact he13a_367
  have e14_368 : en_368 14 = .inl (cy 7, 9, .inr (.inr (.inr (.inr (fun j => some (ad_349 (15 + j))))))) := by rw [hue_368 _ (by decide) (by decide)]; exact e14_367
  have he14a_368 : ad_368 14 = (ad_349 14) := by rw [hda_368 _ (by decide)]; exact he14a_367
  have e16_368 : en_368 16 = .inl (cy 0, 6, .inl (fun _ => 0)) := by rw [hue_368 _ (by decide) (by decide)]; exact e16_367
  have he16a_368 : ad_368 16 = (ad_349 16) := by rw [hda_368 _ (by decide)]; exact he16a_367
  have hex24a_368 : ad_368 24 = (ad_349 24) := by rw [hda_368 _ (by decide)]; exact hex24a_367
  have hex33a_368 : ad_368 33 = (ad_349 33) := by rw [hda_368 _ (by decide)]; exact hex33a_367
  have e70_368 : en_368 70 = .inr (0, [.ref (ad_352 1), .ref (ad_352 71), .ref (ad_352 72), .ref (ad_352 73), .null, .null, .null, .int 0, .int 0, .int 0, .int 0, .int 0, .int 0]) := by rw [hue_368 _ (by decide) (by decide)]; exact e70_367
  have he70a_368 : ad_368 70 = q_351 := by rw [hda_368 _ (by decide)]; exact he70a_367
  have hex71a_368 : ad_368 71 = (ad_352 71) := by rw [hda_368 _ (by decide)]; exact hex71a_367
  have hex72a_368 : ad_368 72 = (ad_352 72) := by rw [hda_368 _ (by decide)]; exact hex72a_367
  have hex73a_368 : ad_368 73 = (ad_352 73) := by rw [hda_368 _ (by decide)]; exact hex73a_367
  have e74_368 : en_368 74 = .inl (cy 5, 10, .inr (.inr (.inr (.inr (va_up (va_up (fun _ => none) (0 : Int32).toNatClampNeg (some q_361)) (1 : Int32).toNatClampNeg (some q_364)))))) := by rw [hue_368 _ (by decide) (by decide)]; exact e74_367
  have he74a_368 : ad_368 74 = q_354 := by rw [hda_368 _ (by decide)]; exact he74a_367
  have e75_368 : en_368 75 = .inl (cy 6, 4, .inr (.inr (.inr (.inr (fun _ => none))))) := by rw [hue_368 _ (by decide) (by decide)]; exact e75_367
  have he75a_368 : ad_368 75 = q_356 := by rw [hda_368 _ (by decide)]; exact he75a_367
  have ew76_368 : en_368 76 = .inr (8, [.int 0]) := by rw [hue_368 _ (by decide) (by decide)]; exact ew76_367
  have hew76a_368 : ad_368 76 = q_358 := by rw [hda_368 _ (by decide)]; exact hew76a_367
  have he83a_368 : ad_368 83 = q_367 := by rw [hda_368 _ (by decide)]; exact he83a_367
  have hv_368 : ∀ j, j < 9 → en_368 (34 + 4 * j) = .inr (5, [.ref (ad_368 (35 + 4 * j)), .ref (ad_368 (36 + 4 * j)), .ref (ad_368 (37 + 4 * j)), .int 0, .int 0, .int 0, .long 0, .long 0, .long 0, .long 0]) := fun j hj => by rw [hue_368 _ (flt 34 4 84 hj (by decide)) (fne 34 4 83 hj (by decide)), hda_368 _ (flt 35 4 84 hj (by decide)), hda_368 _ (flt 36 4 84 hj (by decide)), hda_368 _ (flt 37 4 84 hj (by decide))]; exact hv_367 j hj
  have ew83_368 := ew_368
  refine W.widen (k := 85) (n := 717) (Nat.le_refl _) (Nat.le_refl _) ?_
  refine hp_astq hx hb hK hh (q := 74) (v := 83) he74a_368 (List.mem_range.mpr (by decide)) he83a_368 (List.mem_range.mpr (by decide)) e74_368 ew83_368 rfl rfl (vp_in_iff.mpr (by decide)) dX11_init_93 (fun H locs en_369 hen_369 hh => ?_)
  have et_369 : en_369 0 = .inr (10, [.ref q_345, .ref q_348, .ref q_351, .ref q_354, .ref q_356, .ref q_358, .int 0, .int 0]) := by rw [hen_369, va_up_ne _ _ (by decide)]; exact et_368
  have e1_369 : en_369 1 = .inr (7, [.ref (ad_346 2), .ref (ad_346 3), .ref (ad_346 10), .ref (ad_346 11), .int 0, .int 2, .int 0]) := by rw [hen_369, va_up_ne _ _ (by decide)]; exact e1_368
  have e10_369 : en_369 10 = .inl (cy 2, 36, .inl f_346) := by rw [hen_369, va_up_ne _ _ (by decide)]; exact e10_368
  have e12_369 : en_369 12 = .inr (2, [.ref (ad_349 1), .ref (ad_349 13), .ref (ad_349 14), .ref (ad_349 24), .ref (ad_349 33), .int 0]) := by rw [hen_369, va_up_ne _ _ (by decide)]; exact e12_368
  have e13_369 : en_369 13 = .inl (cy 4, 9, .inr (.inr (.inr (.inr (fun j => some (ad_349 (34 + 4 * j))))))) := by rw [hen_369, va_up_ne _ _ (by decide)]; exact e13_368
  have e14_369 : en_369 14 = .inl (cy 7, 9, .inr (.inr (.inr (.inr (fun j => some (ad_349 (15 + j))))))) := by rw [hen_369, va_up_ne _ _ (by decide)]; exact e14_368
  have e16_369 : en_369 16 = .inl (cy 0, 6, .inl (fun _ => 0)) := by rw [hen_369, va_up_ne _ _ (by decide)]; exact e16_368
  have e70_369 : en_369 70 = .inr (0, [.ref (ad_352 1), .ref (ad_352 71), .ref (ad_352 72), .ref (ad_352 73), .null, .null, .null, .int 0, .int 0, .int 0, .int 0, .int 0, .int 0]) := by rw [hen_369, va_up_ne _ _ (by decide)]; exact e70_368
  have e75_369 : en_369 75 = .inl (cy 6, 4, .inr (.inr (.inr (.inr (fun _ => none))))) := by rw [hen_369, va_up_ne _ _ (by decide)]; exact e75_368
  have ew76_369 : en_369 76 = .inr (8, [.int 0]) := by rw [hen_369, va_up_ne _ _ (by decide)]; exact ew76_368
  have ew83_369 : en_369 83 = .inr (9, [.ref (ad_368 84), .ref (ad_368 85), .int 0]) := by rw [hen_369, va_up_ne _ _ (by decide)]; exact ew83_368
  have hv_369 : ∀ j, j < 9 → en_369 (34 + 4 * j) = .inr (5, [.ref (ad_368 (35 + 4 * j)), .ref (ad_368 (36 + 4 * j)), .ref (ad_368 (37 + 4 * j)), .int 0, .int 0, .int 0, .long 0, .long 0, .long 0, .long 0]) := fun j hj => by rw [hen_369, va_up_ne _ _ (fne 34 4 74 hj (by decide))]; exact hv_368 j hj
  have e74_369 : en_369 74 = .inl (cy 5, 10, .inr (.inr (.inr (.inr (va_up (va_up (va_up (fun _ => none) (0 : Int32).toNatClampNeg (some q_361)) (1 : Int32).toNatClampNeg (some q_364)) (2 : Int32).toNatClampNeg (some q_367)))))) := by rw [hen_369]; exact va_up_self _ _ _
  refine lv_iinc (v := 3) (lv' := [(1, .int 3), (0, .ref (ad 0))]) hx hb dX11_init_94 hl (k := 0) rfl (by decide) (by decide) rfl (fun ls hl => ?_)
  refine lv_goto (tgt := 75) hx hb dX11_init_97 (by decide) ?_
  refine lv_iload_n hx hb dX11_init_75 rfl (lv_at hl 0 rfl) ?_
  refine lv_bipush (v := 10) hx hb dX11_init_76 (by decide) ?_
  refine lv_icmp_ge (tgt := 100) hx hb dX11_init_78 (by decide) (fun c_0 => absurd c_0 (by decide)) (fun _ => ?_)
  refine lv_aload_n hx hb dX11_init_81 rfl (lv_at hl 1 rfl) ?_
  refine hp_get hx hb hts ix11 hown hK hh (q := 0) heta_368 (List.mem_range.mpr (by decide)) et_369 rfl 3 (by decide) (hts _ tw_248) (fun _ h9 => h9) rfl dX11_init_82 ?_
  refine lv_iload_n hx hb dX11_init_85 rfl (lv_at hl 0 rfl) ?_
  refine hq_new (ci := 9) (fs := [.null, .null, .int 0]) hx hb hts ix10 tyX10 tyX10_ok hown (hts _ tw_191) (hts _ tw_206) (hts _ tw_7) hK hh hA rfl (fun j hj => by rcases (show j = 0 ∨ j = 1 ∨ j = 2 by omega) with rfl | rfl | rfl <;> rfl) (Nat.le_of_ble_eq_true rfl) (Nat.le_of_ble_eq_true rfl) dX11_init_86 (fun q_370 H ad_370 en_370 had_370 hen_370 hh => ?_)
  have hh : Hp D A A s.heap H _ (List.range 87) ad_370 en_370 := hh
  have et_370 : en_370 0 = .inr (10, [.ref q_345, .ref q_348, .ref q_351, .ref q_354, .ref q_356, .ref q_358, .int 0, .int 0]) := by rw [hen_370, va_up_ne _ _ (by decide)]; exact et_369
  have heta_370 : ad_370 0 = (ad 0) := by rw [had_370, va_up_ne _ _ (by decide)]; exact heta_368
  have e1_370 : en_370 1 = .inr (7, [.ref (ad_346 2), .ref (ad_346 3), .ref (ad_346 10), .ref (ad_346 11), .int 0, .int 2, .int 0]) := by rw [hen_370, va_up_ne _ _ (by decide)]; exact e1_369
  have he1a_370 : ad_370 1 = q_345 := by rw [had_370, va_up_ne _ _ (by decide)]; exact he1a_368
  have e10_370 : en_370 10 = .inl (cy 2, 36, .inl f_346) := by rw [hen_370, va_up_ne _ _ (by decide)]; exact e10_369
  have he10a_370 : ad_370 10 = (ad_346 10) := by rw [had_370, va_up_ne _ _ (by decide)]; exact he10a_368
  have hex2a_370 : ad_370 2 = (ad_346 2) := by rw [had_370, va_up_ne _ _ (by decide)]; exact hex2a_368
  have hex3a_370 : ad_370 3 = (ad_346 3) := by rw [had_370, va_up_ne _ _ (by decide)]; exact hex3a_368
  have hex11a_370 : ad_370 11 = (ad_346 11) := by rw [had_370, va_up_ne _ _ (by decide)]; exact hex11a_368
  have e12_370 : en_370 12 = .inr (2, [.ref (ad_349 1), .ref (ad_349 13), .ref (ad_349 14), .ref (ad_349 24), .ref (ad_349 33), .int 0]) := by rw [hen_370, va_up_ne _ _ (by decide)]; exact e12_369
  have he12a_370 : ad_370 12 = q_348 := by rw [had_370, va_up_ne _ _ (by decide)]; exact he12a_368
  have e13_370 : en_370 13 = .inl (cy 4, 9, .inr (.inr (.inr (.inr (fun j => some (ad_349 (34 + 4 * j))))))) := by rw [hen_370, va_up_ne _ _ (by decide)]; exact e13_369
  have he13a_370 : ad_370 13 = (ad_349 13) := by rw [had_370, va_up_ne _ _ (by decide)]; exact he13a_368
  have e14_370 : en_370 14 = .inl (cy 7, 9, .inr (.inr (.inr (.inr (fun j => some (ad_349 (15 + j))))))) := by rw [hen_370, va_up_ne _ _ (by decide)]; exact e14_369
  have he14a_370 : ad_370 14 = (ad_349 14) := by rw [had_370, va_up_ne _ _ (by decide)]; exact he14a_368
  have e16_370 : en_370 16 = .inl (cy 0, 6, .inl (fun _ => 0)) := by rw [hen_370, va_up_ne _ _ (by decide)]; exact e16_369
  have he16a_370 : ad_370 16 = (ad_349 16) := by rw [had_370, va_up_ne _ _ (by decide)]; exact he16a_368
  have hex24a_370 : ad_370 24 = (ad_349 24) := by rw [had_370, va_up_ne _ _ (by decide)]; exact hex24a_368
  have hex33a_370 : ad_370 33 = (ad_349 33) := by rw [had_370, va_up_ne _ _ (by decide)]; exact hex33a_368
  have e70_370 : en_370 70 = .inr (0, [.ref (ad_352 1), .ref (ad_352 71), .ref (ad_352 72), .ref (ad_352 73), .null, .null, .null, .int 0, .int 0, .int 0, .int 0, .int 0, .int 0]) := by rw [hen_370, va_up_ne _ _ (by decide)]; exact e70_369
  have he70a_370 : ad_370 70 = q_351 := by rw [had_370, va_up_ne _ _ (by decide)]; exact he70a_368
  have hex71a_370 : ad_370 71 = (ad_352 71) := by rw [had_370, va_up_ne _ _ (by decide)]; exact hex71a_368
  have hex72a_370 : ad_370 72 = (ad_352 72) := by rw [had_370, va_up_ne _ _ (by decide)]; exact hex72a_368
  have hex73a_370 : ad_370 73 = (ad_352 73) := by rw [had_370, va_up_ne _ _ (by decide)]; exact hex73a_368
  have e74_370 : en_370 74 = .inl (cy 5, 10, .inr (.inr (.inr (.inr (va_up (va_up (va_up (fun _ => none) (0 : Int32).toNatClampNeg (some q_361)) (1 : Int32).toNatClampNeg (some q_364)) (2 : Int32).toNatClampNeg (some q_367)))))) := by rw [hen_370, va_up_ne _ _ (by decide)]; exact e74_369
  have he74a_370 : ad_370 74 = q_354 := by rw [had_370, va_up_ne _ _ (by decide)]; exact he74a_368
  have e75_370 : en_370 75 = .inl (cy 6, 4, .inr (.inr (.inr (.inr (fun _ => none))))) := by rw [hen_370, va_up_ne _ _ (by decide)]; exact e75_369
  have he75a_370 : ad_370 75 = q_356 := by rw [had_370, va_up_ne _ _ (by decide)]; exact he75a_368
  have ew76_370 : en_370 76 = .inr (8, [.int 0]) := by rw [hen_370, va_up_ne _ _ (by decide)]; exact ew76_369
  have hew76a_370 : ad_370 76 = q_358 := by rw [had_370, va_up_ne _ _ (by decide)]; exact hew76a_368
  have hv_370 : ∀ j, j < 9 → en_370 (34 + 4 * j) = .inr (5, [.ref (ad_370 (35 + 4 * j)), .ref (ad_370 (36 + 4 * j)), .ref (ad_370 (37 + 4 * j)), .int 0, .int 0, .int 0, .long 0, .long 0, .long 0, .long 0]) := fun j hj => by rw [hen_370, va_up_ne _ _ (fne 34 4 86 hj (by decide)), had_370, va_up_ne _ _ (fne 35 4 86 hj (by decide)), va_up_ne _ _ (fne 36 4 86 hj (by decide)), va_up_ne _ _ (fne 37 4 86 hj (by decide))]; exact hv_369 j hj
  have e86_370 : en_370 86 = .inr (9, [.null, .null, .int 0]) := by rw [hen_370]; exact va_up_self _ _ _
  have he86a_370 : ad_370 86 = q_370 := by rw [had_370]; exact va_up_self _ _ _
  refine W.widen (k := 86) (n := 720) (Nat.le_refl _) (Nat.le_refl _) ?_
  refine lv_dup hx hb dX11_init_89 rfl ?_
  refine W.eq (g2 := F0 m 90 ls [.ref (ad_370 86), .ref q_370, .int 3, .ref q_354]) (by rw [he86a_370]) ?_
  refine hq_callC (va_runIN (As := []) (rest := [.ref q_370, .int 3, .ref q_354]) ⟨hx, hb, hml, hown, hts⟩ (c_X10_init l D cy _ ad_370 en_370 87 86 (by decide) e86_370) (kw_X10_init hts hX.2.2.2.2.2.2.2.2.1 ⟨by decide, by decide⟩) (preC_of hh hK hX) rfl rfl hl.1 rfl (lv_room (Nat.le_of_ble_eq_true rfl)) dX11_init_90 ⟨Nat.le_of_ble_eq_true rfl, Nat.le_of_ble_eq_true rfl⟩) hh hA (fun H locs ad_371 en_371 hw_371 hh => ?_)
  have hh : Hp D A A s.heap H _ (List.range 89) ad_371 en_371 := hh
  obtain ⟨hda_371, hue_371, ew_371, ewa_371, ewb_371⟩ := hw_371
  dsimp only at hda_371 hue_371 ew_371 ewa_371 ewb_371
  have et_371 : en_371 0 = .inr (10, [.ref q_345, .ref q_348, .ref q_351, .ref q_354, .ref q_356, .ref q_358, .int 0, .int 0]) := by rw [hue_371 _ (by decide) (by decide)]; exact et_370
  have heta_371 : ad_371 0 = (ad 0) := by rw [hda_371 _ (by decide)]; exact heta_370
  have e1_371 : en_371 1 = .inr (7, [.ref (ad_346 2), .ref (ad_346 3), .ref (ad_346 10), .ref (ad_346 11), .int 0, .int 2, .int 0]) := by rw [hue_371 _ (by decide) (by decide)]; exact e1_370
  have he1a_371 : ad_371 1 = q_345 := by rw [hda_371 _ (by decide)]; exact he1a_370
  have e10_371 : en_371 10 = .inl (cy 2, 36, .inl f_346) := by rw [hue_371 _ (by decide) (by decide)]; exact e10_370
  have he10a_371 : ad_371 10 = (ad_346 10) := by rw [hda_371 _ (by decide)]; exact he10a_370
  have hex2a_371 : ad_371 2 = (ad_346 2) := by rw [hda_371 _ (by decide)]; exact hex2a_370
  have hex3a_371 : ad_371 3 = (ad_346 3) := by rw [hda_371 _ (by decide)]; exact hex3a_370
  have hex11a_371 : ad_371 11 = (ad_346 11) := by rw [hda_371 _ (by decide)]; exact hex11a_370
  have e12_371 : en_371 12 = .inr (2, [.ref (ad_349 1), .ref (ad_349 13), .ref (ad_349 14), .ref (ad_349 24), .ref (ad_349 33), .int 0]) := by rw [hue_371 _ (by decide) (by decide)]; exact e12_370
  have he12a_371 : ad_371 12 = q_348 := by rw [hda_371 _ (by decide)]; exact he12a_370
  have e13_371 : en_371 13 = .inl (cy 4, 9, .inr (.inr (.inr (.inr (fun j => some (ad_349 (34 + 4 * j))))))) := by rw [hue_371 _ (by decide) (by decide)]; exact e13_370
  have he13a_371 : ad_371 13 = (ad_349 13) := by rw [hda_371 _ (by decide)]; exact he13a_370
  have e14_371 : en_371 14 = .inl (cy 7, 9, .inr (.inr (.inr (.inr (fun j => some (ad_349 (15 + j))))))) := by rw [hue_371 _ (by decide) (by decide)]; exact e14_370
  have he14a_371 : ad_371 14 = (ad_349 14) := by rw [hda_371 _ (by decide)]; exact he14a_370
  have e16_371 : en_371 16 = .inl (cy 0, 6, .inl (fun _ => 0)) := by rw [hue_371 _ (by decide) (by decide)]; exact e16_370
  have he16a_371 : ad_371 16 = (ad_349 16) := by rw [hda_371 _ (by decide)]; exact he16a_370
  have hex24a_371 : ad_371 24 = (ad_349 24) := by rw [hda_371 _ (by decide)]; exact hex24a_370
  have hex33a_371 : ad_371 33 = (ad_349 33) := by rw [hda_371 _ (by decide)]; exact hex33a_370
  have e70_371 : en_371 70 = .inr (0, [.ref (ad_352 1), .ref (ad_352 71), .ref (ad_352 72), .ref (ad_352 73), .null, .null, .null, .int 0, .int 0, .int 0, .int 0, .int 0, .int 0]) := by rw [hue_371 _ (by decide) (by decide)]; exact e70_370
  have he70a_371 : ad_371 70 = q_351 := by rw [hda_371 _ (by decide)]; exact he70a_370
  have hex71a_371 : ad_371 71 = (ad_352 71) := by rw [hda_371 _ (by decide)]; exact hex71a_370
  have hex72a_371 : ad_371 72 = (ad_352 72) := by rw [hda_371 _ (by decide)]; exact hex72a_370
  have hex73a_371 : ad_371 73 = (ad_352 73) := by rw [hda_371 _ (by decide)]; exact hex73a_370
  have e74_371 : en_371 74 = .inl (cy 5, 10, .inr (.inr (.inr (.inr (va_up (va_up (va_up (fun _ => none) (0 : Int32).toNatClampNeg (some q_361)) (1 : Int32).toNatClampNeg (some q_364)) (2 : Int32).toNatClampNeg (some q_367)))))) := by rw [hue_371 _ (by decide) (by decide)]; exact e74_370
  have he74a_371 : ad_371 74 = q_354 := by rw [hda_371 _ (by decide)]; exact he74a_370
  have e75_371 : en_371 75 = .inl (cy 6, 4, .inr (.inr (.inr (.inr (fun _ => none))))) := by rw [hue_371 _ (by decide) (by decide)]; exact e75_370
  have he75a_371 : ad_371 75 = q_356 := by rw [hda_371 _ (by decide)]; exact he75a_370
  have ew76_371 : en_371 76 = .inr (8, [.int 0]) := by rw [hue_371 _ (by decide) (by decide)]; exact ew76_370
  have hew76a_371 : ad_371 76 = q_358 := by rw [hda_371 _ (by decide)]; exact hew76a_370
  have he86a_371 : ad_371 86 = q_370 := by rw [hda_371 _ (by decide)]; exact he86a_370
  have hv_371 : ∀ j, j < 9 → en_371 (34 + 4 * j) = .inr (5, [.ref (ad_371 (35 + 4 * j)), .ref (ad_371 (36 + 4 * j)), .ref (ad_371 (37 + 4 * j)), .int 0, .int 0, .int 0, .long 0, .long 0, .long 0, .long 0]) := fun j hj => by rw [hue_371 _ (flt 34 4 87 hj (by decide)) (fne 34 4 86 hj (by decide)), hda_371 _ (flt 35 4 87 hj (by decide)), hda_371 _ (flt 36 4 87 hj (by decide)), hda_371 _ (flt 37 4 87 hj (by decide))]; exact hv_370 j hj
  have ew86_371 := ew_371
  refine W.widen (k := 88) (n := 741) (Nat.le_refl _) (Nat.le_refl _) ?_
  refine hp_astq hx hb hK hh (q := 74) (v := 86) he74a_371 (List.mem_range.mpr (by decide)) he86a_371 (List.mem_range.mpr (by decide)) e74_371 ew86_371 rfl rfl (vp_in_iff.mpr (by decide)) dX11_init_93 (fun H locs en_372 hen_372 hh => ?_)
  have et_372 : en_372 0 = .inr (10, [.ref q_345, .ref q_348, .ref q_351, .ref q_354, .ref q_356, .ref q_358, .int 0, .int 0]) := by rw [hen_372, va_up_ne _ _ (by decide)]; exact et_371
  have e1_372 : en_372 1 = .inr (7, [.ref (ad_346 2), .ref (ad_346 3), .ref (ad_346 10), .ref (ad_346 11), .int 0, .int 2, .int 0]) := by rw [hen_372, va_up_ne _ _ (by decide)]; exact e1_371
  have e10_372 : en_372 10 = .inl (cy 2, 36, .inl f_346) := by rw [hen_372, va_up_ne _ _ (by decide)]; exact e10_371
  have e12_372 : en_372 12 = .inr (2, [.ref (ad_349 1), .ref (ad_349 13), .ref (ad_349 14), .ref (ad_349 24), .ref (ad_349 33), .int 0]) := by rw [hen_372, va_up_ne _ _ (by decide)]; exact e12_371
  have e13_372 : en_372 13 = .inl (cy 4, 9, .inr (.inr (.inr (.inr (fun j => some (ad_349 (34 + 4 * j))))))) := by rw [hen_372, va_up_ne _ _ (by decide)]; exact e13_371
  have e14_372 : en_372 14 = .inl (cy 7, 9, .inr (.inr (.inr (.inr (fun j => some (ad_349 (15 + j))))))) := by rw [hen_372, va_up_ne _ _ (by decide)]; exact e14_371
  have e16_372 : en_372 16 = .inl (cy 0, 6, .inl (fun _ => 0)) := by rw [hen_372, va_up_ne _ _ (by decide)]; exact e16_371
  have e70_372 : en_372 70 = .inr (0, [.ref (ad_352 1), .ref (ad_352 71), .ref (ad_352 72), .ref (ad_352 73), .null, .null, .null, .int 0, .int 0, .int 0, .int 0, .int 0, .int 0]) := by rw [hen_372, va_up_ne _ _ (by decide)]; exact e70_371
  have e75_372 : en_372 75 = .inl (cy 6, 4, .inr (.inr (.inr (.inr (fun _ => none))))) := by rw [hen_372, va_up_ne _ _ (by decide)]; exact e75_371
  have ew76_372 : en_372 76 = .inr (8, [.int 0]) := by rw [hen_372, va_up_ne _ _ (by decide)]; exact ew76_371
  have ew86_372 : en_372 86 = .inr (9, [.ref (ad_371 87), .ref (ad_371 88), .int 0]) := by rw [hen_372, va_up_ne _ _ (by decide)]; exact ew86_371
  have hv_372 : ∀ j, j < 9 → en_372 (34 + 4 * j) = .inr (5, [.ref (ad_371 (35 + 4 * j)), .ref (ad_371 (36 + 4 * j)), .ref (ad_371 (37 + 4 * j)), .int 0, .int 0, .int 0, .long 0, .long 0, .long 0, .long 0]) := fun j hj => by rw [hen_372, va_up_ne _ _ (fne 34 4 74 hj (by decide))]; exact hv_371 j hj
  have e74_372 : en_372 74 = .inl (cy 5, 10, .inr (.inr (.inr (.inr (va_up (va_up (va_up (va_up (fun _ => none) (0 : Int32).toNatClampNeg (some q_361)) (1 : Int32).toNatClampNeg (some q_364)) (2 : Int32).toNatClampNeg (some q_367)) (3 : Int32).toNatClampNeg (some q_370)))))) := by rw [hen_372]; exact va_up_self _ _ _
  refine lv_iinc (v := 4) (lv' := [(1, .int 4), (0, .ref (ad 0))]) hx hb dX11_init_94 hl (k := 0) rfl (by decide) (by decide) rfl (fun ls hl => ?_)
  refine lv_goto (tgt := 75) hx hb dX11_init_97 (by decide) ?_
  refine lv_iload_n hx hb dX11_init_75 rfl (lv_at hl 0 rfl) ?_
  refine lv_bipush (v := 10) hx hb dX11_init_76 (by decide) ?_
  refine lv_icmp_ge (tgt := 100) hx hb dX11_init_78 (by decide) (fun c_0 => absurd c_0 (by decide)) (fun _ => ?_)
  refine lv_aload_n hx hb dX11_init_81 rfl (lv_at hl 1 rfl) ?_
  refine hp_get hx hb hts ix11 hown hK hh (q := 0) heta_371 (List.mem_range.mpr (by decide)) et_372 rfl 3 (by decide) (hts _ tw_248) (fun _ h9 => h9) rfl dX11_init_82 ?_
  refine lv_iload_n hx hb dX11_init_85 rfl (lv_at hl 0 rfl) ?_
  refine hq_new (ci := 9) (fs := [.null, .null, .int 0]) hx hb hts ix10 tyX10 tyX10_ok hown (hts _ tw_191) (hts _ tw_206) (hts _ tw_7) hK hh hA rfl (fun j hj => by rcases (show j = 0 ∨ j = 1 ∨ j = 2 by omega) with rfl | rfl | rfl <;> rfl) (Nat.le_of_ble_eq_true rfl) (Nat.le_of_ble_eq_true rfl) dX11_init_86 (fun q_373 H ad_373 en_373 had_373 hen_373 hh => ?_)
  have hh : Hp D A A s.heap H _ (List.range 90) ad_373 en_373 := hh
  have et_373 : en_373 0 = .inr (10, [.ref q_345, .ref q_348, .ref q_351, .ref q_354, .ref q_356, .ref q_358, .int 0, .int 0]) := by rw [hen_373, va_up_ne _ _ (by decide)]; exact et_372
  have heta_373 : ad_373 0 = (ad 0) := by rw [had_373, va_up_ne _ _ (by decide)]; exact heta_371
  have e1_373 : en_373 1 = .inr (7, [.ref (ad_346 2), .ref (ad_346 3), .ref (ad_346 10), .ref (ad_346 11), .int 0, .int 2, .int 0]) := by rw [hen_373, va_up_ne _ _ (by decide)]; exact e1_372
  have he1a_373 : ad_373 1 = q_345 := by rw [had_373, va_up_ne _ _ (by decide)]; exact he1a_371
  have e10_373 : en_373 10 = .inl (cy 2, 36, .inl f_346) := by rw [hen_373, va_up_ne _ _ (by decide)]; exact e10_372
  have he10a_373 : ad_373 10 = (ad_346 10) := by rw [had_373, va_up_ne _ _ (by decide)]; exact he10a_371
  have hex2a_373 : ad_373 2 = (ad_346 2) := by rw [had_373, va_up_ne _ _ (by decide)]; exact hex2a_371
  have hex3a_373 : ad_373 3 = (ad_346 3) := by rw [had_373, va_up_ne _ _ (by decide)]; exact hex3a_371
  have hex11a_373 : ad_373 11 = (ad_346 11) := by rw [had_373, va_up_ne _ _ (by decide)]; exact hex11a_371
  have e12_373 : en_373 12 = .inr (2, [.ref (ad_349 1), .ref (ad_349 13), .ref (ad_349 14), .ref (ad_349 24), .ref (ad_349 33), .int 0]) := by rw [hen_373, va_up_ne _ _ (by decide)]; exact e12_372
  have he12a_373 : ad_373 12 = q_348 := by rw [had_373, va_up_ne _ _ (by decide)]; exact he12a_371
  have e13_373 : en_373 13 = .inl (cy 4, 9, .inr (.inr (.inr (.inr (fun j => some (ad_349 (34 + 4 * j))))))) := by rw [hen_373, va_up_ne _ _ (by decide)]; exact e13_372
  have he13a_373 : ad_373 13 = (ad_349 13) := by rw [had_373, va_up_ne _ _ (by decide)]; exact he13a_371
  have e14_373 : en_373 14 = .inl (cy 7, 9, .inr (.inr (.inr (.inr (fun j => some (ad_349 (15 + j))))))) := by rw [hen_373, va_up_ne _ _ (by decide)]; exact e14_372
  have he14a_373 : ad_373 14 = (ad_349 14) := by rw [had_373, va_up_ne _ _ (by decide)]; exact he14a_371
  have e16_373 : en_373 16 = .inl (cy 0, 6, .inl (fun _ => 0)) := by rw [hen_373, va_up_ne _ _ (by decide)]; exact e16_372
  have he16a_373 : ad_373 16 = (ad_349 16) := by rw [had_373, va_up_ne _ _ (by decide)]; exact he16a_371
  have hex24a_373 : ad_373 24 = (ad_349 24) := by rw [had_373, va_up_ne _ _ (by decide)]; exact hex24a_371
  have hex33a_373 : ad_373 33 = (ad_349 33) := by rw [had_373, va_up_ne _ _ (by decide)]; exact hex33a_371
  have e70_373 : en_373 70 = .inr (0, [.ref (ad_352 1), .ref (ad_352 71), .ref (ad_352 72), .ref (ad_352 73), .null, .null, .null, .int 0, .int 0, .int 0, .int 0, .int 0, .int 0]) := by rw [hen_373, va_up_ne _ _ (by decide)]; exact e70_372
  have he70a_373 : ad_373 70 = q_351 := by rw [had_373, va_up_ne _ _ (by decide)]; exact he70a_371
  have hex71a_373 : ad_373 71 = (ad_352 71) := by rw [had_373, va_up_ne _ _ (by decide)]; exact hex71a_371
  have hex72a_373 : ad_373 72 = (ad_352 72) := by rw [had_373, va_up_ne _ _ (by decide)]; exact hex72a_371
  have hex73a_373 : ad_373 73 = (ad_352 73) := by rw [had_373, va_up_ne _ _ (by decide)]; exact hex73a_371
  have e74_373 : en_373 74 = .inl (cy 5, 10, .inr (.inr (.inr (.inr (va_up (va_up (va_up (va_up (fun _ => none) (0 : Int32).toNatClampNeg (some q_361)) (1 : Int32).toNatClampNeg (some q_364)) (2 : Int32).toNatClampNeg (some q_367)) (3 : Int32).toNatClampNeg (some q_370)))))) := by rw [hen_373, va_up_ne _ _ (by decide)]; exact e74_372
  have he74a_373 : ad_373 74 = q_354 := by rw [had_373, va_up_ne _ _ (by decide)]; exact he74a_371
  have e75_373 : en_373 75 = .inl (cy 6, 4, .inr (.inr (.inr (.inr (fun _ => none))))) := by rw [hen_373, va_up_ne _ _ (by decide)]; exact e75_372
  have he75a_373 : ad_373 75 = q_356 := by rw [had_373, va_up_ne _ _ (by decide)]; exact he75a_371
  have ew76_373 : en_373 76 = .inr (8, [.int 0]) := by rw [hen_373, va_up_ne _ _ (by decide)]; exact ew76_372
  have hew76a_373 : ad_373 76 = q_358 := by rw [had_373, va_up_ne _ _ (by decide)]; exact hew76a_371
  have hv_373 : ∀ j, j < 9 → en_373 (34 + 4 * j) = .inr (5, [.ref (ad_373 (35 + 4 * j)), .ref (ad_373 (36 + 4 * j)), .ref (ad_373 (37 + 4 * j)), .int 0, .int 0, .int 0, .long 0, .long 0, .long 0, .long 0]) := fun j hj => by rw [hen_373, va_up_ne _ _ (fne 34 4 89 hj (by decide)), had_373, va_up_ne _ _ (fne 35 4 89 hj (by decide)), va_up_ne _ _ (fne 36 4 89 hj (by decide)), va_up_ne _ _ (fne 37 4 89 hj (by decide))]; exact hv_372 j hj
  have e89_373 : en_373 89 = .inr (9, [.null, .null, .int 0]) := by rw [hen_373]; exact va_up_self _ _ _
  have he89a_373 : ad_373 89 = q_373 := by rw [had_373]; exact va_up_self _ _ _
  refine W.widen (k := 89) (n := 744) (Nat.le_refl _) (Nat.le_refl _) ?_
  refine lv_dup hx hb dX11_init_89 rfl ?_
  refine W.eq (g2 := F0 m 90 ls [.ref (ad_373 89), .ref q_373, .int 4, .ref q_354]) (by rw [he89a_373]) ?_
  refine hq_callC (va_runIN (As := []) (rest := [.ref q_373, .int 4, .ref q_354]) ⟨hx, hb, hml, hown, hts⟩ (c_X10_init l D cy _ ad_373 en_373 90 89 (by decide) e89_373) (kw_X10_init hts hX.2.2.2.2.2.2.2.2.1 ⟨by decide, by decide⟩) (preC_of hh hK hX) rfl rfl hl.1 rfl (lv_room (Nat.le_of_ble_eq_true rfl)) dX11_init_90 ⟨Nat.le_of_ble_eq_true rfl, Nat.le_of_ble_eq_true rfl⟩) hh hA (fun H locs ad_374 en_374 hw_374 hh => ?_)
  have hh : Hp D A A s.heap H _ (List.range 92) ad_374 en_374 := hh
  obtain ⟨hda_374, hue_374, ew_374, ewa_374, ewb_374⟩ := hw_374
  dsimp only at hda_374 hue_374 ew_374 ewa_374 ewb_374
  have et_374 : en_374 0 = .inr (10, [.ref q_345, .ref q_348, .ref q_351, .ref q_354, .ref q_356, .ref q_358, .int 0, .int 0]) := by rw [hue_374 _ (by decide) (by decide)]; exact et_373
  have heta_374 : ad_374 0 = (ad 0) := by rw [hda_374 _ (by decide)]; exact heta_373
  have e1_374 : en_374 1 = .inr (7, [.ref (ad_346 2), .ref (ad_346 3), .ref (ad_346 10), .ref (ad_346 11), .int 0, .int 2, .int 0]) := by rw [hue_374 _ (by decide) (by decide)]; exact e1_373
  have he1a_374 : ad_374 1 = q_345 := by rw [hda_374 _ (by decide)]; exact he1a_373
  have e10_374 : en_374 10 = .inl (cy 2, 36, .inl f_346) := by rw [hue_374 _ (by decide) (by decide)]; exact e10_373
  have he10a_374 : ad_374 10 = (ad_346 10) := by rw [hda_374 _ (by decide)]; exact he10a_373
  have hex2a_374 : ad_374 2 = (ad_346 2) := by rw [hda_374 _ (by decide)]; exact hex2a_373
  have hex3a_374 : ad_374 3 = (ad_346 3) := by rw [hda_374 _ (by decide)]; exact hex3a_373
  have hex11a_374 : ad_374 11 = (ad_346 11) := by rw [hda_374 _ (by decide)]; exact hex11a_373
  have e12_374 : en_374 12 = .inr (2, [.ref (ad_349 1), .ref (ad_349 13), .ref (ad_349 14), .ref (ad_349 24), .ref (ad_349 33), .int 0]) := by rw [hue_374 _ (by decide) (by decide)]; exact e12_373
  have he12a_374 : ad_374 12 = q_348 := by rw [hda_374 _ (by decide)]; exact he12a_373
  have e13_374 : en_374 13 = .inl (cy 4, 9, .inr (.inr (.inr (.inr (fun j => some (ad_349 (34 + 4 * j))))))) := by rw [hue_374 _ (by decide) (by decide)]; exact e13_373
  have he13a_374 : ad_374 13 = (ad_349 13) := by rw [hda_374 _ (by decide)]; exact he13a_373
  have e14_374 : en_374 14 = .inl (cy 7, 9, .inr (.inr (.inr (.inr (fun j => some (ad_349 (15 + j))))))) := by rw [hue_374 _ (by decide) (by decide)]; exact e14_373
  have he14a_374 : ad_374 14 = (ad_349 14) := by rw [hda_374 _ (by decide)]; exact he14a_373
  have e16_374 : en_374 16 = .inl (cy 0, 6, .inl (fun _ => 0)) := by rw [hue_374 _ (by decide) (by decide)]; exact e16_373
  have he16a_374 : ad_374 16 = (ad_349 16) := by rw [hda_374 _ (by decide)]; exact he16a_373
  have hex24a_374 : ad_374 24 = (ad_349 24) := by rw [hda_374 _ (by decide)]; exact hex24a_373
  have hex33a_374 : ad_374 33 = (ad_349 33) := by rw [hda_374 _ (by decide)]; exact hex33a_373
  have e70_374 : en_374 70 = .inr (0, [.ref (ad_352 1), .ref (ad_352 71), .ref (ad_352 72), .ref (ad_352 73), .null, .null, .null, .int 0, .int 0, .int 0, .int 0, .int 0, .int 0]) := by rw [hue_374 _ (by decide) (by decide)]; exact e70_373
  have he70a_374 : ad_374 70 = q_351 := by rw [hda_374 _ (by decide)]; exact he70a_373
  have hex71a_374 : ad_374 71 = (ad_352 71) := by rw [hda_374 _ (by decide)]; exact hex71a_373
  have hex72a_374 : ad_374 72 = (ad_352 72) := by rw [hda_374 _ (by decide)]; exact hex72a_373
  have hex73a_374 : ad_374 73 = (ad_352 73) := by rw [hda_374 _ (by decide)]; exact hex73a_373
  have e74_374 : en_374 74 = .inl (cy 5, 10, .inr (.inr (.inr (.inr (va_up (va_up (va_up (va_up (fun _ => none) (0 : Int32).toNatClampNeg (some q_361)) (1 : Int32).toNatClampNeg (some q_364)) (2 : Int32).toNatClampNeg (some q_367)) (3 : Int32).toNatClampNeg (some q_370)))))) := by rw [hue_374 _ (by decide) (by decide)]; exact e74_373
  have he74a_374 : ad_374 74 = q_354 := by rw [hda_374 _ (by decide)]; exact he74a_373
  have e75_374 : en_374 75 = .inl (cy 6, 4, .inr (.inr (.inr (.inr (fun _ => none))))) := by rw [hue_374 _ (by decide) (by decide)]; exact e75_373
  have he75a_374 : ad_374 75 = q_356 := by rw [hda_374 _ (by decide)]; exact he75a_373
  have ew76_374 : en_374 76 = .inr (8, [.int 0]) := by rw [hue_374 _ (by decide) (by decide)]; exact ew76_373
  have hew76a_374 : ad_374 76 = q_358 := by rw [hda_374 _ (by decide)]; exact hew76a_373
  have he89a_374 : ad_374 89 = q_373 := by rw [hda_374 _ (by decide)]; exact he89a_373
  have hv_374 : ∀ j, j < 9 → en_374 (34 + 4 * j) = .inr (5, [.ref (ad_374 (35 + 4 * j)), .ref (ad_374 (36 + 4 * j)), .ref (ad_374 (37 + 4 * j)), .int 0, .int 0, .int 0, .long 0, .long 0, .long 0, .long 0]) := fun j hj => by rw [hue_374 _ (flt 34 4 90 hj (by decide)) (fne 34 4 89 hj (by decide)), hda_374 _ (flt 35 4 90 hj (by decide)), hda_374 _ (flt 36 4 90 hj (by decide)), hda_374 _ (flt 37 4 90 hj (by decide))]; exact hv_373 j hj
  have ew89_374 := ew_374
  refine W.widen (k := 91) (n := 765) (Nat.le_refl _) (Nat.le_refl _) ?_
  refine hp_astq hx hb hK hh (q := 74) (v := 89) he74a_374 (List.mem_range.mpr (by decide)) he89a_374 (List.mem_range.mpr (by decide)) e74_374 ew89_374 rfl rfl (vp_in_iff.mpr (by decide)) dX11_init_93 (fun H locs en_375 hen_375 hh => ?_)
  have et_375 : en_375 0 = .inr (10, [.ref q_345, .ref q_348, .ref q_351, .ref q_354, .ref q_356, .ref q_358, .int 0, .int 0]) := by rw [hen_375, va_up_ne _ _ (by decide)]; exact et_374
  have e1_375 : en_375 1 = .inr (7, [.ref (ad_346 2), .ref (ad_346 3), .ref (ad_346 10), .ref (ad_346 11), .int 0, .int 2, .int 0]) := by rw [hen_375, va_up_ne _ _ (by decide)]; exact e1_374
  have e10_375 : en_375 10 = .inl (cy 2, 36, .inl f_346) := by rw [hen_375, va_up_ne _ _ (by decide)]; exact e10_374
  have e12_375 : en_375 12 = .inr (2, [.ref (ad_349 1), .ref (ad_349 13), .ref (ad_349 14), .ref (ad_349 24), .ref (ad_349 33), .int 0]) := by rw [hen_375, va_up_ne _ _ (by decide)]; exact e12_374
  have e13_375 : en_375 13 = .inl (cy 4, 9, .inr (.inr (.inr (.inr (fun j => some (ad_349 (34 + 4 * j))))))) := by rw [hen_375, va_up_ne _ _ (by decide)]; exact e13_374
  have e14_375 : en_375 14 = .inl (cy 7, 9, .inr (.inr (.inr (.inr (fun j => some (ad_349 (15 + j))))))) := by rw [hen_375, va_up_ne _ _ (by decide)]; exact e14_374
  have e16_375 : en_375 16 = .inl (cy 0, 6, .inl (fun _ => 0)) := by rw [hen_375, va_up_ne _ _ (by decide)]; exact e16_374
  have e70_375 : en_375 70 = .inr (0, [.ref (ad_352 1), .ref (ad_352 71), .ref (ad_352 72), .ref (ad_352 73), .null, .null, .null, .int 0, .int 0, .int 0, .int 0, .int 0, .int 0]) := by rw [hen_375, va_up_ne _ _ (by decide)]; exact e70_374
  have e75_375 : en_375 75 = .inl (cy 6, 4, .inr (.inr (.inr (.inr (fun _ => none))))) := by rw [hen_375, va_up_ne _ _ (by decide)]; exact e75_374
  have ew76_375 : en_375 76 = .inr (8, [.int 0]) := by rw [hen_375, va_up_ne _ _ (by decide)]; exact ew76_374
  have ew89_375 : en_375 89 = .inr (9, [.ref (ad_374 90), .ref (ad_374 91), .int 0]) := by rw [hen_375, va_up_ne _ _ (by decide)]; exact ew89_374
  have hv_375 : ∀ j, j < 9 → en_375 (34 + 4 * j) = .inr (5, [.ref (ad_374 (35 + 4 * j)), .ref (ad_374 (36 + 4 * j)), .ref (ad_374 (37 + 4 * j)), .int 0, .int 0, .int 0, .long 0, .long 0, .long 0, .long 0]) := fun j hj => by rw [hen_375, va_up_ne _ _ (fne 34 4 74 hj (by decide))]; exact hv_374 j hj
  have e74_375 : en_375 74 = .inl (cy 5, 10, .inr (.inr (.inr (.inr (va_up (va_up (va_up (va_up (va_up (fun _ => none) (0 : Int32).toNatClampNeg (some q_361)) (1 : Int32).toNatClampNeg (some q_364)) (2 : Int32).toNatClampNeg (some q_367)) (3 : Int32).toNatClampNeg (some q_370)) (4 : Int32).toNatClampNeg (some q_373)))))) := by rw [hen_375]; exact va_up_self _ _ _
  refine lv_iinc (v := 5) (lv' := [(1, .int 5), (0, .ref (ad 0))]) hx hb dX11_init_94 hl (k := 0) rfl (by decide) (by decide) rfl (fun ls hl => ?_)
  refine lv_goto (tgt := 75) hx hb dX11_init_97 (by decide) ?_
  refine lv_iload_n hx hb dX11_init_75 rfl (lv_at hl 0 rfl) ?_
  refine lv_bipush (v := 10) hx hb dX11_init_76 (by decide) ?_
  refine lv_icmp_ge (tgt := 100) hx hb dX11_init_78 (by decide) (fun c_0 => absurd c_0 (by decide)) (fun _ => ?_)
  refine lv_aload_n hx hb dX11_init_81 rfl (lv_at hl 1 rfl) ?_
  refine hp_get hx hb hts ix11 hown hK hh (q := 0) heta_374 (List.mem_range.mpr (by decide)) et_375 rfl 3 (by decide) (hts _ tw_248) (fun _ h9 => h9) rfl dX11_init_82 ?_
  refine lv_iload_n hx hb dX11_init_85 rfl (lv_at hl 0 rfl) ?_
  refine hq_new (ci := 9) (fs := [.null, .null, .int 0]) hx hb hts ix10 tyX10 tyX10_ok hown (hts _ tw_191) (hts _ tw_206) (hts _ tw_7) hK hh hA rfl (fun j hj => by rcases (show j = 0 ∨ j = 1 ∨ j = 2 by omega) with rfl | rfl | rfl <;> rfl) (Nat.le_of_ble_eq_true rfl) (Nat.le_of_ble_eq_true rfl) dX11_init_86 (fun q_376 H ad_376 en_376 had_376 hen_376 hh => ?_)
  have hh : Hp D A A s.heap H _ (List.range 93) ad_376 en_376 := hh
  have et_376 : en_376 0 = .inr (10, [.ref q_345, .ref q_348, .ref q_351, .ref q_354, .ref q_356, .ref q_358, .int 0, .int 0]) := by rw [hen_376, va_up_ne _ _ (by decide)]; exact et_375
  have heta_376 : ad_376 0 = (ad 0) := by rw [had_376, va_up_ne _ _ (by decide)]; exact heta_374
  have e1_376 : en_376 1 = .inr (7, [.ref (ad_346 2), .ref (ad_346 3), .ref (ad_346 10), .ref (ad_346 11), .int 0, .int 2, .int 0]) := by rw [hen_376, va_up_ne _ _ (by decide)]; exact e1_375
  have he1a_376 : ad_376 1 = q_345 := by rw [had_376, va_up_ne _ _ (by decide)]; exact he1a_374
  have e10_376 : en_376 10 = .inl (cy 2, 36, .inl f_346) := by rw [hen_376, va_up_ne _ _ (by decide)]; exact e10_375
  have he10a_376 : ad_376 10 = (ad_346 10) := by rw [had_376, va_up_ne _ _ (by decide)]; exact he10a_374
  have hex2a_376 : ad_376 2 = (ad_346 2) := by rw [had_376, va_up_ne _ _ (by decide)]; exact hex2a_374
  have hex3a_376 : ad_376 3 = (ad_346 3) := by rw [had_376, va_up_ne _ _ (by decide)]; exact hex3a_374
  have hex11a_376 : ad_376 11 = (ad_346 11) := by rw [had_376, va_up_ne _ _ (by decide)]; exact hex11a_374
  have e12_376 : en_376 12 = .inr (2, [.ref (ad_349 1), .ref (ad_349 13), .ref (ad_349 14), .ref (ad_349 24), .ref (ad_349 33), .int 0]) := by rw [hen_376, va_up_ne _ _ (by decide)]; exact e12_375
  have he12a_376 : ad_376 12 = q_348 := by rw [had_376, va_up_ne _ _ (by decide)]; exact he12a_374
  have e13_376 : en_376 13 = .inl (cy 4, 9, .inr (.inr (.inr (.inr (fun j => some (ad_349 (34 + 4 * j))))))) := by rw [hen_376, va_up_ne _ _ (by decide)]; exact e13_375
  have he13a_376 : ad_376 13 = (ad_349 13) := by rw [had_376, va_up_ne _ _ (by decide)]; exact he13a_374
  have e14_376 : en_376 14 = .inl (cy 7, 9, .inr (.inr (.inr (.inr (fun j => some (ad_349 (15 + j))))))) := by rw [hen_376, va_up_ne _ _ (by decide)]; exact e14_375
  have he14a_376 : ad_376 14 = (ad_349 14) := by rw [had_376, va_up_ne _ _ (by decide)]; exact he14a_374
  have e16_376 : en_376 16 = .inl (cy 0, 6, .inl (fun _ => 0)) := by rw [hen_376, va_up_ne _ _ (by decide)]; exact e16_375
  have he16a_376 : ad_376 16 = (ad_349 16) := by rw [had_376, va_up_ne _ _ (by decide)]; exact he16a_374
  have hex24a_376 : ad_376 24 = (ad_349 24) := by rw [had_376, va_up_ne _ _ (by decide)]; exact hex24a_374
  have hex33a_376 : ad_376 33 = (ad_349 33) := by rw [had_376, va_up_ne _ _ (by decide)]; exact hex33a_374
  have e70_376 : en_376 70 = .inr (0, [.ref (ad_352 1), .ref (ad_352 71), .ref (ad_352 72), .ref (ad_352 73), .null, .null, .null, .int 0, .int 0, .int 0, .int 0, .int 0, .int 0]) := by rw [hen_376, va_up_ne _ _ (by decide)]; exact e70_375
  have he70a_376 : ad_376 70 = q_351 := by rw [had_376, va_up_ne _ _ (by decide)]; exact he70a_374
  have hex71a_376 : ad_376 71 = (ad_352 71) := by rw [had_376, va_up_ne _ _ (by decide)]; exact hex71a_374
  have hex72a_376 : ad_376 72 = (ad_352 72) := by rw [had_376, va_up_ne _ _ (by decide)]; exact hex72a_374
  have hex73a_376 : ad_376 73 = (ad_352 73) := by rw [had_376, va_up_ne _ _ (by decide)]; exact hex73a_374
  have e74_376 : en_376 74 = .inl (cy 5, 10, .inr (.inr (.inr (.inr (va_up (va_up (va_up (va_up (va_up (fun _ => none) (0 : Int32).toNatClampNeg (some q_361)) (1 : Int32).toNatClampNeg (some q_364)) (2 : Int32).toNatClampNeg (some q_367)) (3 : Int32).toNatClampNeg (some q_370)) (4 : Int32).toNatClampNeg (some q_373)))))) := by rw [hen_376, va_up_ne _ _ (by decide)]; exact e74_375
  have he74a_376 : ad_376 74 = q_354 := by rw [had_376, va_up_ne _ _ (by decide)]; exact he74a_374
  have e75_376 : en_376 75 = .inl (cy 6, 4, .inr (.inr (.inr (.inr (fun _ => none))))) := by rw [hen_376, va_up_ne _ _ (by decide)]; exact e75_375
  have he75a_376 : ad_376 75 = q_356 := by rw [had_376, va_up_ne _ _ (by decide)]; exact he75a_374
  have ew76_376 : en_376 76 = .inr (8, [.int 0]) := by rw [hen_376, va_up_ne _ _ (by decide)]; exact ew76_375
  have hew76a_376 : ad_376 76 = q_358 := by rw [had_376, va_up_ne _ _ (by decide)]; exact hew76a_374
  have hv_376 : ∀ j, j < 9 → en_376 (34 + 4 * j) = .inr (5, [.ref (ad_376 (35 + 4 * j)), .ref (ad_376 (36 + 4 * j)), .ref (ad_376 (37 + 4 * j)), .int 0, .int 0, .int 0, .long 0, .long 0, .long 0, .long 0]) := fun j hj => by rw [hen_376, va_up_ne _ _ (fne 34 4 92 hj (by decide)), had_376, va_up_ne _ _ (fne 35 4 92 hj (by decide)), va_up_ne _ _ (fne 36 4 92 hj (by decide)), va_up_ne _ _ (fne 37 4 92 hj (by decide))]; exact hv_375 j hj
  have e92_376 : en_376 92 = .inr (9, [.null, .null, .int 0]) := by rw [hen_376]; exact va_up_self _ _ _
  have he92a_376 : ad_376 92 = q_376 := by rw [had_376]; exact va_up_self _ _ _
  refine W.widen (k := 92) (n := 768) (Nat.le_refl _) (Nat.le_refl _) ?_
  refine lv_dup hx hb dX11_init_89 rfl ?_
  refine W.eq (g2 := F0 m 90 ls [.ref (ad_376 92), .ref q_376, .int 5, .ref q_354]) (by rw [he92a_376]) ?_
  refine hq_callC (va_runIN (As := []) (rest := [.ref q_376, .int 5, .ref q_354]) ⟨hx, hb, hml, hown, hts⟩ (c_X10_init l D cy _ ad_376 en_376 93 92 (by decide) e92_376) (kw_X10_init hts hX.2.2.2.2.2.2.2.2.1 ⟨by decide, by decide⟩) (preC_of hh hK hX) rfl rfl hl.1 rfl (lv_room (Nat.le_of_ble_eq_true rfl)) dX11_init_90 ⟨Nat.le_of_ble_eq_true rfl, Nat.le_of_ble_eq_true rfl⟩) hh hA (fun H locs ad_377 en_377 hw_377 hh => ?_)
  have hh : Hp D A A s.heap H _ (List.range 95) ad_377 en_377 := hh
  obtain ⟨hda_377, hue_377, ew_377, ewa_377, ewb_377⟩ := hw_377
  dsimp only at hda_377 hue_377 ew_377 ewa_377 ewb_377
  have et_377 : en_377 0 = .inr (10, [.ref q_345, .ref q_348, .ref q_351, .ref q_354, .ref q_356, .ref q_358, .int 0, .int 0]) := by rw [hue_377 _ (by decide) (by decide)]; exact et_376
  have heta_377 : ad_377 0 = (ad 0) := by rw [hda_377 _ (by decide)]; exact heta_376
  have e1_377 : en_377 1 = .inr (7, [.ref (ad_346 2), .ref (ad_346 3), .ref (ad_346 10), .ref (ad_346 11), .int 0, .int 2, .int 0]) := by rw [hue_377 _ (by decide) (by decide)]; exact e1_376
  have he1a_377 : ad_377 1 = q_345 := by rw [hda_377 _ (by decide)]; exact he1a_376
  have e10_377 : en_377 10 = .inl (cy 2, 36, .inl f_346) := by rw [hue_377 _ (by decide) (by decide)]; exact e10_376
  have he10a_377 : ad_377 10 = (ad_346 10) := by rw [hda_377 _ (by decide)]; exact he10a_376
  have hex2a_377 : ad_377 2 = (ad_346 2) := by rw [hda_377 _ (by decide)]; exact hex2a_376
  have hex3a_377 : ad_377 3 = (ad_346 3) := by rw [hda_377 _ (by decide)]; exact hex3a_376
  have hex11a_377 : ad_377 11 = (ad_346 11) := by rw [hda_377 _ (by decide)]; exact hex11a_376
  have e12_377 : en_377 12 = .inr (2, [.ref (ad_349 1), .ref (ad_349 13), .ref (ad_349 14), .ref (ad_349 24), .ref (ad_349 33), .int 0]) := by rw [hue_377 _ (by decide) (by decide)]; exact e12_376
  have he12a_377 : ad_377 12 = q_348 := by rw [hda_377 _ (by decide)]; exact he12a_376
  have e13_377 : en_377 13 = .inl (cy 4, 9, .inr (.inr (.inr (.inr (fun j => some (ad_349 (34 + 4 * j))))))) := by rw [hue_377 _ (by decide) (by decide)]; exact e13_376
  have he13a_377 : ad_377 13 = (ad_349 13) := by rw [hda_377 _ (by decide)]; exact he13a_376
  have e14_377 : en_377 14 = .inl (cy 7, 9, .inr (.inr (.inr (.inr (fun j => some (ad_349 (15 + j))))))) := by rw [hue_377 _ (by decide) (by decide)]; exact e14_376
  have he14a_377 : ad_377 14 = (ad_349 14) := by rw [hda_377 _ (by decide)]; exact he14a_376
  have e16_377 : en_377 16 = .inl (cy 0, 6, .inl (fun _ => 0)) := by rw [hue_377 _ (by decide) (by decide)]; exact e16_376
  have he16a_377 : ad_377 16 = (ad_349 16) := by rw [hda_377 _ (by decide)]; exact he16a_376
  have hex24a_377 : ad_377 24 = (ad_349 24) := by rw [hda_377 _ (by decide)]; exact hex24a_376
  have hex33a_377 : ad_377 33 = (ad_349 33) := by rw [hda_377 _ (by decide)]; exact hex33a_376
  have e70_377 : en_377 70 = .inr (0, [.ref (ad_352 1), .ref (ad_352 71), .ref (ad_352 72), .ref (ad_352 73), .null, .null, .null, .int 0, .int 0, .int 0, .int 0, .int 0, .int 0]) := by rw [hue_377 _ (by decide) (by decide)]; exact e70_376
  have he70a_377 : ad_377 70 = q_351 := by rw [hda_377 _ (by decide)]; exact he70a_376
  have hex71a_377 : ad_377 71 = (ad_352 71) := by rw [hda_377 _ (by decide)]; exact hex71a_376
  have hex72a_377 : ad_377 72 = (ad_352 72) := by rw [hda_377 _ (by decide)]; exact hex72a_376
  have hex73a_377 : ad_377 73 = (ad_352 73) := by rw [hda_377 _ (by decide)]; exact hex73a_376
  have e74_377 : en_377 74 = .inl (cy 5, 10, .inr (.inr (.inr (.inr (va_up (va_up (va_up (va_up (va_up (fun _ => none) (0 : Int32).toNatClampNeg (some q_361)) (1 : Int32).toNatClampNeg (some q_364)) (2 : Int32).toNatClampNeg (some q_367)) (3 : Int32).toNatClampNeg (some q_370)) (4 : Int32).toNatClampNeg (some q_373)))))) := by rw [hue_377 _ (by decide) (by decide)]; exact e74_376
  have he74a_377 : ad_377 74 = q_354 := by rw [hda_377 _ (by decide)]; exact he74a_376
  have e75_377 : en_377 75 = .inl (cy 6, 4, .inr (.inr (.inr (.inr (fun _ => none))))) := by rw [hue_377 _ (by decide) (by decide)]; exact e75_376
  have he75a_377 : ad_377 75 = q_356 := by rw [hda_377 _ (by decide)]; exact he75a_376
  have ew76_377 : en_377 76 = .inr (8, [.int 0]) := by rw [hue_377 _ (by decide) (by decide)]; exact ew76_376
  have hew76a_377 : ad_377 76 = q_358 := by rw [hda_377 _ (by decide)]; exact hew76a_376
  have he92a_377 : ad_377 92 = q_376 := by rw [hda_377 _ (by decide)]; exact he92a_376
  have hv_377 : ∀ j, j < 9 → en_377 (34 + 4 * j) = .inr (5, [.ref (ad_377 (35 + 4 * j)), .ref (ad_377 (36 + 4 * j)), .ref (ad_377 (37 + 4 * j)), .int 0, .int 0, .int 0, .long 0, .long 0, .long 0, .long 0]) := fun j hj => by rw [hue_377 _ (flt 34 4 93 hj (by decide)) (fne 34 4 92 hj (by decide)), hda_377 _ (flt 35 4 93 hj (by decide)), hda_377 _ (flt 36 4 93 hj (by decide)), hda_377 _ (flt 37 4 93 hj (by decide))]; exact hv_376 j hj
  have ew92_377 := ew_377
  refine W.widen (k := 94) (n := 789) (Nat.le_refl _) (Nat.le_refl _) ?_
  refine hp_astq hx hb hK hh (q := 74) (v := 92) he74a_377 (List.mem_range.mpr (by decide)) he92a_377 (List.mem_range.mpr (by decide)) e74_377 ew92_377 rfl rfl (vp_in_iff.mpr (by decide)) dX11_init_93 (fun H locs en_378 hen_378 hh => ?_)
  have et_378 : en_378 0 = .inr (10, [.ref q_345, .ref q_348, .ref q_351, .ref q_354, .ref q_356, .ref q_358, .int 0, .int 0]) := by rw [hen_378, va_up_ne _ _ (by decide)]; exact et_377
  have e1_378 : en_378 1 = .inr (7, [.ref (ad_346 2), .ref (ad_346 3), .ref (ad_346 10), .ref (ad_346 11), .int 0, .int 2, .int 0]) := by rw [hen_378, va_up_ne _ _ (by decide)]; exact e1_377
  have e10_378 : en_378 10 = .inl (cy 2, 36, .inl f_346) := by rw [hen_378, va_up_ne _ _ (by decide)]; exact e10_377
  have e12_378 : en_378 12 = .inr (2, [.ref (ad_349 1), .ref (ad_349 13), .ref (ad_349 14), .ref (ad_349 24), .ref (ad_349 33), .int 0]) := by rw [hen_378, va_up_ne _ _ (by decide)]; exact e12_377
  have e13_378 : en_378 13 = .inl (cy 4, 9, .inr (.inr (.inr (.inr (fun j => some (ad_349 (34 + 4 * j))))))) := by rw [hen_378, va_up_ne _ _ (by decide)]; exact e13_377
  have e14_378 : en_378 14 = .inl (cy 7, 9, .inr (.inr (.inr (.inr (fun j => some (ad_349 (15 + j))))))) := by rw [hen_378, va_up_ne _ _ (by decide)]; exact e14_377
  have e16_378 : en_378 16 = .inl (cy 0, 6, .inl (fun _ => 0)) := by rw [hen_378, va_up_ne _ _ (by decide)]; exact e16_377
  have e70_378 : en_378 70 = .inr (0, [.ref (ad_352 1), .ref (ad_352 71), .ref (ad_352 72), .ref (ad_352 73), .null, .null, .null, .int 0, .int 0, .int 0, .int 0, .int 0, .int 0]) := by rw [hen_378, va_up_ne _ _ (by decide)]; exact e70_377
  have e75_378 : en_378 75 = .inl (cy 6, 4, .inr (.inr (.inr (.inr (fun _ => none))))) := by rw [hen_378, va_up_ne _ _ (by decide)]; exact e75_377
  have ew76_378 : en_378 76 = .inr (8, [.int 0]) := by rw [hen_378, va_up_ne _ _ (by decide)]; exact ew76_377
  have ew92_378 : en_378 92 = .inr (9, [.ref (ad_377 93), .ref (ad_377 94), .int 0]) := by rw [hen_378, va_up_ne _ _ (by decide)]; exact ew92_377
  have hv_378 : ∀ j, j < 9 → en_378 (34 + 4 * j) = .inr (5, [.ref (ad_377 (35 + 4 * j)), .ref (ad_377 (36 + 4 * j)), .ref (ad_377 (37 + 4 * j)), .int 0, .int 0, .int 0, .long 0, .long 0, .long 0, .long 0]) := fun j hj => by rw [hen_378, va_up_ne _ _ (fne 34 4 74 hj (by decide))]; exact hv_377 j hj
  have e74_378 : en_378 74 = .inl (cy 5, 10, .inr (.inr (.inr (.inr (va_up (va_up (va_up (va_up (va_up (va_up (fun _ => none) (0 : Int32).toNatClampNeg (some q_361)) (1 : Int32).toNatClampNeg (some q_364)) (2 : Int32).toNatClampNeg (some q_367)) (3 : Int32).toNatClampNeg (some q_370)) (4 : Int32).toNatClampNeg (some q_373)) (5 : Int32).toNatClampNeg (some q_376)))))) := by rw [hen_378]; exact va_up_self _ _ _
  refine lv_iinc (v := 6) (lv' := [(1, .int 6), (0, .ref (ad 0))]) hx hb dX11_init_94 hl (k := 0) rfl (by decide) (by decide) rfl (fun ls hl => ?_)
  refine lv_goto (tgt := 75) hx hb dX11_init_97 (by decide) ?_
  refine lv_iload_n hx hb dX11_init_75 rfl (lv_at hl 0 rfl) ?_
  refine lv_bipush (v := 10) hx hb dX11_init_76 (by decide) ?_
  refine lv_icmp_ge (tgt := 100) hx hb dX11_init_78 (by decide) (fun c_0 => absurd c_0 (by decide)) (fun _ => ?_)
  refine lv_aload_n hx hb dX11_init_81 rfl (lv_at hl 1 rfl) ?_
  refine hp_get hx hb hts ix11 hown hK hh (q := 0) heta_377 (List.mem_range.mpr (by decide)) et_378 rfl 3 (by decide) (hts _ tw_248) (fun _ h9 => h9) rfl dX11_init_82 ?_
  refine lv_iload_n hx hb dX11_init_85 rfl (lv_at hl 0 rfl) ?_
  refine hq_new (ci := 9) (fs := [.null, .null, .int 0]) hx hb hts ix10 tyX10 tyX10_ok hown (hts _ tw_191) (hts _ tw_206) (hts _ tw_7) hK hh hA rfl (fun j hj => by rcases (show j = 0 ∨ j = 1 ∨ j = 2 by omega) with rfl | rfl | rfl <;> rfl) (Nat.le_of_ble_eq_true rfl) (Nat.le_of_ble_eq_true rfl) dX11_init_86 (fun q_379 H ad_379 en_379 had_379 hen_379 hh => ?_)
  have hh : Hp D A A s.heap H _ (List.range 96) ad_379 en_379 := hh
  have et_379 : en_379 0 = .inr (10, [.ref q_345, .ref q_348, .ref q_351, .ref q_354, .ref q_356, .ref q_358, .int 0, .int 0]) := by rw [hen_379, va_up_ne _ _ (by decide)]; exact et_378
  have heta_379 : ad_379 0 = (ad 0) := by rw [had_379, va_up_ne _ _ (by decide)]; exact heta_377
  have e1_379 : en_379 1 = .inr (7, [.ref (ad_346 2), .ref (ad_346 3), .ref (ad_346 10), .ref (ad_346 11), .int 0, .int 2, .int 0]) := by rw [hen_379, va_up_ne _ _ (by decide)]; exact e1_378
  have he1a_379 : ad_379 1 = q_345 := by rw [had_379, va_up_ne _ _ (by decide)]; exact he1a_377
  have e10_379 : en_379 10 = .inl (cy 2, 36, .inl f_346) := by rw [hen_379, va_up_ne _ _ (by decide)]; exact e10_378
  have he10a_379 : ad_379 10 = (ad_346 10) := by rw [had_379, va_up_ne _ _ (by decide)]; exact he10a_377
  have hex2a_379 : ad_379 2 = (ad_346 2) := by rw [had_379, va_up_ne _ _ (by decide)]; exact hex2a_377
  have hex3a_379 : ad_379 3 = (ad_346 3) := by rw [had_379, va_up_ne _ _ (by decide)]; exact hex3a_377
  have hex11a_379 : ad_379 11 = (ad_346 11) := by rw [had_379, va_up_ne _ _ (by decide)]; exact hex11a_377
  have e12_379 : en_379 12 = .inr (2, [.ref (ad_349 1), .ref (ad_349 13), .ref (ad_349 14), .ref (ad_349 24), .ref (ad_349 33), .int 0]) := by rw [hen_379, va_up_ne _ _ (by decide)]; exact e12_378
  have he12a_379 : ad_379 12 = q_348 := by rw [had_379, va_up_ne _ _ (by decide)]; exact he12a_377
  have e13_379 : en_379 13 = .inl (cy 4, 9, .inr (.inr (.inr (.inr (fun j => some (ad_349 (34 + 4 * j))))))) := by rw [hen_379, va_up_ne _ _ (by decide)]; exact e13_378
  have he13a_379 : ad_379 13 = (ad_349 13) := by rw [had_379, va_up_ne _ _ (by decide)]; exact he13a_377
  have e14_379 : en_379 14 = .inl (cy 7, 9, .inr (.inr (.inr (.inr (fun j => some (ad_349 (15 + j))))))) := by rw [hen_379, va_up_ne _ _ (by decide)]; exact e14_378
  have he14a_379 : ad_379 14 = (ad_349 14) := by rw [had_379, va_up_ne _ _ (by decide)]; exact he14a_377
  have e16_379 : en_379 16 = .inl (cy 0, 6, .inl (fun _ => 0)) := by rw [hen_379, va_up_ne _ _ (by decide)]; exact e16_378
  have he16a_379 : ad_379 16 = (ad_349 16) := by rw [had_379, va_up_ne _ _ (by decide)]; exact he16a_377
  have hex24a_379 : ad_379 24 = (ad_349 24) := by rw [had_379, va_up_ne _ _ (by decide)]; exact hex24a_377
  have hex33a_379 : ad_379 33 = (ad_349 33) := by rw [had_379, va_up_ne _ _ (by decide)]; exact hex33a_377
  have e70_379 : en_379 70 = .inr (0, [.ref (ad_352 1), .ref (ad_352 71), .ref (ad_352 72), .ref (ad_352 73), .null, .null, .null, .int 0, .int 0, .int 0, .int 0, .int 0, .int 0]) := by rw [hen_379, va_up_ne _ _ (by decide)]; exact e70_378
  have he70a_379 : ad_379 70 = q_351 := by rw [had_379, va_up_ne _ _ (by decide)]; exact he70a_377
  have hex71a_379 : ad_379 71 = (ad_352 71) := by rw [had_379, va_up_ne _ _ (by decide)]; exact hex71a_377
  have hex72a_379 : ad_379 72 = (ad_352 72) := by rw [had_379, va_up_ne _ _ (by decide)]; exact hex72a_377
  have hex73a_379 : ad_379 73 = (ad_352 73) := by rw [had_379, va_up_ne _ _ (by decide)]; exact hex73a_377
  have e74_379 : en_379 74 = .inl (cy 5, 10, .inr (.inr (.inr (.inr (va_up (va_up (va_up (va_up (va_up (va_up (fun _ => none) (0 : Int32).toNatClampNeg (some q_361)) (1 : Int32).toNatClampNeg (some q_364)) (2 : Int32).toNatClampNeg (some q_367)) (3 : Int32).toNatClampNeg (some q_370)) (4 : Int32).toNatClampNeg (some q_373)) (5 : Int32).toNatClampNeg (some q_376)))))) := by rw [hen_379, va_up_ne _ _ (by decide)]; exact e74_378
  have he74a_379 : ad_379 74 = q_354 := by rw [had_379, va_up_ne _ _ (by decide)]; exact he74a_377
  have e75_379 : en_379 75 = .inl (cy 6, 4, .inr (.inr (.inr (.inr (fun _ => none))))) := by rw [hen_379, va_up_ne _ _ (by decide)]; exact e75_378
  have he75a_379 : ad_379 75 = q_356 := by rw [had_379, va_up_ne _ _ (by decide)]; exact he75a_377
  have ew76_379 : en_379 76 = .inr (8, [.int 0]) := by rw [hen_379, va_up_ne _ _ (by decide)]; exact ew76_378
  have hew76a_379 : ad_379 76 = q_358 := by rw [had_379, va_up_ne _ _ (by decide)]; exact hew76a_377
  have hv_379 : ∀ j, j < 9 → en_379 (34 + 4 * j) = .inr (5, [.ref (ad_379 (35 + 4 * j)), .ref (ad_379 (36 + 4 * j)), .ref (ad_379 (37 + 4 * j)), .int 0, .int 0, .int 0, .long 0, .long 0, .long 0, .long 0]) := fun j hj => by rw [hen_379, va_up_ne _ _ (fne 34 4 95 hj (by decide)), had_379, va_up_ne _ _ (fne 35 4 95 hj (by decide)), va_up_ne _ _ (fne 36 4 95 hj (by decide)), va_up_ne _ _ (fne 37 4 95 hj (by decide))]; exact hv_378 j hj
  have e95_379 : en_379 95 = .inr (9, [.null, .null, .int 0]) := by rw [hen_379]; exact va_up_self _ _ _
  have he95a_379 : ad_379 95 = q_379 := by rw [had_379]; exact va_up_self _ _ _
  refine W.widen (k := 95) (n := 792) (Nat.le_refl _) (Nat.le_refl _) ?_
  refine lv_dup hx hb dX11_init_89 rfl ?_
  refine W.eq (g2 := F0 m 90 ls [.ref (ad_379 95), .ref q_379, .int 6, .ref q_354]) (by rw [he95a_379]) ?_
  refine hq_callC (va_runIN (As := []) (rest := [.ref q_379, .int 6, .ref q_354]) ⟨hx, hb, hml, hown, hts⟩ (c_X10_init l D cy _ ad_379 en_379 96 95 (by decide) e95_379) (kw_X10_init hts hX.2.2.2.2.2.2.2.2.1 ⟨by decide, by decide⟩) (preC_of hh hK hX) rfl rfl hl.1 rfl (lv_room (Nat.le_of_ble_eq_true rfl)) dX11_init_90 ⟨Nat.le_of_ble_eq_true rfl, Nat.le_of_ble_eq_true rfl⟩) hh hA (fun H locs ad_380 en_380 hw_380 hh => ?_)
  have hh : Hp D A A s.heap H _ (List.range 98) ad_380 en_380 := hh
  obtain ⟨hda_380, hue_380, ew_380, ewa_380, ewb_380⟩ := hw_380
  dsimp only at hda_380 hue_380 ew_380 ewa_380 ewb_380
  have et_380 : en_380 0 = .inr (10, [.ref q_345, .ref q_348, .ref q_351, .ref q_354, .ref q_356, .ref q_358, .int 0, .int 0]) := by rw [hue_380 _ (by decide) (by decide)]; exact et_379
  have heta_380 : ad_380 0 = (ad 0) := by rw [hda_380 _ (by decide)]; exact heta_379
  have e1_380 : en_380 1 = .inr (7, [.ref (ad_346 2), .ref (ad_346 3), .ref (ad_346 10), .ref (ad_346 11), .int 0, .int 2, .int 0]) := by rw [hue_380 _ (by decide) (by decide)]; exact e1_379
  have he1a_380 : ad_380 1 = q_345 := by rw [hda_380 _ (by decide)]; exact he1a_379
  have e10_380 : en_380 10 = .inl (cy 2, 36, .inl f_346) := by rw [hue_380 _ (by decide) (by decide)]; exact e10_379
  have he10a_380 : ad_380 10 = (ad_346 10) := by rw [hda_380 _ (by decide)]; exact he10a_379
  have hex2a_380 : ad_380 2 = (ad_346 2) := by rw [hda_380 _ (by decide)]; exact hex2a_379
  have hex3a_380 : ad_380 3 = (ad_346 3) := by rw [hda_380 _ (by decide)]; exact hex3a_379
  have hex11a_380 : ad_380 11 = (ad_346 11) := by rw [hda_380 _ (by decide)]; exact hex11a_379
  have e12_380 : en_380 12 = .inr (2, [.ref (ad_349 1), .ref (ad_349 13), .ref (ad_349 14), .ref (ad_349 24), .ref (ad_349 33), .int 0]) := by rw [hue_380 _ (by decide) (by decide)]; exact e12_379
  have he12a_380 : ad_380 12 = q_348 := by rw [hda_380 _ (by decide)]; exact he12a_379
  have e13_380 : en_380 13 = .inl (cy 4, 9, .inr (.inr (.inr (.inr (fun j => some (ad_349 (34 + 4 * j))))))) := by rw [hue_380 _ (by decide) (by decide)]; exact e13_379
  have he13a_380 : ad_380 13 = (ad_349 13) := by rw [hda_380 _ (by decide)]; exact he13a_379
  have e14_380 : en_380 14 = .inl (cy 7, 9, .inr (.inr (.inr (.inr (fun j => some (ad_349 (15 + j))))))) := by rw [hue_380 _ (by decide) (by decide)]; exact e14_379
  have he14a_380 : ad_380 14 = (ad_349 14) := by rw [hda_380 _ (by decide)]; exact he14a_379
  have e16_380 : en_380 16 = .inl (cy 0, 6, .inl (fun _ => 0)) := by rw [hue_380 _ (by decide) (by decide)]; exact e16_379
  have he16a_380 : ad_380 16 = (ad_349 16) := by rw [hda_380 _ (by decide)]; exact he16a_379
  have hex24a_380 : ad_380 24 = (ad_349 24) := by rw [hda_380 _ (by decide)]; exact hex24a_379
  have hex33a_380 : ad_380 33 = (ad_349 33) := by rw [hda_380 _ (by decide)]; exact hex33a_379
  have e70_380 : en_380 70 = .inr (0, [.ref (ad_352 1), .ref (ad_352 71), .ref (ad_352 72), .ref (ad_352 73), .null, .null, .null, .int 0, .int 0, .int 0, .int 0, .int 0, .int 0]) := by rw [hue_380 _ (by decide) (by decide)]; exact e70_379
  have he70a_380 : ad_380 70 = q_351 := by rw [hda_380 _ (by decide)]; exact he70a_379
  have hex71a_380 : ad_380 71 = (ad_352 71) := by rw [hda_380 _ (by decide)]; exact hex71a_379
  have hex72a_380 : ad_380 72 = (ad_352 72) := by rw [hda_380 _ (by decide)]; exact hex72a_379
  have hex73a_380 : ad_380 73 = (ad_352 73) := by rw [hda_380 _ (by decide)]; exact hex73a_379
  have e74_380 : en_380 74 = .inl (cy 5, 10, .inr (.inr (.inr (.inr (va_up (va_up (va_up (va_up (va_up (va_up (fun _ => none) (0 : Int32).toNatClampNeg (some q_361)) (1 : Int32).toNatClampNeg (some q_364)) (2 : Int32).toNatClampNeg (some q_367)) (3 : Int32).toNatClampNeg (some q_370)) (4 : Int32).toNatClampNeg (some q_373)) (5 : Int32).toNatClampNeg (some q_376)))))) := by rw [hue_380 _ (by decide) (by decide)]; exact e74_379
  have he74a_380 : ad_380 74 = q_354 := by rw [hda_380 _ (by decide)]; exact he74a_379
  have e75_380 : en_380 75 = .inl (cy 6, 4, .inr (.inr (.inr (.inr (fun _ => none))))) := by rw [hue_380 _ (by decide) (by decide)]; exact e75_379
  have he75a_380 : ad_380 75 = q_356 := by rw [hda_380 _ (by decide)]; exact he75a_379
  have ew76_380 : en_380 76 = .inr (8, [.int 0]) := by rw [hue_380 _ (by decide) (by decide)]; exact ew76_379
  have hew76a_380 : ad_380 76 = q_358 := by rw [hda_380 _ (by decide)]; exact hew76a_379
  have he95a_380 : ad_380 95 = q_379 := by rw [hda_380 _ (by decide)]; exact he95a_379
  have hv_380 : ∀ j, j < 9 → en_380 (34 + 4 * j) = .inr (5, [.ref (ad_380 (35 + 4 * j)), .ref (ad_380 (36 + 4 * j)), .ref (ad_380 (37 + 4 * j)), .int 0, .int 0, .int 0, .long 0, .long 0, .long 0, .long 0]) := fun j hj => by rw [hue_380 _ (flt 34 4 96 hj (by decide)) (fne 34 4 95 hj (by decide)), hda_380 _ (flt 35 4 96 hj (by decide)), hda_380 _ (flt 36 4 96 hj (by decide)), hda_380 _ (flt 37 4 96 hj (by decide))]; exact hv_379 j hj
  have ew95_380 := ew_380
  refine W.widen (k := 97) (n := 813) (Nat.le_refl _) (Nat.le_refl _) ?_
  refine hp_astq hx hb hK hh (q := 74) (v := 95) he74a_380 (List.mem_range.mpr (by decide)) he95a_380 (List.mem_range.mpr (by decide)) e74_380 ew95_380 rfl rfl (vp_in_iff.mpr (by decide)) dX11_init_93 (fun H locs en_381 hen_381 hh => ?_)
  have et_381 : en_381 0 = .inr (10, [.ref q_345, .ref q_348, .ref q_351, .ref q_354, .ref q_356, .ref q_358, .int 0, .int 0]) := by rw [hen_381, va_up_ne _ _ (by decide)]; exact et_380
  have e1_381 : en_381 1 = .inr (7, [.ref (ad_346 2), .ref (ad_346 3), .ref (ad_346 10), .ref (ad_346 11), .int 0, .int 2, .int 0]) := by rw [hen_381, va_up_ne _ _ (by decide)]; exact e1_380
  have e10_381 : en_381 10 = .inl (cy 2, 36, .inl f_346) := by rw [hen_381, va_up_ne _ _ (by decide)]; exact e10_380
  have e12_381 : en_381 12 = .inr (2, [.ref (ad_349 1), .ref (ad_349 13), .ref (ad_349 14), .ref (ad_349 24), .ref (ad_349 33), .int 0]) := by rw [hen_381, va_up_ne _ _ (by decide)]; exact e12_380
  have e13_381 : en_381 13 = .inl (cy 4, 9, .inr (.inr (.inr (.inr (fun j => some (ad_349 (34 + 4 * j))))))) := by rw [hen_381, va_up_ne _ _ (by decide)]; exact e13_380
  have e14_381 : en_381 14 = .inl (cy 7, 9, .inr (.inr (.inr (.inr (fun j => some (ad_349 (15 + j))))))) := by rw [hen_381, va_up_ne _ _ (by decide)]; exact e14_380
  have e16_381 : en_381 16 = .inl (cy 0, 6, .inl (fun _ => 0)) := by rw [hen_381, va_up_ne _ _ (by decide)]; exact e16_380
  have e70_381 : en_381 70 = .inr (0, [.ref (ad_352 1), .ref (ad_352 71), .ref (ad_352 72), .ref (ad_352 73), .null, .null, .null, .int 0, .int 0, .int 0, .int 0, .int 0, .int 0]) := by rw [hen_381, va_up_ne _ _ (by decide)]; exact e70_380
  have e75_381 : en_381 75 = .inl (cy 6, 4, .inr (.inr (.inr (.inr (fun _ => none))))) := by rw [hen_381, va_up_ne _ _ (by decide)]; exact e75_380
  have ew76_381 : en_381 76 = .inr (8, [.int 0]) := by rw [hen_381, va_up_ne _ _ (by decide)]; exact ew76_380
  have ew95_381 : en_381 95 = .inr (9, [.ref (ad_380 96), .ref (ad_380 97), .int 0]) := by rw [hen_381, va_up_ne _ _ (by decide)]; exact ew95_380
  have hv_381 : ∀ j, j < 9 → en_381 (34 + 4 * j) = .inr (5, [.ref (ad_380 (35 + 4 * j)), .ref (ad_380 (36 + 4 * j)), .ref (ad_380 (37 + 4 * j)), .int 0, .int 0, .int 0, .long 0, .long 0, .long 0, .long 0]) := fun j hj => by rw [hen_381, va_up_ne _ _ (fne 34 4 74 hj (by decide))]; exact hv_380 j hj
  have e74_381 : en_381 74 = .inl (cy 5, 10, .inr (.inr (.inr (.inr (va_up (va_up (va_up (va_up (va_up (va_up (va_up (fun _ => none) (0 : Int32).toNatClampNeg (some q_361)) (1 : Int32).toNatClampNeg (some q_364)) (2 : Int32).toNatClampNeg (some q_367)) (3 : Int32).toNatClampNeg (some q_370)) (4 : Int32).toNatClampNeg (some q_373)) (5 : Int32).toNatClampNeg (some q_376)) (6 : Int32).toNatClampNeg (some q_379)))))) := by rw [hen_381]; exact va_up_self _ _ _
  refine lv_iinc (v := 7) (lv' := [(1, .int 7), (0, .ref (ad 0))]) hx hb dX11_init_94 hl (k := 0) rfl (by decide) (by decide) rfl (fun ls hl => ?_)
  refine lv_goto (tgt := 75) hx hb dX11_init_97 (by decide) ?_
  refine lv_iload_n hx hb dX11_init_75 rfl (lv_at hl 0 rfl) ?_
  refine lv_bipush (v := 10) hx hb dX11_init_76 (by decide) ?_
  refine lv_icmp_ge (tgt := 100) hx hb dX11_init_78 (by decide) (fun c_0 => absurd c_0 (by decide)) (fun _ => ?_)
  refine lv_aload_n hx hb dX11_init_81 rfl (lv_at hl 1 rfl) ?_
  refine hp_get hx hb hts ix11 hown hK hh (q := 0) heta_380 (List.mem_range.mpr (by decide)) et_381 rfl 3 (by decide) (hts _ tw_248) (fun _ h9 => h9) rfl dX11_init_82 ?_
  refine lv_iload_n hx hb dX11_init_85 rfl (lv_at hl 0 rfl) ?_
  refine hq_new (ci := 9) (fs := [.null, .null, .int 0]) hx hb hts ix10 tyX10 tyX10_ok hown (hts _ tw_191) (hts _ tw_206) (hts _ tw_7) hK hh hA rfl (fun j hj => by rcases (show j = 0 ∨ j = 1 ∨ j = 2 by omega) with rfl | rfl | rfl <;> rfl) (Nat.le_of_ble_eq_true rfl) (Nat.le_of_ble_eq_true rfl) dX11_init_86 (fun q_382 H ad_382 en_382 had_382 hen_382 hh => ?_)
  have hh : Hp D A A s.heap H _ (List.range 99) ad_382 en_382 := hh
  have et_382 : en_382 0 = .inr (10, [.ref q_345, .ref q_348, .ref q_351, .ref q_354, .ref q_356, .ref q_358, .int 0, .int 0]) := by rw [hen_382, va_up_ne _ _ (by decide)]; exact et_381
  have heta_382 : ad_382 0 = (ad 0) := by rw [had_382, va_up_ne _ _ (by decide)]; exact heta_380
  have e1_382 : en_382 1 = .inr (7, [.ref (ad_346 2), .ref (ad_346 3), .ref (ad_346 10), .ref (ad_346 11), .int 0, .int 2, .int 0]) := by rw [hen_382, va_up_ne _ _ (by decide)]; exact e1_381
  have he1a_382 : ad_382 1 = q_345 := by rw [had_382, va_up_ne _ _ (by decide)]; exact he1a_380
  have e10_382 : en_382 10 = .inl (cy 2, 36, .inl f_346) := by rw [hen_382, va_up_ne _ _ (by decide)]; exact e10_381
  have he10a_382 : ad_382 10 = (ad_346 10) := by rw [had_382, va_up_ne _ _ (by decide)]; exact he10a_380
  have hex2a_382 : ad_382 2 = (ad_346 2) := by rw [had_382, va_up_ne _ _ (by decide)]; exact hex2a_380
  have hex3a_382 : ad_382 3 = (ad_346 3) := by rw [had_382, va_up_ne _ _ (by decide)]; exact hex3a_380
  have hex11a_382 : ad_382 11 = (ad_346 11) := by rw [had_382, va_up_ne _ _ (by decide)]; exact hex11a_380
  have e12_382 : en_382 12 = .inr (2, [.ref (ad_349 1), .ref (ad_349 13), .ref (ad_349 14), .ref (ad_349 24), .ref (ad_349 33), .int 0]) := by rw [hen_382, va_up_ne _ _ (by decide)]; exact e12_381
  have he12a_382 : ad_382 12 = q_348 := by rw [had_382, va_up_ne _ _ (by decide)]; exact he12a_380
  have e13_382 : en_382 13 = .inl (cy 4, 9, .inr (.inr (.inr (.inr (fun j => some (ad_349 (34 + 4 * j))))))) := by rw [hen_382, va_up_ne _ _ (by decide)]; exact e13_381
  have he13a_382 : ad_382 13 = (ad_349 13) := by rw [had_382, va_up_ne _ _ (by decide)]; exact he13a_380
  have e14_382 : en_382 14 = .inl (cy 7, 9, .inr (.inr (.inr (.inr (fun j => some (ad_349 (15 + j))))))) := by rw [hen_382, va_up_ne _ _ (by decide)]; exact e14_381
  have he14a_382 : ad_382 14 = (ad_349 14) := by rw [had_382, va_up_ne _ _ (by decide)]; exact he14a_380
  have e16_382 : en_382 16 = .inl (cy 0, 6, .inl (fun _ => 0)) := by rw [hen_382, va_up_ne _ _ (by decide)]; exact e16_381
  have he16a_382 : ad_382 16 = (ad_349 16) := by rw [had_382, va_up_ne _ _ (by decide)]; exact he16a_380
  have hex24a_382 : ad_382 24 = (ad_349 24) := by rw [had_382, va_up_ne _ _ (by decide)]; exact hex24a_380
  have hex33a_382 : ad_382 33 = (ad_349 33) := by rw [had_382, va_up_ne _ _ (by decide)]; exact hex33a_380
  have e70_382 : en_382 70 = .inr (0, [.ref (ad_352 1), .ref (ad_352 71), .ref (ad_352 72), .ref (ad_352 73), .null, .null, .null, .int 0, .int 0, .int 0, .int 0, .int 0, .int 0]) := by rw [hen_382, va_up_ne _ _ (by decide)]; exact e70_381
  have he70a_382 : ad_382 70 = q_351 := by rw [had_382, va_up_ne _ _ (by decide)]; exact he70a_380
  have hex71a_382 : ad_382 71 = (ad_352 71) := by rw [had_382, va_up_ne _ _ (by decide)]; exact hex71a_380
  have hex72a_382 : ad_382 72 = (ad_352 72) := by rw [had_382, va_up_ne _ _ (by decide)]; exact hex72a_380
  have hex73a_382 : ad_382 73 = (ad_352 73) := by rw [had_382, va_up_ne _ _ (by decide)]; exact hex73a_380
  have e74_382 : en_382 74 = .inl (cy 5, 10, .inr (.inr (.inr (.inr (va_up (va_up (va_up (va_up (va_up (va_up (va_up (fun _ => none) (0 : Int32).toNatClampNeg (some q_361)) (1 : Int32).toNatClampNeg (some q_364)) (2 : Int32).toNatClampNeg (some q_367)) (3 : Int32).toNatClampNeg (some q_370)) (4 : Int32).toNatClampNeg (some q_373)) (5 : Int32).toNatClampNeg (some q_376)) (6 : Int32).toNatClampNeg (some q_379)))))) := by rw [hen_382, va_up_ne _ _ (by decide)]; exact e74_381
  have he74a_382 : ad_382 74 = q_354 := by rw [had_382, va_up_ne _ _ (by decide)]; exact he74a_380
  have e75_382 : en_382 75 = .inl (cy 6, 4, .inr (.inr (.inr (.inr (fun _ => none))))) := by rw [hen_382, va_up_ne _ _ (by decide)]; exact e75_381
  have he75a_382 : ad_382 75 = q_356 := by rw [had_382, va_up_ne _ _ (by decide)]; exact he75a_380
  have ew76_382 : en_382 76 = .inr (8, [.int 0]) := by rw [hen_382, va_up_ne _ _ (by decide)]; exact ew76_381
  have hew76a_382 : ad_382 76 = q_358 := by rw [had_382, va_up_ne _ _ (by decide)]; exact hew76a_380
  have hv_382 : ∀ j, j < 9 → en_382 (34 + 4 * j) = .inr (5, [.ref (ad_382 (35 + 4 * j)), .ref (ad_382 (36 + 4 * j)), .ref (ad_382 (37 + 4 * j)), .int 0, .int 0, .int 0, .long 0, .long 0, .long 0, .long 0]) := fun j hj => by rw [hen_382, va_up_ne _ _ (fne 34 4 98 hj (by decide)), had_382, va_up_ne _ _ (fne 35 4 98 hj (by decide)), va_up_ne _ _ (fne 36 4 98 hj (by decide)), va_up_ne _ _ (fne 37 4 98 hj (by decide))]; exact hv_381 j hj
  have e98_382 : en_382 98 = .inr (9, [.null, .null, .int 0]) := by rw [hen_382]; exact va_up_self _ _ _
  have he98a_382 : ad_382 98 = q_382 := by rw [had_382]; exact va_up_self _ _ _
  refine W.widen (k := 98) (n := 816) (Nat.le_refl _) (Nat.le_refl _) ?_
  refine lv_dup hx hb dX11_init_89 rfl ?_
  refine W.eq (g2 := F0 m 90 ls [.ref (ad_382 98), .ref q_382, .int 7, .ref q_354]) (by rw [he98a_382]) ?_
  refine hq_callC (va_runIN (As := []) (rest := [.ref q_382, .int 7, .ref q_354]) ⟨hx, hb, hml, hown, hts⟩ (c_X10_init l D cy _ ad_382 en_382 99 98 (by decide) e98_382) (kw_X10_init hts hX.2.2.2.2.2.2.2.2.1 ⟨by decide, by decide⟩) (preC_of hh hK hX) rfl rfl hl.1 rfl (lv_room (Nat.le_of_ble_eq_true rfl)) dX11_init_90 ⟨Nat.le_of_ble_eq_true rfl, Nat.le_of_ble_eq_true rfl⟩) hh hA (fun H locs ad_383 en_383 hw_383 hh => ?_)
  have hh : Hp D A A s.heap H _ (List.range 101) ad_383 en_383 := hh
  obtain ⟨hda_383, hue_383, ew_383, ewa_383, ewb_383⟩ := hw_383
  dsimp only at hda_383 hue_383 ew_383 ewa_383 ewb_383
  have et_383 : en_383 0 = .inr (10, [.ref q_345, .ref q_348, .ref q_351, .ref q_354, .ref q_356, .ref q_358, .int 0, .int 0]) := by rw [hue_383 _ (by decide) (by decide)]; exact et_382
  have heta_383 : ad_383 0 = (ad 0) := by rw [hda_383 _ (by decide)]; exact heta_382
  have e1_383 : en_383 1 = .inr (7, [.ref (ad_346 2), .ref (ad_346 3), .ref (ad_346 10), .ref (ad_346 11), .int 0, .int 2, .int 0]) := by rw [hue_383 _ (by decide) (by decide)]; exact e1_382
  have he1a_383 : ad_383 1 = q_345 := by rw [hda_383 _ (by decide)]; exact he1a_382
  have e10_383 : en_383 10 = .inl (cy 2, 36, .inl f_346) := by rw [hue_383 _ (by decide) (by decide)]; exact e10_382
  have he10a_383 : ad_383 10 = (ad_346 10) := by rw [hda_383 _ (by decide)]; exact he10a_382
  have hex2a_383 : ad_383 2 = (ad_346 2) := by rw [hda_383 _ (by decide)]; exact hex2a_382
  have hex3a_383 : ad_383 3 = (ad_346 3) := by rw [hda_383 _ (by decide)]; exact hex3a_382
  have hex11a_383 : ad_383 11 = (ad_346 11) := by rw [hda_383 _ (by decide)]; exact hex11a_382
  have e12_383 : en_383 12 = .inr (2, [.ref (ad_349 1), .ref (ad_349 13), .ref (ad_349 14), .ref (ad_349 24), .ref (ad_349 33), .int 0]) := by rw [hue_383 _ (by decide) (by decide)]; exact e12_382
  have he12a_383 : ad_383 12 = q_348 := by rw [hda_383 _ (by decide)]; exact he12a_382
  have e13_383 : en_383 13 = .inl (cy 4, 9, .inr (.inr (.inr (.inr (fun j => some (ad_349 (34 + 4 * j))))))) := by rw [hue_383 _ (by decide) (by decide)]; exact e13_382
  have he13a_383 : ad_383 13 = (ad_349 13) := by rw [hda_383 _ (by decide)]; exact he13a_382
  have e14_383 : en_383 14 = .inl (cy 7, 9, .inr (.inr (.inr (.inr (fun j => some (ad_349 (15 + j))))))) := by rw [hue_383 _ (by decide) (by decide)]; exact e14_382
  have he14a_383 : ad_383 14 = (ad_349 14) := by rw [hda_383 _ (by decide)]; exact he14a_382
  have e16_383 : en_383 16 = .inl (cy 0, 6, .inl (fun _ => 0)) := by rw [hue_383 _ (by decide) (by decide)]; exact e16_382
  have he16a_383 : ad_383 16 = (ad_349 16) := by rw [hda_383 _ (by decide)]; exact he16a_382
  have hex24a_383 : ad_383 24 = (ad_349 24) := by rw [hda_383 _ (by decide)]; exact hex24a_382
  have hex33a_383 : ad_383 33 = (ad_349 33) := by rw [hda_383 _ (by decide)]; exact hex33a_382
  have e70_383 : en_383 70 = .inr (0, [.ref (ad_352 1), .ref (ad_352 71), .ref (ad_352 72), .ref (ad_352 73), .null, .null, .null, .int 0, .int 0, .int 0, .int 0, .int 0, .int 0]) := by rw [hue_383 _ (by decide) (by decide)]; exact e70_382
  have he70a_383 : ad_383 70 = q_351 := by rw [hda_383 _ (by decide)]; exact he70a_382
  have hex71a_383 : ad_383 71 = (ad_352 71) := by rw [hda_383 _ (by decide)]; exact hex71a_382
  have hex72a_383 : ad_383 72 = (ad_352 72) := by rw [hda_383 _ (by decide)]; exact hex72a_382
  have hex73a_383 : ad_383 73 = (ad_352 73) := by rw [hda_383 _ (by decide)]; exact hex73a_382
  have e74_383 : en_383 74 = .inl (cy 5, 10, .inr (.inr (.inr (.inr (va_up (va_up (va_up (va_up (va_up (va_up (va_up (fun _ => none) (0 : Int32).toNatClampNeg (some q_361)) (1 : Int32).toNatClampNeg (some q_364)) (2 : Int32).toNatClampNeg (some q_367)) (3 : Int32).toNatClampNeg (some q_370)) (4 : Int32).toNatClampNeg (some q_373)) (5 : Int32).toNatClampNeg (some q_376)) (6 : Int32).toNatClampNeg (some q_379)))))) := by rw [hue_383 _ (by decide) (by decide)]; exact e74_382
  have he74a_383 : ad_383 74 = q_354 := by rw [hda_383 _ (by decide)]; exact he74a_382
  have e75_383 : en_383 75 = .inl (cy 6, 4, .inr (.inr (.inr (.inr (fun _ => none))))) := by rw [hue_383 _ (by decide) (by decide)]; exact e75_382
  have he75a_383 : ad_383 75 = q_356 := by rw [hda_383 _ (by decide)]; exact he75a_382
  have ew76_383 : en_383 76 = .inr (8, [.int 0]) := by rw [hue_383 _ (by decide) (by decide)]; exact ew76_382
  have hew76a_383 : ad_383 76 = q_358 := by rw [hda_383 _ (by decide)]; exact hew76a_382
  have he98a_383 : ad_383 98 = q_382 := by rw [hda_383 _ (by decide)]; exact he98a_382
  have hv_383 : ∀ j, j < 9 → en_383 (34 + 4 * j) = .inr (5, [.ref (ad_383 (35 + 4 * j)), .ref (ad_383 (36 + 4 * j)), .ref (ad_383 (37 + 4 * j)), .int 0, .int 0, .int 0, .long 0, .long 0, .long 0, .long 0]) := fun j hj => by rw [hue_383 _ (flt 34 4 99 hj (by decide)) (fne 34 4 98 hj (by decide)), hda_383 _ (flt 35 4 99 hj (by decide)), hda_383 _ (flt 36 4 99 hj (by decide)), hda_383 _ (flt 37 4 99 hj (by decide))]; exact hv_382 j hj
  have ew98_383 := ew_383
  refine W.widen (k := 100) (n := 837) (Nat.le_refl _) (Nat.le_refl _) ?_
  refine hp_astq hx hb hK hh (q := 74) (v := 98) he74a_383 (List.mem_range.mpr (by decide)) he98a_383 (List.mem_range.mpr (by decide)) e74_383 ew98_383 rfl rfl (vp_in_iff.mpr (by decide)) dX11_init_93 (fun H locs en_384 hen_384 hh => ?_)
  have et_384 : en_384 0 = .inr (10, [.ref q_345, .ref q_348, .ref q_351, .ref q_354, .ref q_356, .ref q_358, .int 0, .int 0]) := by rw [hen_384, va_up_ne _ _ (by decide)]; exact et_383
  have e1_384 : en_384 1 = .inr (7, [.ref (ad_346 2), .ref (ad_346 3), .ref (ad_346 10), .ref (ad_346 11), .int 0, .int 2, .int 0]) := by rw [hen_384, va_up_ne _ _ (by decide)]; exact e1_383
  have e10_384 : en_384 10 = .inl (cy 2, 36, .inl f_346) := by rw [hen_384, va_up_ne _ _ (by decide)]; exact e10_383
  have e12_384 : en_384 12 = .inr (2, [.ref (ad_349 1), .ref (ad_349 13), .ref (ad_349 14), .ref (ad_349 24), .ref (ad_349 33), .int 0]) := by rw [hen_384, va_up_ne _ _ (by decide)]; exact e12_383
  have e13_384 : en_384 13 = .inl (cy 4, 9, .inr (.inr (.inr (.inr (fun j => some (ad_349 (34 + 4 * j))))))) := by rw [hen_384, va_up_ne _ _ (by decide)]; exact e13_383
  have e14_384 : en_384 14 = .inl (cy 7, 9, .inr (.inr (.inr (.inr (fun j => some (ad_349 (15 + j))))))) := by rw [hen_384, va_up_ne _ _ (by decide)]; exact e14_383
  have e16_384 : en_384 16 = .inl (cy 0, 6, .inl (fun _ => 0)) := by rw [hen_384, va_up_ne _ _ (by decide)]; exact e16_383
  have e70_384 : en_384 70 = .inr (0, [.ref (ad_352 1), .ref (ad_352 71), .ref (ad_352 72), .ref (ad_352 73), .null, .null, .null, .int 0, .int 0, .int 0, .int 0, .int 0, .int 0]) := by rw [hen_384, va_up_ne _ _ (by decide)]; exact e70_383
  have e75_384 : en_384 75 = .inl (cy 6, 4, .inr (.inr (.inr (.inr (fun _ => none))))) := by rw [hen_384, va_up_ne _ _ (by decide)]; exact e75_383
  have ew76_384 : en_384 76 = .inr (8, [.int 0]) := by rw [hen_384, va_up_ne _ _ (by decide)]; exact ew76_383
  have ew98_384 : en_384 98 = .inr (9, [.ref (ad_383 99), .ref (ad_383 100), .int 0]) := by rw [hen_384, va_up_ne _ _ (by decide)]; exact ew98_383
  have hv_384 : ∀ j, j < 9 → en_384 (34 + 4 * j) = .inr (5, [.ref (ad_383 (35 + 4 * j)), .ref (ad_383 (36 + 4 * j)), .ref (ad_383 (37 + 4 * j)), .int 0, .int 0, .int 0, .long 0, .long 0, .long 0, .long 0]) := fun j hj => by rw [hen_384, va_up_ne _ _ (fne 34 4 74 hj (by decide))]; exact hv_383 j hj
  have e74_384 : en_384 74 = .inl (cy 5, 10, .inr (.inr (.inr (.inr (va_up (va_up (va_up (va_up (va_up (va_up (va_up (va_up (fun _ => none) (0 : Int32).toNatClampNeg (some q_361)) (1 : Int32).toNatClampNeg (some q_364)) (2 : Int32).toNatClampNeg (some q_367)) (3 : Int32).toNatClampNeg (some q_370)) (4 : Int32).toNatClampNeg (some q_373)) (5 : Int32).toNatClampNeg (some q_376)) (6 : Int32).toNatClampNeg (some q_379)) (7 : Int32).toNatClampNeg (some q_382)))))) := by rw [hen_384]; exact va_up_self _ _ _
  refine lv_iinc (v := 8) (lv' := [(1, .int 8), (0, .ref (ad 0))]) hx hb dX11_init_94 hl (k := 0) rfl (by decide) (by decide) rfl (fun ls hl => ?_)
  refine lv_goto (tgt := 75) hx hb dX11_init_97 (by decide) ?_
  refine lv_iload_n hx hb dX11_init_75 rfl (lv_at hl 0 rfl) ?_
  refine lv_bipush (v := 10) hx hb dX11_init_76 (by decide) ?_
  refine lv_icmp_ge (tgt := 100) hx hb dX11_init_78 (by decide) (fun c_0 => absurd c_0 (by decide)) (fun _ => ?_)
  refine lv_aload_n hx hb dX11_init_81 rfl (lv_at hl 1 rfl) ?_
  refine hp_get hx hb hts ix11 hown hK hh (q := 0) heta_383 (List.mem_range.mpr (by decide)) et_384 rfl 3 (by decide) (hts _ tw_248) (fun _ h9 => h9) rfl dX11_init_82 ?_
  refine lv_iload_n hx hb dX11_init_85 rfl (lv_at hl 0 rfl) ?_
  refine hq_new (ci := 9) (fs := [.null, .null, .int 0]) hx hb hts ix10 tyX10 tyX10_ok hown (hts _ tw_191) (hts _ tw_206) (hts _ tw_7) hK hh hA rfl (fun j hj => by rcases (show j = 0 ∨ j = 1 ∨ j = 2 by omega) with rfl | rfl | rfl <;> rfl) (Nat.le_of_ble_eq_true rfl) (Nat.le_of_ble_eq_true rfl) dX11_init_86 (fun q_385 H ad_385 en_385 had_385 hen_385 hh => ?_)
  have hh : Hp D A A s.heap H _ (List.range 102) ad_385 en_385 := hh
  have et_385 : en_385 0 = .inr (10, [.ref q_345, .ref q_348, .ref q_351, .ref q_354, .ref q_356, .ref q_358, .int 0, .int 0]) := by rw [hen_385, va_up_ne _ _ (by decide)]; exact et_384
  have heta_385 : ad_385 0 = (ad 0) := by rw [had_385, va_up_ne _ _ (by decide)]; exact heta_383
  have e1_385 : en_385 1 = .inr (7, [.ref (ad_346 2), .ref (ad_346 3), .ref (ad_346 10), .ref (ad_346 11), .int 0, .int 2, .int 0]) := by rw [hen_385, va_up_ne _ _ (by decide)]; exact e1_384
  have he1a_385 : ad_385 1 = q_345 := by rw [had_385, va_up_ne _ _ (by decide)]; exact he1a_383
  have e10_385 : en_385 10 = .inl (cy 2, 36, .inl f_346) := by rw [hen_385, va_up_ne _ _ (by decide)]; exact e10_384
  have he10a_385 : ad_385 10 = (ad_346 10) := by rw [had_385, va_up_ne _ _ (by decide)]; exact he10a_383
  have hex2a_385 : ad_385 2 = (ad_346 2) := by rw [had_385, va_up_ne _ _ (by decide)]; exact hex2a_383
  have hex3a_385 : ad_385 3 = (ad_346 3) := by rw [had_385, va_up_ne _ _ (by decide)]; exact hex3a_383
  have hex11a_385 : ad_385 11 = (ad_346 11) := by rw [had_385, va_up_ne _ _ (by decide)]; exact hex11a_383
  have e12_385 : en_385 12 = .inr (2, [.ref (ad_349 1), .ref (ad_349 13), .ref (ad_349 14), .ref (ad_349 24), .ref (ad_349 33), .int 0]) := by rw [hen_385, va_up_ne _ _ (by decide)]; exact e12_384
  have he12a_385 : ad_385 12 = q_348 := by rw [had_385, va_up_ne _ _ (by decide)]; exact he12a_383
  have e13_385 : en_385 13 = .inl (cy 4, 9, .inr (.inr (.inr (.inr (fun j => some (ad_349 (34 + 4 * j))))))) := by rw [hen_385, va_up_ne _ _ (by decide)]; exact e13_384
  have he13a_385 : ad_385 13 = (ad_349 13) := by rw [had_385, va_up_ne _ _ (by decide)]; exact he13a_383
  have e14_385 : en_385 14 = .inl (cy 7, 9, .inr (.inr (.inr (.inr (fun j => some (ad_349 (15 + j))))))) := by rw [hen_385, va_up_ne _ _ (by decide)]; exact e14_384
  have he14a_385 : ad_385 14 = (ad_349 14) := by rw [had_385, va_up_ne _ _ (by decide)]; exact he14a_383
  have e16_385 : en_385 16 = .inl (cy 0, 6, .inl (fun _ => 0)) := by rw [hen_385, va_up_ne _ _ (by decide)]; exact e16_384
  have he16a_385 : ad_385 16 = (ad_349 16) := by rw [had_385, va_up_ne _ _ (by decide)]; exact he16a_383
  have hex24a_385 : ad_385 24 = (ad_349 24) := by rw [had_385, va_up_ne _ _ (by decide)]; exact hex24a_383
  have hex33a_385 : ad_385 33 = (ad_349 33) := by rw [had_385, va_up_ne _ _ (by decide)]; exact hex33a_383
  have e70_385 : en_385 70 = .inr (0, [.ref (ad_352 1), .ref (ad_352 71), .ref (ad_352 72), .ref (ad_352 73), .null, .null, .null, .int 0, .int 0, .int 0, .int 0, .int 0, .int 0]) := by rw [hen_385, va_up_ne _ _ (by decide)]; exact e70_384
  have he70a_385 : ad_385 70 = q_351 := by rw [had_385, va_up_ne _ _ (by decide)]; exact he70a_383
  have hex71a_385 : ad_385 71 = (ad_352 71) := by rw [had_385, va_up_ne _ _ (by decide)]; exact hex71a_383
  have hex72a_385 : ad_385 72 = (ad_352 72) := by rw [had_385, va_up_ne _ _ (by decide)]; exact hex72a_383
  have hex73a_385 : ad_385 73 = (ad_352 73) := by rw [had_385, va_up_ne _ _ (by decide)]; exact hex73a_383
  have e74_385 : en_385 74 = .inl (cy 5, 10, .inr (.inr (.inr (.inr (va_up (va_up (va_up (va_up (va_up (va_up (va_up (va_up (fun _ => none) (0 : Int32).toNatClampNeg (some q_361)) (1 : Int32).toNatClampNeg (some q_364)) (2 : Int32).toNatClampNeg (some q_367)) (3 : Int32).toNatClampNeg (some q_370)) (4 : Int32).toNatClampNeg (some q_373)) (5 : Int32).toNatClampNeg (some q_376)) (6 : Int32).toNatClampNeg (some q_379)) (7 : Int32).toNatClampNeg (some q_382)))))) := by rw [hen_385, va_up_ne _ _ (by decide)]; exact e74_384
  have he74a_385 : ad_385 74 = q_354 := by rw [had_385, va_up_ne _ _ (by decide)]; exact he74a_383
  have e75_385 : en_385 75 = .inl (cy 6, 4, .inr (.inr (.inr (.inr (fun _ => none))))) := by rw [hen_385, va_up_ne _ _ (by decide)]; exact e75_384
  have he75a_385 : ad_385 75 = q_356 := by rw [had_385, va_up_ne _ _ (by decide)]; exact he75a_383
  have ew76_385 : en_385 76 = .inr (8, [.int 0]) := by rw [hen_385, va_up_ne _ _ (by decide)]; exact ew76_384
  have hew76a_385 : ad_385 76 = q_358 := by rw [had_385, va_up_ne _ _ (by decide)]; exact hew76a_383
  have hv_385 : ∀ j, j < 9 → en_385 (34 + 4 * j) = .inr (5, [.ref (ad_385 (35 + 4 * j)), .ref (ad_385 (36 + 4 * j)), .ref (ad_385 (37 + 4 * j)), .int 0, .int 0, .int 0, .long 0, .long 0, .long 0, .long 0]) := fun j hj => by rw [hen_385, va_up_ne _ _ (fne 34 4 101 hj (by decide)), had_385, va_up_ne _ _ (fne 35 4 101 hj (by decide)), va_up_ne _ _ (fne 36 4 101 hj (by decide)), va_up_ne _ _ (fne 37 4 101 hj (by decide))]; exact hv_384 j hj
  have e101_385 : en_385 101 = .inr (9, [.null, .null, .int 0]) := by rw [hen_385]; exact va_up_self _ _ _
  have he101a_385 : ad_385 101 = q_385 := by rw [had_385]; exact va_up_self _ _ _
  refine W.widen (k := 101) (n := 840) (Nat.le_refl _) (Nat.le_refl _) ?_
  refine lv_dup hx hb dX11_init_89 rfl ?_
  refine W.eq (g2 := F0 m 90 ls [.ref (ad_385 101), .ref q_385, .int 8, .ref q_354]) (by rw [he101a_385]) ?_
  refine hq_callC (va_runIN (As := []) (rest := [.ref q_385, .int 8, .ref q_354]) ⟨hx, hb, hml, hown, hts⟩ (c_X10_init l D cy _ ad_385 en_385 102 101 (by decide) e101_385) (kw_X10_init hts hX.2.2.2.2.2.2.2.2.1 ⟨by decide, by decide⟩) (preC_of hh hK hX) rfl rfl hl.1 rfl (lv_room (Nat.le_of_ble_eq_true rfl)) dX11_init_90 ⟨Nat.le_of_ble_eq_true rfl, Nat.le_of_ble_eq_true rfl⟩) hh hA (fun H locs ad_386 en_386 hw_386 hh => ?_)
  have hh : Hp D A A s.heap H _ (List.range 104) ad_386 en_386 := hh
  obtain ⟨hda_386, hue_386, ew_386, ewa_386, ewb_386⟩ := hw_386
  dsimp only at hda_386 hue_386 ew_386 ewa_386 ewb_386
  have et_386 : en_386 0 = .inr (10, [.ref q_345, .ref q_348, .ref q_351, .ref q_354, .ref q_356, .ref q_358, .int 0, .int 0]) := by rw [hue_386 _ (by decide) (by decide)]; exact et_385
  have heta_386 : ad_386 0 = (ad 0) := by rw [hda_386 _ (by decide)]; exact heta_385
  have e1_386 : en_386 1 = .inr (7, [.ref (ad_346 2), .ref (ad_346 3), .ref (ad_346 10), .ref (ad_346 11), .int 0, .int 2, .int 0]) := by rw [hue_386 _ (by decide) (by decide)]; exact e1_385
  have he1a_386 : ad_386 1 = q_345 := by rw [hda_386 _ (by decide)]; exact he1a_385
  have e10_386 : en_386 10 = .inl (cy 2, 36, .inl f_346) := by rw [hue_386 _ (by decide) (by decide)]; exact e10_385
  have he10a_386 : ad_386 10 = (ad_346 10) := by rw [hda_386 _ (by decide)]; exact he10a_385
  have hex2a_386 : ad_386 2 = (ad_346 2) := by rw [hda_386 _ (by decide)]; exact hex2a_385
  have hex3a_386 : ad_386 3 = (ad_346 3) := by rw [hda_386 _ (by decide)]; exact hex3a_385
  have hex11a_386 : ad_386 11 = (ad_346 11) := by rw [hda_386 _ (by decide)]; exact hex11a_385
  have e12_386 : en_386 12 = .inr (2, [.ref (ad_349 1), .ref (ad_349 13), .ref (ad_349 14), .ref (ad_349 24), .ref (ad_349 33), .int 0]) := by rw [hue_386 _ (by decide) (by decide)]; exact e12_385
  have he12a_386 : ad_386 12 = q_348 := by rw [hda_386 _ (by decide)]; exact he12a_385
  have e13_386 : en_386 13 = .inl (cy 4, 9, .inr (.inr (.inr (.inr (fun j => some (ad_349 (34 + 4 * j))))))) := by rw [hue_386 _ (by decide) (by decide)]; exact e13_385
  have he13a_386 : ad_386 13 = (ad_349 13) := by rw [hda_386 _ (by decide)]; exact he13a_385
  have e14_386 : en_386 14 = .inl (cy 7, 9, .inr (.inr (.inr (.inr (fun j => some (ad_349 (15 + j))))))) := by rw [hue_386 _ (by decide) (by decide)]; exact e14_385
  have he14a_386 : ad_386 14 = (ad_349 14) := by rw [hda_386 _ (by decide)]; exact he14a_385
  have e16_386 : en_386 16 = .inl (cy 0, 6, .inl (fun _ => 0)) := by rw [hue_386 _ (by decide) (by decide)]; exact e16_385
  have he16a_386 : ad_386 16 = (ad_349 16) := by rw [hda_386 _ (by decide)]; exact he16a_385
  have hex24a_386 : ad_386 24 = (ad_349 24) := by rw [hda_386 _ (by decide)]; exact hex24a_385
  have hex33a_386 : ad_386 33 = (ad_349 33) := by rw [hda_386 _ (by decide)]; exact hex33a_385
  have e70_386 : en_386 70 = .inr (0, [.ref (ad_352 1), .ref (ad_352 71), .ref (ad_352 72), .ref (ad_352 73), .null, .null, .null, .int 0, .int 0, .int 0, .int 0, .int 0, .int 0]) := by rw [hue_386 _ (by decide) (by decide)]; exact e70_385
  have he70a_386 : ad_386 70 = q_351 := by rw [hda_386 _ (by decide)]; exact he70a_385
  have hex71a_386 : ad_386 71 = (ad_352 71) := by rw [hda_386 _ (by decide)]; exact hex71a_385
  have hex72a_386 : ad_386 72 = (ad_352 72) := by rw [hda_386 _ (by decide)]; exact hex72a_385
  have hex73a_386 : ad_386 73 = (ad_352 73) := by rw [hda_386 _ (by decide)]; exact hex73a_385
  have e74_386 : en_386 74 = .inl (cy 5, 10, .inr (.inr (.inr (.inr (va_up (va_up (va_up (va_up (va_up (va_up (va_up (va_up (fun _ => none) (0 : Int32).toNatClampNeg (some q_361)) (1 : Int32).toNatClampNeg (some q_364)) (2 : Int32).toNatClampNeg (some q_367)) (3 : Int32).toNatClampNeg (some q_370)) (4 : Int32).toNatClampNeg (some q_373)) (5 : Int32).toNatClampNeg (some q_376)) (6 : Int32).toNatClampNeg (some q_379)) (7 : Int32).toNatClampNeg (some q_382)))))) := by rw [hue_386 _ (by decide) (by decide)]; exact e74_385
  have he74a_386 : ad_386 74 = q_354 := by rw [hda_386 _ (by decide)]; exact he74a_385
  have e75_386 : en_386 75 = .inl (cy 6, 4, .inr (.inr (.inr (.inr (fun _ => none))))) := by rw [hue_386 _ (by decide) (by decide)]; exact e75_385
  have he75a_386 : ad_386 75 = q_356 := by rw [hda_386 _ (by decide)]; exact he75a_385
  have ew76_386 : en_386 76 = .inr (8, [.int 0]) := by rw [hue_386 _ (by decide) (by decide)]; exact ew76_385
  have hew76a_386 : ad_386 76 = q_358 := by rw [hda_386 _ (by decide)]; exact hew76a_385
  have he101a_386 : ad_386 101 = q_385 := by rw [hda_386 _ (by decide)]; exact he101a_385
  have hv_386 : ∀ j, j < 9 → en_386 (34 + 4 * j) = .inr (5, [.ref (ad_386 (35 + 4 * j)), .ref (ad_386 (36 + 4 * j)), .ref (ad_386 (37 + 4 * j)), .int 0, .int 0, .int 0, .long 0, .long 0, .long 0, .long 0]) := fun j hj => by rw [hue_386 _ (flt 34 4 102 hj (by decide)) (fne 34 4 101 hj (by decide)), hda_386 _ (flt 35 4 102 hj (by decide)), hda_386 _ (flt 36 4 102 hj (by decide)), hda_386 _ (flt 37 4 102 hj (by decide))]; exact hv_385 j hj
  have ew101_386 := ew_386
  refine W.widen (k := 103) (n := 861) (Nat.le_refl _) (Nat.le_refl _) ?_
  refine hp_astq hx hb hK hh (q := 74) (v := 101) he74a_386 (List.mem_range.mpr (by decide)) he101a_386 (List.mem_range.mpr (by decide)) e74_386 ew101_386 rfl rfl (vp_in_iff.mpr (by decide)) dX11_init_93 (fun H locs en_387 hen_387 hh => ?_)
  have et_387 : en_387 0 = .inr (10, [.ref q_345, .ref q_348, .ref q_351, .ref q_354, .ref q_356, .ref q_358, .int 0, .int 0]) := by rw [hen_387, va_up_ne _ _ (by decide)]; exact et_386
  have e1_387 : en_387 1 = .inr (7, [.ref (ad_346 2), .ref (ad_346 3), .ref (ad_346 10), .ref (ad_346 11), .int 0, .int 2, .int 0]) := by rw [hen_387, va_up_ne _ _ (by decide)]; exact e1_386
  have e10_387 : en_387 10 = .inl (cy 2, 36, .inl f_346) := by rw [hen_387, va_up_ne _ _ (by decide)]; exact e10_386
  have e12_387 : en_387 12 = .inr (2, [.ref (ad_349 1), .ref (ad_349 13), .ref (ad_349 14), .ref (ad_349 24), .ref (ad_349 33), .int 0]) := by rw [hen_387, va_up_ne _ _ (by decide)]; exact e12_386
  have e13_387 : en_387 13 = .inl (cy 4, 9, .inr (.inr (.inr (.inr (fun j => some (ad_349 (34 + 4 * j))))))) := by rw [hen_387, va_up_ne _ _ (by decide)]; exact e13_386
  have e14_387 : en_387 14 = .inl (cy 7, 9, .inr (.inr (.inr (.inr (fun j => some (ad_349 (15 + j))))))) := by rw [hen_387, va_up_ne _ _ (by decide)]; exact e14_386
  have e16_387 : en_387 16 = .inl (cy 0, 6, .inl (fun _ => 0)) := by rw [hen_387, va_up_ne _ _ (by decide)]; exact e16_386
  have e70_387 : en_387 70 = .inr (0, [.ref (ad_352 1), .ref (ad_352 71), .ref (ad_352 72), .ref (ad_352 73), .null, .null, .null, .int 0, .int 0, .int 0, .int 0, .int 0, .int 0]) := by rw [hen_387, va_up_ne _ _ (by decide)]; exact e70_386
  have e75_387 : en_387 75 = .inl (cy 6, 4, .inr (.inr (.inr (.inr (fun _ => none))))) := by rw [hen_387, va_up_ne _ _ (by decide)]; exact e75_386
  have ew76_387 : en_387 76 = .inr (8, [.int 0]) := by rw [hen_387, va_up_ne _ _ (by decide)]; exact ew76_386
  have ew101_387 : en_387 101 = .inr (9, [.ref (ad_386 102), .ref (ad_386 103), .int 0]) := by rw [hen_387, va_up_ne _ _ (by decide)]; exact ew101_386
  have hv_387 : ∀ j, j < 9 → en_387 (34 + 4 * j) = .inr (5, [.ref (ad_386 (35 + 4 * j)), .ref (ad_386 (36 + 4 * j)), .ref (ad_386 (37 + 4 * j)), .int 0, .int 0, .int 0, .long 0, .long 0, .long 0, .long 0]) := fun j hj => by rw [hen_387, va_up_ne _ _ (fne 34 4 74 hj (by decide))]; exact hv_386 j hj
  have e74_387 : en_387 74 = .inl (cy 5, 10, .inr (.inr (.inr (.inr (va_up (va_up (va_up (va_up (va_up (va_up (va_up (va_up (va_up (fun _ => none) (0 : Int32).toNatClampNeg (some q_361)) (1 : Int32).toNatClampNeg (some q_364)) (2 : Int32).toNatClampNeg (some q_367)) (3 : Int32).toNatClampNeg (some q_370)) (4 : Int32).toNatClampNeg (some q_373)) (5 : Int32).toNatClampNeg (some q_376)) (6 : Int32).toNatClampNeg (some q_379)) (7 : Int32).toNatClampNeg (some q_382)) (8 : Int32).toNatClampNeg (some q_385)))))) := by rw [hen_387]; exact va_up_self _ _ _
  refine lv_iinc (v := 9) (lv' := [(1, .int 9), (0, .ref (ad 0))]) hx hb dX11_init_94 hl (k := 0) rfl (by decide) (by decide) rfl (fun ls hl => ?_)
  refine lv_goto (tgt := 75) hx hb dX11_init_97 (by decide) ?_
  refine lv_iload_n hx hb dX11_init_75 rfl (lv_at hl 0 rfl) ?_
  refine lv_bipush (v := 10) hx hb dX11_init_76 (by decide) ?_
  refine lv_icmp_ge (tgt := 100) hx hb dX11_init_78 (by decide) (fun c_0 => absurd c_0 (by decide)) (fun _ => ?_)
  refine lv_aload_n hx hb dX11_init_81 rfl (lv_at hl 1 rfl) ?_
  refine hp_get hx hb hts ix11 hown hK hh (q := 0) heta_386 (List.mem_range.mpr (by decide)) et_387 rfl 3 (by decide) (hts _ tw_248) (fun _ h9 => h9) rfl dX11_init_82 ?_
  refine lv_iload_n hx hb dX11_init_85 rfl (lv_at hl 0 rfl) ?_
  refine hq_new (ci := 9) (fs := [.null, .null, .int 0]) hx hb hts ix10 tyX10 tyX10_ok hown (hts _ tw_191) (hts _ tw_206) (hts _ tw_7) hK hh hA rfl (fun j hj => by rcases (show j = 0 ∨ j = 1 ∨ j = 2 by omega) with rfl | rfl | rfl <;> rfl) (Nat.le_of_ble_eq_true rfl) (Nat.le_of_ble_eq_true rfl) dX11_init_86 (fun q_388 H ad_388 en_388 had_388 hen_388 hh => ?_)
  have hh : Hp D A A s.heap H _ (List.range 105) ad_388 en_388 := hh
  have et_388 : en_388 0 = .inr (10, [.ref q_345, .ref q_348, .ref q_351, .ref q_354, .ref q_356, .ref q_358, .int 0, .int 0]) := by rw [hen_388, va_up_ne _ _ (by decide)]; exact et_387
  have heta_388 : ad_388 0 = (ad 0) := by rw [had_388, va_up_ne _ _ (by decide)]; exact heta_386
  have e1_388 : en_388 1 = .inr (7, [.ref (ad_346 2), .ref (ad_346 3), .ref (ad_346 10), .ref (ad_346 11), .int 0, .int 2, .int 0]) := by rw [hen_388, va_up_ne _ _ (by decide)]; exact e1_387
  have he1a_388 : ad_388 1 = q_345 := by rw [had_388, va_up_ne _ _ (by decide)]; exact he1a_386
  have e10_388 : en_388 10 = .inl (cy 2, 36, .inl f_346) := by rw [hen_388, va_up_ne _ _ (by decide)]; exact e10_387
  have he10a_388 : ad_388 10 = (ad_346 10) := by rw [had_388, va_up_ne _ _ (by decide)]; exact he10a_386
  have hex2a_388 : ad_388 2 = (ad_346 2) := by rw [had_388, va_up_ne _ _ (by decide)]; exact hex2a_386
  have hex3a_388 : ad_388 3 = (ad_346 3) := by rw [had_388, va_up_ne _ _ (by decide)]; exact hex3a_386
  have hex11a_388 : ad_388 11 = (ad_346 11) := by rw [had_388, va_up_ne _ _ (by decide)]; exact hex11a_386
  have e12_388 : en_388 12 = .inr (2, [.ref (ad_349 1), .ref (ad_349 13), .ref (ad_349 14), .ref (ad_349 24), .ref (ad_349 33), .int 0]) := by rw [hen_388, va_up_ne _ _ (by decide)]; exact e12_387
  have he12a_388 : ad_388 12 = q_348 := by rw [had_388, va_up_ne _ _ (by decide)]; exact he12a_386
  have e13_388 : en_388 13 = .inl (cy 4, 9, .inr (.inr (.inr (.inr (fun j => some (ad_349 (34 + 4 * j))))))) := by rw [hen_388, va_up_ne _ _ (by decide)]; exact e13_387
  have he13a_388 : ad_388 13 = (ad_349 13) := by rw [had_388, va_up_ne _ _ (by decide)]; exact he13a_386
  have e14_388 : en_388 14 = .inl (cy 7, 9, .inr (.inr (.inr (.inr (fun j => some (ad_349 (15 + j))))))) := by rw [hen_388, va_up_ne _ _ (by decide)]; exact e14_387
  have he14a_388 : ad_388 14 = (ad_349 14) := by rw [had_388, va_up_ne _ _ (by decide)]; exact he14a_386
  have e16_388 : en_388 16 = .inl (cy 0, 6, .inl (fun _ => 0)) := by rw [hen_388, va_up_ne _ _ (by decide)]; exact e16_387
  have he16a_388 : ad_388 16 = (ad_349 16) := by rw [had_388, va_up_ne _ _ (by decide)]; exact he16a_386
  have hex24a_388 : ad_388 24 = (ad_349 24) := by rw [had_388, va_up_ne _ _ (by decide)]; exact hex24a_386
  have hex33a_388 : ad_388 33 = (ad_349 33) := by rw [had_388, va_up_ne _ _ (by decide)]; exact hex33a_386
  have e70_388 : en_388 70 = .inr (0, [.ref (ad_352 1), .ref (ad_352 71), .ref (ad_352 72), .ref (ad_352 73), .null, .null, .null, .int 0, .int 0, .int 0, .int 0, .int 0, .int 0]) := by rw [hen_388, va_up_ne _ _ (by decide)]; exact e70_387
  have he70a_388 : ad_388 70 = q_351 := by rw [had_388, va_up_ne _ _ (by decide)]; exact he70a_386
  have hex71a_388 : ad_388 71 = (ad_352 71) := by rw [had_388, va_up_ne _ _ (by decide)]; exact hex71a_386
  have hex72a_388 : ad_388 72 = (ad_352 72) := by rw [had_388, va_up_ne _ _ (by decide)]; exact hex72a_386
  have hex73a_388 : ad_388 73 = (ad_352 73) := by rw [had_388, va_up_ne _ _ (by decide)]; exact hex73a_386
  have e74_388 : en_388 74 = .inl (cy 5, 10, .inr (.inr (.inr (.inr (va_up (va_up (va_up (va_up (va_up (va_up (va_up (va_up (va_up (fun _ => none) (0 : Int32).toNatClampNeg (some q_361)) (1 : Int32).toNatClampNeg (some q_364)) (2 : Int32).toNatClampNeg (some q_367)) (3 : Int32).toNatClampNeg (some q_370)) (4 : Int32).toNatClampNeg (some q_373)) (5 : Int32).toNatClampNeg (some q_376)) (6 : Int32).toNatClampNeg (some q_379)) (7 : Int32).toNatClampNeg (some q_382)) (8 : Int32).toNatClampNeg (some q_385)))))) := by rw [hen_388, va_up_ne _ _ (by decide)]; exact e74_387
  have he74a_388 : ad_388 74 = q_354 := by rw [had_388, va_up_ne _ _ (by decide)]; exact he74a_386
  have e75_388 : en_388 75 = .inl (cy 6, 4, .inr (.inr (.inr (.inr (fun _ => none))))) := by rw [hen_388, va_up_ne _ _ (by decide)]; exact e75_387
  have he75a_388 : ad_388 75 = q_356 := by rw [had_388, va_up_ne _ _ (by decide)]; exact he75a_386
  have ew76_388 : en_388 76 = .inr (8, [.int 0]) := by rw [hen_388, va_up_ne _ _ (by decide)]; exact ew76_387
  have hew76a_388 : ad_388 76 = q_358 := by rw [had_388, va_up_ne _ _ (by decide)]; exact hew76a_386
  have hv_388 : ∀ j, j < 9 → en_388 (34 + 4 * j) = .inr (5, [.ref (ad_388 (35 + 4 * j)), .ref (ad_388 (36 + 4 * j)), .ref (ad_388 (37 + 4 * j)), .int 0, .int 0, .int 0, .long 0, .long 0, .long 0, .long 0]) := fun j hj => by rw [hen_388, va_up_ne _ _ (fne 34 4 104 hj (by decide)), had_388, va_up_ne _ _ (fne 35 4 104 hj (by decide)), va_up_ne _ _ (fne 36 4 104 hj (by decide)), va_up_ne _ _ (fne 37 4 104 hj (by decide))]; exact hv_387 j hj
  have e104_388 : en_388 104 = .inr (9, [.null, .null, .int 0]) := by rw [hen_388]; exact va_up_self _ _ _
  have he104a_388 : ad_388 104 = q_388 := by rw [had_388]; exact va_up_self _ _ _
  refine W.widen (k := 104) (n := 864) (Nat.le_refl _) (Nat.le_refl _) ?_
  refine lv_dup hx hb dX11_init_89 rfl ?_
  refine W.eq (g2 := F0 m 90 ls [.ref (ad_388 104), .ref q_388, .int 9, .ref q_354]) (by rw [he104a_388]) ?_
  refine hq_callC (va_runIN (As := []) (rest := [.ref q_388, .int 9, .ref q_354]) ⟨hx, hb, hml, hown, hts⟩ (c_X10_init l D cy _ ad_388 en_388 105 104 (by decide) e104_388) (kw_X10_init hts hX.2.2.2.2.2.2.2.2.1 ⟨by decide, by decide⟩) (preC_of hh hK hX) rfl rfl hl.1 rfl (lv_room (Nat.le_of_ble_eq_true rfl)) dX11_init_90 ⟨Nat.le_of_ble_eq_true rfl, Nat.le_of_ble_eq_true rfl⟩) hh hA (fun H locs ad_389 en_389 hw_389 hh => ?_)
  have hh : Hp D A A s.heap H _ (List.range 107) ad_389 en_389 := hh
  obtain ⟨hda_389, hue_389, ew_389, ewa_389, ewb_389⟩ := hw_389
  dsimp only at hda_389 hue_389 ew_389 ewa_389 ewb_389
  have et_389 : en_389 0 = .inr (10, [.ref q_345, .ref q_348, .ref q_351, .ref q_354, .ref q_356, .ref q_358, .int 0, .int 0]) := by rw [hue_389 _ (by decide) (by decide)]; exact et_388
  have heta_389 : ad_389 0 = (ad 0) := by rw [hda_389 _ (by decide)]; exact heta_388
  have e1_389 : en_389 1 = .inr (7, [.ref (ad_346 2), .ref (ad_346 3), .ref (ad_346 10), .ref (ad_346 11), .int 0, .int 2, .int 0]) := by rw [hue_389 _ (by decide) (by decide)]; exact e1_388
  have he1a_389 : ad_389 1 = q_345 := by rw [hda_389 _ (by decide)]; exact he1a_388
  have e10_389 : en_389 10 = .inl (cy 2, 36, .inl f_346) := by rw [hue_389 _ (by decide) (by decide)]; exact e10_388
  have he10a_389 : ad_389 10 = (ad_346 10) := by rw [hda_389 _ (by decide)]; exact he10a_388
  have hex2a_389 : ad_389 2 = (ad_346 2) := by rw [hda_389 _ (by decide)]; exact hex2a_388
  have hex3a_389 : ad_389 3 = (ad_346 3) := by rw [hda_389 _ (by decide)]; exact hex3a_388
  have hex11a_389 : ad_389 11 = (ad_346 11) := by rw [hda_389 _ (by decide)]; exact hex11a_388
  have e12_389 : en_389 12 = .inr (2, [.ref (ad_349 1), .ref (ad_349 13), .ref (ad_349 14), .ref (ad_349 24), .ref (ad_349 33), .int 0]) := by rw [hue_389 _ (by decide) (by decide)]; exact e12_388
  have he12a_389 : ad_389 12 = q_348 := by rw [hda_389 _ (by decide)]; exact he12a_388
  have e13_389 : en_389 13 = .inl (cy 4, 9, .inr (.inr (.inr (.inr (fun j => some (ad_349 (34 + 4 * j))))))) := by rw [hue_389 _ (by decide) (by decide)]; exact e13_388
  have he13a_389 : ad_389 13 = (ad_349 13) := by rw [hda_389 _ (by decide)]; exact he13a_388
  have e14_389 : en_389 14 = .inl (cy 7, 9, .inr (.inr (.inr (.inr (fun j => some (ad_349 (15 + j))))))) := by rw [hue_389 _ (by decide) (by decide)]; exact e14_388
  have he14a_389 : ad_389 14 = (ad_349 14) := by rw [hda_389 _ (by decide)]; exact he14a_388
  have e16_389 : en_389 16 = .inl (cy 0, 6, .inl (fun _ => 0)) := by rw [hue_389 _ (by decide) (by decide)]; exact e16_388
  have he16a_389 : ad_389 16 = (ad_349 16) := by rw [hda_389 _ (by decide)]; exact he16a_388
  have hex24a_389 : ad_389 24 = (ad_349 24) := by rw [hda_389 _ (by decide)]; exact hex24a_388
  have hex33a_389 : ad_389 33 = (ad_349 33) := by rw [hda_389 _ (by decide)]; exact hex33a_388
  have e70_389 : en_389 70 = .inr (0, [.ref (ad_352 1), .ref (ad_352 71), .ref (ad_352 72), .ref (ad_352 73), .null, .null, .null, .int 0, .int 0, .int 0, .int 0, .int 0, .int 0]) := by rw [hue_389 _ (by decide) (by decide)]; exact e70_388
  have he70a_389 : ad_389 70 = q_351 := by rw [hda_389 _ (by decide)]; exact he70a_388
  have hex71a_389 : ad_389 71 = (ad_352 71) := by rw [hda_389 _ (by decide)]; exact hex71a_388
  have hex72a_389 : ad_389 72 = (ad_352 72) := by rw [hda_389 _ (by decide)]; exact hex72a_388
  have hex73a_389 : ad_389 73 = (ad_352 73) := by rw [hda_389 _ (by decide)]; exact hex73a_388
  have e74_389 : en_389 74 = .inl (cy 5, 10, .inr (.inr (.inr (.inr (va_up (va_up (va_up (va_up (va_up (va_up (va_up (va_up (va_up (fun _ => none) (0 : Int32).toNatClampNeg (some q_361)) (1 : Int32).toNatClampNeg (some q_364)) (2 : Int32).toNatClampNeg (some q_367)) (3 : Int32).toNatClampNeg (some q_370)) (4 : Int32).toNatClampNeg (some q_373)) (5 : Int32).toNatClampNeg (some q_376)) (6 : Int32).toNatClampNeg (some q_379)) (7 : Int32).toNatClampNeg (some q_382)) (8 : Int32).toNatClampNeg (some q_385)))))) := by rw [hue_389 _ (by decide) (by decide)]; exact e74_388
  have he74a_389 : ad_389 74 = q_354 := by rw [hda_389 _ (by decide)]; exact he74a_388
  have e75_389 : en_389 75 = .inl (cy 6, 4, .inr (.inr (.inr (.inr (fun _ => none))))) := by rw [hue_389 _ (by decide) (by decide)]; exact e75_388
  have he75a_389 : ad_389 75 = q_356 := by rw [hda_389 _ (by decide)]; exact he75a_388
  have ew76_389 : en_389 76 = .inr (8, [.int 0]) := by rw [hue_389 _ (by decide) (by decide)]; exact ew76_388
  have hew76a_389 : ad_389 76 = q_358 := by rw [hda_389 _ (by decide)]; exact hew76a_388
  have he104a_389 : ad_389 104 = q_388 := by rw [hda_389 _ (by decide)]; exact he104a_388
  have hv_389 : ∀ j, j < 9 → en_389 (34 + 4 * j) = .inr (5, [.ref (ad_389 (35 + 4 * j)), .ref (ad_389 (36 + 4 * j)), .ref (ad_389 (37 + 4 * j)), .int 0, .int 0, .int 0, .long 0, .long 0, .long 0, .long 0]) := fun j hj => by rw [hue_389 _ (flt 34 4 105 hj (by decide)) (fne 34 4 104 hj (by decide)), hda_389 _ (flt 35 4 105 hj (by decide)), hda_389 _ (flt 36 4 105 hj (by decide)), hda_389 _ (flt 37 4 105 hj (by decide))]; exact hv_388 j hj
  have ew104_389 := ew_389
  refine W.widen (k := 106) (n := 885) (Nat.le_refl _) (Nat.le_refl _) ?_
  refine hp_astq hx hb hK hh (q := 74) (v := 104) he74a_389 (List.mem_range.mpr (by decide)) he104a_389 (List.mem_range.mpr (by decide)) e74_389 ew104_389 rfl rfl (vp_in_iff.mpr (by decide)) dX11_init_93 (fun H locs en_390 hen_390 hh => ?_)
  have et_390 : en_390 0 = .inr (10, [.ref q_345, .ref q_348, .ref q_351, .ref q_354, .ref q_356, .ref q_358, .int 0, .int 0]) := by rw [hen_390, va_up_ne _ _ (by decide)]; exact et_389
  have e1_390 : en_390 1 = .inr (7, [.ref (ad_346 2), .ref (ad_346 3), .ref (ad_346 10), .ref (ad_346 11), .int 0, .int 2, .int 0]) := by rw [hen_390, va_up_ne _ _ (by decide)]; exact e1_389
  have e10_390 : en_390 10 = .inl (cy 2, 36, .inl f_346) := by rw [hen_390, va_up_ne _ _ (by decide)]; exact e10_389
  have e12_390 : en_390 12 = .inr (2, [.ref (ad_349 1), .ref (ad_349 13), .ref (ad_349 14), .ref (ad_349 24), .ref (ad_349 33), .int 0]) := by rw [hen_390, va_up_ne _ _ (by decide)]; exact e12_389
  have e13_390 : en_390 13 = .inl (cy 4, 9, .inr (.inr (.inr (.inr (fun j => some (ad_349 (34 + 4 * j))))))) := by rw [hen_390, va_up_ne _ _ (by decide)]; exact e13_389
  have e14_390 : en_390 14 = .inl (cy 7, 9, .inr (.inr (.inr (.inr (fun j => some (ad_349 (15 + j))))))) := by rw [hen_390, va_up_ne _ _ (by decide)]; exact e14_389
  have e16_390 : en_390 16 = .inl (cy 0, 6, .inl (fun _ => 0)) := by rw [hen_390, va_up_ne _ _ (by decide)]; exact e16_389
  have e70_390 : en_390 70 = .inr (0, [.ref (ad_352 1), .ref (ad_352 71), .ref (ad_352 72), .ref (ad_352 73), .null, .null, .null, .int 0, .int 0, .int 0, .int 0, .int 0, .int 0]) := by rw [hen_390, va_up_ne _ _ (by decide)]; exact e70_389
  have e75_390 : en_390 75 = .inl (cy 6, 4, .inr (.inr (.inr (.inr (fun _ => none))))) := by rw [hen_390, va_up_ne _ _ (by decide)]; exact e75_389
  have ew76_390 : en_390 76 = .inr (8, [.int 0]) := by rw [hen_390, va_up_ne _ _ (by decide)]; exact ew76_389
  have ew104_390 : en_390 104 = .inr (9, [.ref (ad_389 105), .ref (ad_389 106), .int 0]) := by rw [hen_390, va_up_ne _ _ (by decide)]; exact ew104_389
  have hv_390 : ∀ j, j < 9 → en_390 (34 + 4 * j) = .inr (5, [.ref (ad_389 (35 + 4 * j)), .ref (ad_389 (36 + 4 * j)), .ref (ad_389 (37 + 4 * j)), .int 0, .int 0, .int 0, .long 0, .long 0, .long 0, .long 0]) := fun j hj => by rw [hen_390, va_up_ne _ _ (fne 34 4 74 hj (by decide))]; exact hv_389 j hj
  have e74_390 : en_390 74 = .inl (cy 5, 10, .inr (.inr (.inr (.inr (va_up (va_up (va_up (va_up (va_up (va_up (va_up (va_up (va_up (va_up (fun _ => none) (0 : Int32).toNatClampNeg (some q_361)) (1 : Int32).toNatClampNeg (some q_364)) (2 : Int32).toNatClampNeg (some q_367)) (3 : Int32).toNatClampNeg (some q_370)) (4 : Int32).toNatClampNeg (some q_373)) (5 : Int32).toNatClampNeg (some q_376)) (6 : Int32).toNatClampNeg (some q_379)) (7 : Int32).toNatClampNeg (some q_382)) (8 : Int32).toNatClampNeg (some q_385)) (9 : Int32).toNatClampNeg (some q_388)))))) := by rw [hen_390]; exact va_up_self _ _ _
  refine lv_iinc (v := 10) (lv' := [(1, .int 10), (0, .ref (ad 0))]) hx hb dX11_init_94 hl (k := 0) rfl (by decide) (by decide) rfl (fun ls hl => ?_)
  refine lv_goto (tgt := 75) hx hb dX11_init_97 (by decide) ?_
  refine lv_iload_n hx hb dX11_init_75 rfl (lv_at hl 0 rfl) ?_
  refine lv_bipush (v := 10) hx hb dX11_init_76 (by decide) ?_
  refine lv_icmp_ge (tgt := 100) hx hb dX11_init_78 (by decide) (fun _ => ?_) (fun c_0 => absurd c_0 (by decide))
  refine lv_iconst (v := 0) hx hb dX11_init_100 (by decide) ?_
  refine lv_istore_n (lv' := [(1, .int 0), (0, .ref (ad 0))]) hx hb dX11_init_101 rfl hl (by decide) rfl (fun ls hl => ?_)
  refine lv_iload_n hx hb dX11_init_102 rfl (lv_at hl 0 rfl) ?_
  refine lv_iconst (v := 4) hx hb dX11_init_103 (by decide) ?_
  refine lv_icmp_ge (tgt := 126) hx hb dX11_init_104 (by decide) (fun c_0 => absurd c_0 (by decide)) (fun _ => ?_)
  refine lv_aload_n hx hb dX11_init_107 rfl (lv_at hl 1 rfl) ?_
  refine hp_get hx hb hts ix11 hown hK hh (q := 0) heta_389 (List.mem_range.mpr (by decide)) et_390 rfl 4 (by decide) (hts _ tw_249) (fun _ h9 => h9) rfl dX11_init_108 ?_
  refine lv_iload_n hx hb dX11_init_111 rfl (lv_at hl 0 rfl) ?_
  refine hq_new (ci := 3) (fs := [.null, .int 0, .int 0, .int 0]) hx hb hts ix3 tyX3 tyX3_ok hown (hts _ tw_193) (hts _ tw_224) (hts _ tw_8) hK hh hA rfl (fun j hj => by rcases (show j = 0 ∨ j = 1 ∨ j = 2 ∨ j = 3 by omega) with rfl | rfl | rfl | rfl <;> rfl) (Nat.le_of_ble_eq_true rfl) (Nat.le_of_ble_eq_true rfl) dX11_init_112 (fun q_391 H ad_391 en_391 had_391 hen_391 hh => ?_)
  have hh : Hp D A A s.heap H _ (List.range 108) ad_391 en_391 := hh
  have et_391 : en_391 0 = .inr (10, [.ref q_345, .ref q_348, .ref q_351, .ref q_354, .ref q_356, .ref q_358, .int 0, .int 0]) := by rw [hen_391, va_up_ne _ _ (by decide)]; exact et_390
  have heta_391 : ad_391 0 = (ad 0) := by rw [had_391, va_up_ne _ _ (by decide)]; exact heta_389
  have e1_391 : en_391 1 = .inr (7, [.ref (ad_346 2), .ref (ad_346 3), .ref (ad_346 10), .ref (ad_346 11), .int 0, .int 2, .int 0]) := by rw [hen_391, va_up_ne _ _ (by decide)]; exact e1_390
  have he1a_391 : ad_391 1 = q_345 := by rw [had_391, va_up_ne _ _ (by decide)]; exact he1a_389
  have e10_391 : en_391 10 = .inl (cy 2, 36, .inl f_346) := by rw [hen_391, va_up_ne _ _ (by decide)]; exact e10_390
  have he10a_391 : ad_391 10 = (ad_346 10) := by rw [had_391, va_up_ne _ _ (by decide)]; exact he10a_389
  have hex2a_391 : ad_391 2 = (ad_346 2) := by rw [had_391, va_up_ne _ _ (by decide)]; exact hex2a_389
  have hex3a_391 : ad_391 3 = (ad_346 3) := by rw [had_391, va_up_ne _ _ (by decide)]; exact hex3a_389
  have hex11a_391 : ad_391 11 = (ad_346 11) := by rw [had_391, va_up_ne _ _ (by decide)]; exact hex11a_389
  have e12_391 : en_391 12 = .inr (2, [.ref (ad_349 1), .ref (ad_349 13), .ref (ad_349 14), .ref (ad_349 24), .ref (ad_349 33), .int 0]) := by rw [hen_391, va_up_ne _ _ (by decide)]; exact e12_390
  have he12a_391 : ad_391 12 = q_348 := by rw [had_391, va_up_ne _ _ (by decide)]; exact he12a_389
  have e13_391 : en_391 13 = .inl (cy 4, 9, .inr (.inr (.inr (.inr (fun j => some (ad_349 (34 + 4 * j))))))) := by rw [hen_391, va_up_ne _ _ (by decide)]; exact e13_390
  have he13a_391 : ad_391 13 = (ad_349 13) := by rw [had_391, va_up_ne _ _ (by decide)]; exact he13a_389
  have e14_391 : en_391 14 = .inl (cy 7, 9, .inr (.inr (.inr (.inr (fun j => some (ad_349 (15 + j))))))) := by rw [hen_391, va_up_ne _ _ (by decide)]; exact e14_390
  have he14a_391 : ad_391 14 = (ad_349 14) := by rw [had_391, va_up_ne _ _ (by decide)]; exact he14a_389
  have e16_391 : en_391 16 = .inl (cy 0, 6, .inl (fun _ => 0)) := by rw [hen_391, va_up_ne _ _ (by decide)]; exact e16_390
  have he16a_391 : ad_391 16 = (ad_349 16) := by rw [had_391, va_up_ne _ _ (by decide)]; exact he16a_389
  have hex24a_391 : ad_391 24 = (ad_349 24) := by rw [had_391, va_up_ne _ _ (by decide)]; exact hex24a_389
  have hex33a_391 : ad_391 33 = (ad_349 33) := by rw [had_391, va_up_ne _ _ (by decide)]; exact hex33a_389
  have e70_391 : en_391 70 = .inr (0, [.ref (ad_352 1), .ref (ad_352 71), .ref (ad_352 72), .ref (ad_352 73), .null, .null, .null, .int 0, .int 0, .int 0, .int 0, .int 0, .int 0]) := by rw [hen_391, va_up_ne _ _ (by decide)]; exact e70_390
  have he70a_391 : ad_391 70 = q_351 := by rw [had_391, va_up_ne _ _ (by decide)]; exact he70a_389
  have hex71a_391 : ad_391 71 = (ad_352 71) := by rw [had_391, va_up_ne _ _ (by decide)]; exact hex71a_389
  have hex72a_391 : ad_391 72 = (ad_352 72) := by rw [had_391, va_up_ne _ _ (by decide)]; exact hex72a_389
  have hex73a_391 : ad_391 73 = (ad_352 73) := by rw [had_391, va_up_ne _ _ (by decide)]; exact hex73a_389
  have e74_391 : en_391 74 = .inl (cy 5, 10, .inr (.inr (.inr (.inr (va_up (va_up (va_up (va_up (va_up (va_up (va_up (va_up (va_up (va_up (fun _ => none) (0 : Int32).toNatClampNeg (some q_361)) (1 : Int32).toNatClampNeg (some q_364)) (2 : Int32).toNatClampNeg (some q_367)) (3 : Int32).toNatClampNeg (some q_370)) (4 : Int32).toNatClampNeg (some q_373)) (5 : Int32).toNatClampNeg (some q_376)) (6 : Int32).toNatClampNeg (some q_379)) (7 : Int32).toNatClampNeg (some q_382)) (8 : Int32).toNatClampNeg (some q_385)) (9 : Int32).toNatClampNeg (some q_388)))))) := by rw [hen_391, va_up_ne _ _ (by decide)]; exact e74_390
  have he74a_391 : ad_391 74 = q_354 := by rw [had_391, va_up_ne _ _ (by decide)]; exact he74a_389
  have e75_391 : en_391 75 = .inl (cy 6, 4, .inr (.inr (.inr (.inr (fun _ => none))))) := by rw [hen_391, va_up_ne _ _ (by decide)]; exact e75_390
  have he75a_391 : ad_391 75 = q_356 := by rw [had_391, va_up_ne _ _ (by decide)]; exact he75a_389
  have ew76_391 : en_391 76 = .inr (8, [.int 0]) := by rw [hen_391, va_up_ne _ _ (by decide)]; exact ew76_390
  have hew76a_391 : ad_391 76 = q_358 := by rw [had_391, va_up_ne _ _ (by decide)]; exact hew76a_389
  have hv_391 : ∀ j, j < 9 → en_391 (34 + 4 * j) = .inr (5, [.ref (ad_391 (35 + 4 * j)), .ref (ad_391 (36 + 4 * j)), .ref (ad_391 (37 + 4 * j)), .int 0, .int 0, .int 0, .long 0, .long 0, .long 0, .long 0]) := fun j hj => by rw [hen_391, va_up_ne _ _ (fne 34 4 107 hj (by decide)), had_391, va_up_ne _ _ (fne 35 4 107 hj (by decide)), va_up_ne _ _ (fne 36 4 107 hj (by decide)), va_up_ne _ _ (fne 37 4 107 hj (by decide))]; exact hv_390 j hj
  have e107_391 : en_391 107 = .inr (3, [.null, .int 0, .int 0, .int 0]) := by rw [hen_391]; exact va_up_self _ _ _
  have he107a_391 : ad_391 107 = q_391 := by rw [had_391]; exact va_up_self _ _ _
  refine W.widen (k := 107) (n := 889) (Nat.le_refl _) (Nat.le_refl _) ?_
  refine lv_dup hx hb dX11_init_115 rfl ?_
  refine W.eq (g2 := F0 m 116 ls [.ref (ad_391 107), .ref q_391, .int 0, .ref q_356]) (by rw [he107a_391]) ?_
  refine hq_callC (va_runIN (As := []) (rest := [.ref q_391, .int 0, .ref q_356]) ⟨hx, hb, hml, hown, hts⟩ (c_X3_init l D cy _ ad_391 en_391 108 107 (by decide) e107_391) (kw_X3_init hts hX.2.2.2.2.2.2.2.2.2 ⟨by decide, by decide⟩) (preC_of hh hK hX) rfl rfl hl.1 rfl (lv_room (Nat.le_of_ble_eq_true rfl)) dX11_init_116 ⟨Nat.le_of_ble_eq_true rfl, Nat.le_of_ble_eq_true rfl⟩) hh hA (fun H locs ad_392 en_392 hw_392 hh => ?_)
  have hh : Hp D A A s.heap H _ (List.range 109) ad_392 en_392 := hh
  obtain ⟨hda_392, hue_392, ew_392, ewa_392⟩ := hw_392
  dsimp only at hda_392 hue_392 ew_392 ewa_392
  have et_392 : en_392 0 = .inr (10, [.ref q_345, .ref q_348, .ref q_351, .ref q_354, .ref q_356, .ref q_358, .int 0, .int 0]) := by rw [hue_392 _ (by decide) (by decide)]; exact et_391
  have heta_392 : ad_392 0 = (ad 0) := by rw [hda_392 _ (by decide)]; exact heta_391
  have e1_392 : en_392 1 = .inr (7, [.ref (ad_346 2), .ref (ad_346 3), .ref (ad_346 10), .ref (ad_346 11), .int 0, .int 2, .int 0]) := by rw [hue_392 _ (by decide) (by decide)]; exact e1_391
  have he1a_392 : ad_392 1 = q_345 := by rw [hda_392 _ (by decide)]; exact he1a_391
  have e10_392 : en_392 10 = .inl (cy 2, 36, .inl f_346) := by rw [hue_392 _ (by decide) (by decide)]; exact e10_391
  have he10a_392 : ad_392 10 = (ad_346 10) := by rw [hda_392 _ (by decide)]; exact he10a_391
  have hex2a_392 : ad_392 2 = (ad_346 2) := by rw [hda_392 _ (by decide)]; exact hex2a_391
  have hex3a_392 : ad_392 3 = (ad_346 3) := by rw [hda_392 _ (by decide)]; exact hex3a_391
  have hex11a_392 : ad_392 11 = (ad_346 11) := by rw [hda_392 _ (by decide)]; exact hex11a_391
  have e12_392 : en_392 12 = .inr (2, [.ref (ad_349 1), .ref (ad_349 13), .ref (ad_349 14), .ref (ad_349 24), .ref (ad_349 33), .int 0]) := by rw [hue_392 _ (by decide) (by decide)]; exact e12_391
  have he12a_392 : ad_392 12 = q_348 := by rw [hda_392 _ (by decide)]; exact he12a_391
  have e13_392 : en_392 13 = .inl (cy 4, 9, .inr (.inr (.inr (.inr (fun j => some (ad_349 (34 + 4 * j))))))) := by rw [hue_392 _ (by decide) (by decide)]; exact e13_391
  have he13a_392 : ad_392 13 = (ad_349 13) := by rw [hda_392 _ (by decide)]; exact he13a_391
  have e14_392 : en_392 14 = .inl (cy 7, 9, .inr (.inr (.inr (.inr (fun j => some (ad_349 (15 + j))))))) := by rw [hue_392 _ (by decide) (by decide)]; exact e14_391
  have he14a_392 : ad_392 14 = (ad_349 14) := by rw [hda_392 _ (by decide)]; exact he14a_391
  have e16_392 : en_392 16 = .inl (cy 0, 6, .inl (fun _ => 0)) := by rw [hue_392 _ (by decide) (by decide)]; exact e16_391
  have he16a_392 : ad_392 16 = (ad_349 16) := by rw [hda_392 _ (by decide)]; exact he16a_391
  have hex24a_392 : ad_392 24 = (ad_349 24) := by rw [hda_392 _ (by decide)]; exact hex24a_391
  have hex33a_392 : ad_392 33 = (ad_349 33) := by rw [hda_392 _ (by decide)]; exact hex33a_391
  have e70_392 : en_392 70 = .inr (0, [.ref (ad_352 1), .ref (ad_352 71), .ref (ad_352 72), .ref (ad_352 73), .null, .null, .null, .int 0, .int 0, .int 0, .int 0, .int 0, .int 0]) := by rw [hue_392 _ (by decide) (by decide)]; exact e70_391
  have he70a_392 : ad_392 70 = q_351 := by rw [hda_392 _ (by decide)]; exact he70a_391
  have hex71a_392 : ad_392 71 = (ad_352 71) := by rw [hda_392 _ (by decide)]; exact hex71a_391
  have hex72a_392 : ad_392 72 = (ad_352 72) := by rw [hda_392 _ (by decide)]; exact hex72a_391
  have hex73a_392 : ad_392 73 = (ad_352 73) := by rw [hda_392 _ (by decide)]; exact hex73a_391
  have e74_392 : en_392 74 = .inl (cy 5, 10, .inr (.inr (.inr (.inr (va_up (va_up (va_up (va_up (va_up (va_up (va_up (va_up (va_up (va_up (fun _ => none) (0 : Int32).toNatClampNeg (some q_361)) (1 : Int32).toNatClampNeg (some q_364)) (2 : Int32).toNatClampNeg (some q_367)) (3 : Int32).toNatClampNeg (some q_370)) (4 : Int32).toNatClampNeg (some q_373)) (5 : Int32).toNatClampNeg (some q_376)) (6 : Int32).toNatClampNeg (some q_379)) (7 : Int32).toNatClampNeg (some q_382)) (8 : Int32).toNatClampNeg (some q_385)) (9 : Int32).toNatClampNeg (some q_388)))))) := by rw [hue_392 _ (by decide) (by decide)]; exact e74_391
  have he74a_392 : ad_392 74 = q_354 := by rw [hda_392 _ (by decide)]; exact he74a_391
  have e75_392 : en_392 75 = .inl (cy 6, 4, .inr (.inr (.inr (.inr (fun _ => none))))) := by rw [hue_392 _ (by decide) (by decide)]; exact e75_391
  have he75a_392 : ad_392 75 = q_356 := by rw [hda_392 _ (by decide)]; exact he75a_391
  have ew76_392 : en_392 76 = .inr (8, [.int 0]) := by rw [hue_392 _ (by decide) (by decide)]; exact ew76_391
  have hew76a_392 : ad_392 76 = q_358 := by rw [hda_392 _ (by decide)]; exact hew76a_391
  have he107a_392 : ad_392 107 = q_391 := by rw [hda_392 _ (by decide)]; exact he107a_391
  have hv_392 : ∀ j, j < 9 → en_392 (34 + 4 * j) = .inr (5, [.ref (ad_392 (35 + 4 * j)), .ref (ad_392 (36 + 4 * j)), .ref (ad_392 (37 + 4 * j)), .int 0, .int 0, .int 0, .long 0, .long 0, .long 0, .long 0]) := fun j hj => by rw [hue_392 _ (flt 34 4 108 hj (by decide)) (fne 34 4 107 hj (by decide)), hda_392 _ (flt 35 4 108 hj (by decide)), hda_392 _ (flt 36 4 108 hj (by decide)), hda_392 _ (flt 37 4 108 hj (by decide))]; exact hv_391 j hj
  have ew107_392 := ew_392
  have hs_393 : ∀ j, j < 1 → en_392 (107 + 2 * j) = .inr (3, [.ref (ad_392 (108 + 2 * j)), .int 0, .int 0, .int 0]) := fun j hj => by have e0 : j = 0 := (by omega); subst e0; exact ew_392
  have hc_394 : ∀ j, j < 1 → en_392 (108 + 2 * j) = .inl (cy 0, 40, .inl (fun _ => 0)) := fun j hj => by have e0 : j = 0 := (by omega); subst e0; exact ewa_392
  refine W.widen (k := 108) (n := 929) (Nat.le_refl _) (Nat.le_refl _) ?_
  refine hp_astq hx hb hK hh (q := 75) (v := 107) he75a_392 (List.mem_range.mpr (by decide)) he107a_392 (List.mem_range.mpr (by decide)) e75_392 ew107_392 rfl rfl (vp_in_iff.mpr (by decide)) dX11_init_119 (fun H locs en_395 hen_395 hh => ?_)
  have et_395 : en_395 0 = .inr (10, [.ref q_345, .ref q_348, .ref q_351, .ref q_354, .ref q_356, .ref q_358, .int 0, .int 0]) := by rw [hen_395, va_up_ne _ _ (by decide)]; exact et_392
  have e1_395 : en_395 1 = .inr (7, [.ref (ad_346 2), .ref (ad_346 3), .ref (ad_346 10), .ref (ad_346 11), .int 0, .int 2, .int 0]) := by rw [hen_395, va_up_ne _ _ (by decide)]; exact e1_392
  have e10_395 : en_395 10 = .inl (cy 2, 36, .inl f_346) := by rw [hen_395, va_up_ne _ _ (by decide)]; exact e10_392
  have e12_395 : en_395 12 = .inr (2, [.ref (ad_349 1), .ref (ad_349 13), .ref (ad_349 14), .ref (ad_349 24), .ref (ad_349 33), .int 0]) := by rw [hen_395, va_up_ne _ _ (by decide)]; exact e12_392
  have e13_395 : en_395 13 = .inl (cy 4, 9, .inr (.inr (.inr (.inr (fun j => some (ad_349 (34 + 4 * j))))))) := by rw [hen_395, va_up_ne _ _ (by decide)]; exact e13_392
  have e14_395 : en_395 14 = .inl (cy 7, 9, .inr (.inr (.inr (.inr (fun j => some (ad_349 (15 + j))))))) := by rw [hen_395, va_up_ne _ _ (by decide)]; exact e14_392
  have e16_395 : en_395 16 = .inl (cy 0, 6, .inl (fun _ => 0)) := by rw [hen_395, va_up_ne _ _ (by decide)]; exact e16_392
  have e70_395 : en_395 70 = .inr (0, [.ref (ad_352 1), .ref (ad_352 71), .ref (ad_352 72), .ref (ad_352 73), .null, .null, .null, .int 0, .int 0, .int 0, .int 0, .int 0, .int 0]) := by rw [hen_395, va_up_ne _ _ (by decide)]; exact e70_392
  have e74_395 : en_395 74 = .inl (cy 5, 10, .inr (.inr (.inr (.inr (va_up (va_up (va_up (va_up (va_up (va_up (va_up (va_up (va_up (va_up (fun _ => none) (0 : Int32).toNatClampNeg (some q_361)) (1 : Int32).toNatClampNeg (some q_364)) (2 : Int32).toNatClampNeg (some q_367)) (3 : Int32).toNatClampNeg (some q_370)) (4 : Int32).toNatClampNeg (some q_373)) (5 : Int32).toNatClampNeg (some q_376)) (6 : Int32).toNatClampNeg (some q_379)) (7 : Int32).toNatClampNeg (some q_382)) (8 : Int32).toNatClampNeg (some q_385)) (9 : Int32).toNatClampNeg (some q_388)))))) := by rw [hen_395, va_up_ne _ _ (by decide)]; exact e74_392
  have ew76_395 : en_395 76 = .inr (8, [.int 0]) := by rw [hen_395, va_up_ne _ _ (by decide)]; exact ew76_392
  have ew107_395 : en_395 107 = .inr (3, [.ref (ad_392 108), .int 0, .int 0, .int 0]) := by rw [hen_395, va_up_ne _ _ (by decide)]; exact ew107_392
  have hv_395 : ∀ j, j < 9 → en_395 (34 + 4 * j) = .inr (5, [.ref (ad_392 (35 + 4 * j)), .ref (ad_392 (36 + 4 * j)), .ref (ad_392 (37 + 4 * j)), .int 0, .int 0, .int 0, .long 0, .long 0, .long 0, .long 0]) := fun j hj => by rw [hen_395, va_up_ne _ _ (fne 34 4 75 hj (by decide))]; exact hv_392 j hj
  have hs_395 : ∀ j, j < 1 → en_395 (107 + 2 * j) = .inr (3, [.ref (ad_392 (108 + 2 * j)), .int 0, .int 0, .int 0]) := fun j hj => by rw [hen_395, va_up_ne _ _ (fne2 107 2 75 (by decide))]; exact hs_393 j hj
  have hc_395 : ∀ j, j < 1 → en_395 (108 + 2 * j) = .inl (cy 0, 40, .inl (fun _ => 0)) := fun j hj => by rw [hen_395, va_up_ne _ _ (fne2 108 2 75 (by decide))]; exact hc_394 j hj
  have e75_395 : en_395 75 = .inl (cy 6, 4, .inr (.inr (.inr (.inr (va_up (fun _ => none) (0 : Int32).toNatClampNeg (some q_391)))))) := by rw [hen_395]; exact va_up_self _ _ _
  refine lv_iinc (v := 1) (lv' := [(1, .int 1), (0, .ref (ad 0))]) hx hb dX11_init_120 hl (k := 0) rfl (by decide) (by decide) rfl (fun ls hl => ?_)
  refine lv_goto (tgt := 102) hx hb dX11_init_123 (by decide) ?_
  refine lv_iload_n hx hb dX11_init_102 rfl (lv_at hl 0 rfl) ?_
  refine lv_iconst (v := 4) hx hb dX11_init_103 (by decide) ?_
  refine lv_icmp_ge (tgt := 126) hx hb dX11_init_104 (by decide) (fun c_0 => absurd c_0 (by decide)) (fun _ => ?_)
  refine lv_aload_n hx hb dX11_init_107 rfl (lv_at hl 1 rfl) ?_
  refine hp_get hx hb hts ix11 hown hK hh (q := 0) heta_392 (List.mem_range.mpr (by decide)) et_395 rfl 4 (by decide) (hts _ tw_249) (fun _ h9 => h9) rfl dX11_init_108 ?_
  refine lv_iload_n hx hb dX11_init_111 rfl (lv_at hl 0 rfl) ?_
  refine hq_new (ci := 3) (fs := [.null, .int 0, .int 0, .int 0]) hx hb hts ix3 tyX3 tyX3_ok hown (hts _ tw_193) (hts _ tw_224) (hts _ tw_8) hK hh hA rfl (fun j hj => by rcases (show j = 0 ∨ j = 1 ∨ j = 2 ∨ j = 3 by omega) with rfl | rfl | rfl | rfl <;> rfl) (Nat.le_of_ble_eq_true rfl) (Nat.le_of_ble_eq_true rfl) dX11_init_112 (fun q_396 H ad_396 en_396 had_396 hen_396 hh => ?_)
  have hh : Hp D A A s.heap H _ (List.range 110) ad_396 en_396 := hh
  have et_396 : en_396 0 = .inr (10, [.ref q_345, .ref q_348, .ref q_351, .ref q_354, .ref q_356, .ref q_358, .int 0, .int 0]) := by rw [hen_396, va_up_ne _ _ (by decide)]; exact et_395
  have heta_396 : ad_396 0 = (ad 0) := by rw [had_396, va_up_ne _ _ (by decide)]; exact heta_392
  have e1_396 : en_396 1 = .inr (7, [.ref (ad_346 2), .ref (ad_346 3), .ref (ad_346 10), .ref (ad_346 11), .int 0, .int 2, .int 0]) := by rw [hen_396, va_up_ne _ _ (by decide)]; exact e1_395
  have he1a_396 : ad_396 1 = q_345 := by rw [had_396, va_up_ne _ _ (by decide)]; exact he1a_392
  have e10_396 : en_396 10 = .inl (cy 2, 36, .inl f_346) := by rw [hen_396, va_up_ne _ _ (by decide)]; exact e10_395
  have he10a_396 : ad_396 10 = (ad_346 10) := by rw [had_396, va_up_ne _ _ (by decide)]; exact he10a_392
  have hex2a_396 : ad_396 2 = (ad_346 2) := by rw [had_396, va_up_ne _ _ (by decide)]; exact hex2a_392
  have hex3a_396 : ad_396 3 = (ad_346 3) := by rw [had_396, va_up_ne _ _ (by decide)]; exact hex3a_392
  have hex11a_396 : ad_396 11 = (ad_346 11) := by rw [had_396, va_up_ne _ _ (by decide)]; exact hex11a_392
  have e12_396 : en_396 12 = .inr (2, [.ref (ad_349 1), .ref (ad_349 13), .ref (ad_349 14), .ref (ad_349 24), .ref (ad_349 33), .int 0]) := by rw [hen_396, va_up_ne _ _ (by decide)]; exact e12_395
  have he12a_396 : ad_396 12 = q_348 := by rw [had_396, va_up_ne _ _ (by decide)]; exact he12a_392
  have e13_396 : en_396 13 = .inl (cy 4, 9, .inr (.inr (.inr (.inr (fun j => some (ad_349 (34 + 4 * j))))))) := by rw [hen_396, va_up_ne _ _ (by decide)]; exact e13_395
  have he13a_396 : ad_396 13 = (ad_349 13) := by rw [had_396, va_up_ne _ _ (by decide)]; exact he13a_392
  have e14_396 : en_396 14 = .inl (cy 7, 9, .inr (.inr (.inr (.inr (fun j => some (ad_349 (15 + j))))))) := by rw [hen_396, va_up_ne _ _ (by decide)]; exact e14_395
  have he14a_396 : ad_396 14 = (ad_349 14) := by rw [had_396, va_up_ne _ _ (by decide)]; exact he14a_392
  have e16_396 : en_396 16 = .inl (cy 0, 6, .inl (fun _ => 0)) := by rw [hen_396, va_up_ne _ _ (by decide)]; exact e16_395
  have he16a_396 : ad_396 16 = (ad_349 16) := by rw [had_396, va_up_ne _ _ (by decide)]; exact he16a_392
  have hex24a_396 : ad_396 24 = (ad_349 24) := by rw [had_396, va_up_ne _ _ (by decide)]; exact hex24a_392
  have hex33a_396 : ad_396 33 = (ad_349 33) := by rw [had_396, va_up_ne _ _ (by decide)]; exact hex33a_392
  have e70_396 : en_396 70 = .inr (0, [.ref (ad_352 1), .ref (ad_352 71), .ref (ad_352 72), .ref (ad_352 73), .null, .null, .null, .int 0, .int 0, .int 0, .int 0, .int 0, .int 0]) := by rw [hen_396, va_up_ne _ _ (by decide)]; exact e70_395
  have he70a_396 : ad_396 70 = q_351 := by rw [had_396, va_up_ne _ _ (by decide)]; exact he70a_392
  have hex71a_396 : ad_396 71 = (ad_352 71) := by rw [had_396, va_up_ne _ _ (by decide)]; exact hex71a_392
  have hex72a_396 : ad_396 72 = (ad_352 72) := by rw [had_396, va_up_ne _ _ (by decide)]; exact hex72a_392
  have hex73a_396 : ad_396 73 = (ad_352 73) := by rw [had_396, va_up_ne _ _ (by decide)]; exact hex73a_392
  have e74_396 : en_396 74 = .inl (cy 5, 10, .inr (.inr (.inr (.inr (va_up (va_up (va_up (va_up (va_up (va_up (va_up (va_up (va_up (va_up (fun _ => none) (0 : Int32).toNatClampNeg (some q_361)) (1 : Int32).toNatClampNeg (some q_364)) (2 : Int32).toNatClampNeg (some q_367)) (3 : Int32).toNatClampNeg (some q_370)) (4 : Int32).toNatClampNeg (some q_373)) (5 : Int32).toNatClampNeg (some q_376)) (6 : Int32).toNatClampNeg (some q_379)) (7 : Int32).toNatClampNeg (some q_382)) (8 : Int32).toNatClampNeg (some q_385)) (9 : Int32).toNatClampNeg (some q_388)))))) := by rw [hen_396, va_up_ne _ _ (by decide)]; exact e74_395
  have he74a_396 : ad_396 74 = q_354 := by rw [had_396, va_up_ne _ _ (by decide)]; exact he74a_392
  have e75_396 : en_396 75 = .inl (cy 6, 4, .inr (.inr (.inr (.inr (va_up (fun _ => none) (0 : Int32).toNatClampNeg (some q_391)))))) := by rw [hen_396, va_up_ne _ _ (by decide)]; exact e75_395
  have he75a_396 : ad_396 75 = q_356 := by rw [had_396, va_up_ne _ _ (by decide)]; exact he75a_392
  have ew76_396 : en_396 76 = .inr (8, [.int 0]) := by rw [hen_396, va_up_ne _ _ (by decide)]; exact ew76_395
  have hew76a_396 : ad_396 76 = q_358 := by rw [had_396, va_up_ne _ _ (by decide)]; exact hew76a_392
  have hew107a_396 : ad_396 107 = q_391 := by rw [had_396, va_up_ne _ _ (by decide)]; exact he107a_392
  have hv_396 : ∀ j, j < 9 → en_396 (34 + 4 * j) = .inr (5, [.ref (ad_396 (35 + 4 * j)), .ref (ad_396 (36 + 4 * j)), .ref (ad_396 (37 + 4 * j)), .int 0, .int 0, .int 0, .long 0, .long 0, .long 0, .long 0]) := fun j hj => by rw [hen_396, va_up_ne _ _ (fne 34 4 109 hj (by decide)), had_396, va_up_ne _ _ (fne 35 4 109 hj (by decide)), va_up_ne _ _ (fne 36 4 109 hj (by decide)), va_up_ne _ _ (fne 37 4 109 hj (by decide))]; exact hv_395 j hj
  have hs_396 : ∀ j, j < 1 → en_396 (107 + 2 * j) = .inr (3, [.ref (ad_396 (108 + 2 * j)), .int 0, .int 0, .int 0]) := fun j hj => by rw [hen_396, va_up_ne _ _ (fne 107 2 109 hj (by decide)), had_396, va_up_ne _ _ (fne 108 2 109 hj (by decide))]; exact hs_395 j hj
  have hc_396 : ∀ j, j < 1 → en_396 (108 + 2 * j) = .inl (cy 0, 40, .inl (fun _ => 0)) := fun j hj => by rw [hen_396, va_up_ne _ _ (fne 108 2 109 hj (by decide))]; exact hc_395 j hj
  have e109_396 : en_396 109 = .inr (3, [.null, .int 0, .int 0, .int 0]) := by rw [hen_396]; exact va_up_self _ _ _
  have he109a_396 : ad_396 109 = q_396 := by rw [had_396]; exact va_up_self _ _ _
  refine W.widen (k := 109) (n := 933) (Nat.le_refl _) (Nat.le_refl _) ?_
  refine lv_dup hx hb dX11_init_115 rfl ?_
  refine W.eq (g2 := F0 m 116 ls [.ref (ad_396 109), .ref q_396, .int 1, .ref q_356]) (by rw [he109a_396]) ?_
  refine hq_callC (va_runIN (As := []) (rest := [.ref q_396, .int 1, .ref q_356]) ⟨hx, hb, hml, hown, hts⟩ (c_X3_init l D cy _ ad_396 en_396 110 109 (by decide) e109_396) (kw_X3_init hts hX.2.2.2.2.2.2.2.2.2 ⟨by decide, by decide⟩) (preC_of hh hK hX) rfl rfl hl.1 rfl (lv_room (Nat.le_of_ble_eq_true rfl)) dX11_init_116 ⟨Nat.le_of_ble_eq_true rfl, Nat.le_of_ble_eq_true rfl⟩) hh hA (fun H locs ad_397 en_397 hw_397 hh => ?_)
  have hh : Hp D A A s.heap H _ (List.range 111) ad_397 en_397 := hh
  obtain ⟨hda_397, hue_397, ew_397, ewa_397⟩ := hw_397
  dsimp only at hda_397 hue_397 ew_397 ewa_397
  have et_397 : en_397 0 = .inr (10, [.ref q_345, .ref q_348, .ref q_351, .ref q_354, .ref q_356, .ref q_358, .int 0, .int 0]) := by rw [hue_397 _ (by decide) (by decide)]; exact et_396
  have heta_397 : ad_397 0 = (ad 0) := by rw [hda_397 _ (by decide)]; exact heta_396
  have e1_397 : en_397 1 = .inr (7, [.ref (ad_346 2), .ref (ad_346 3), .ref (ad_346 10), .ref (ad_346 11), .int 0, .int 2, .int 0]) := by rw [hue_397 _ (by decide) (by decide)]; exact e1_396
  have he1a_397 : ad_397 1 = q_345 := by rw [hda_397 _ (by decide)]; exact he1a_396
  have e10_397 : en_397 10 = .inl (cy 2, 36, .inl f_346) := by rw [hue_397 _ (by decide) (by decide)]; exact e10_396
  have he10a_397 : ad_397 10 = (ad_346 10) := by rw [hda_397 _ (by decide)]; exact he10a_396
  have hex2a_397 : ad_397 2 = (ad_346 2) := by rw [hda_397 _ (by decide)]; exact hex2a_396
  have hex3a_397 : ad_397 3 = (ad_346 3) := by rw [hda_397 _ (by decide)]; exact hex3a_396
  have hex11a_397 : ad_397 11 = (ad_346 11) := by rw [hda_397 _ (by decide)]; exact hex11a_396
  have e12_397 : en_397 12 = .inr (2, [.ref (ad_349 1), .ref (ad_349 13), .ref (ad_349 14), .ref (ad_349 24), .ref (ad_349 33), .int 0]) := by rw [hue_397 _ (by decide) (by decide)]; exact e12_396
  have he12a_397 : ad_397 12 = q_348 := by rw [hda_397 _ (by decide)]; exact he12a_396
  have e13_397 : en_397 13 = .inl (cy 4, 9, .inr (.inr (.inr (.inr (fun j => some (ad_349 (34 + 4 * j))))))) := by rw [hue_397 _ (by decide) (by decide)]; exact e13_396
  have he13a_397 : ad_397 13 = (ad_349 13) := by rw [hda_397 _ (by decide)]; exact he13a_396
  have e14_397 : en_397 14 = .inl (cy 7, 9, .inr (.inr (.inr (.inr (fun j => some (ad_349 (15 + j))))))) := by rw [hue_397 _ (by decide) (by decide)]; exact e14_396
  have he14a_397 : ad_397 14 = (ad_349 14) := by rw [hda_397 _ (by decide)]; exact he14a_396
  have e16_397 : en_397 16 = .inl (cy 0, 6, .inl (fun _ => 0)) := by rw [hue_397 _ (by decide) (by decide)]; exact e16_396
  have he16a_397 : ad_397 16 = (ad_349 16) := by rw [hda_397 _ (by decide)]; exact he16a_396
  have hex24a_397 : ad_397 24 = (ad_349 24) := by rw [hda_397 _ (by decide)]; exact hex24a_396
  have hex33a_397 : ad_397 33 = (ad_349 33) := by rw [hda_397 _ (by decide)]; exact hex33a_396
  have e70_397 : en_397 70 = .inr (0, [.ref (ad_352 1), .ref (ad_352 71), .ref (ad_352 72), .ref (ad_352 73), .null, .null, .null, .int 0, .int 0, .int 0, .int 0, .int 0, .int 0]) := by rw [hue_397 _ (by decide) (by decide)]; exact e70_396
  have he70a_397 : ad_397 70 = q_351 := by rw [hda_397 _ (by decide)]; exact he70a_396
  have hex71a_397 : ad_397 71 = (ad_352 71) := by rw [hda_397 _ (by decide)]; exact hex71a_396
  have hex72a_397 : ad_397 72 = (ad_352 72) := by rw [hda_397 _ (by decide)]; exact hex72a_396
  have hex73a_397 : ad_397 73 = (ad_352 73) := by rw [hda_397 _ (by decide)]; exact hex73a_396
  have e74_397 : en_397 74 = .inl (cy 5, 10, .inr (.inr (.inr (.inr (va_up (va_up (va_up (va_up (va_up (va_up (va_up (va_up (va_up (va_up (fun _ => none) (0 : Int32).toNatClampNeg (some q_361)) (1 : Int32).toNatClampNeg (some q_364)) (2 : Int32).toNatClampNeg (some q_367)) (3 : Int32).toNatClampNeg (some q_370)) (4 : Int32).toNatClampNeg (some q_373)) (5 : Int32).toNatClampNeg (some q_376)) (6 : Int32).toNatClampNeg (some q_379)) (7 : Int32).toNatClampNeg (some q_382)) (8 : Int32).toNatClampNeg (some q_385)) (9 : Int32).toNatClampNeg (some q_388)))))) := by rw [hue_397 _ (by decide) (by decide)]; exact e74_396
  have he74a_397 : ad_397 74 = q_354 := by rw [hda_397 _ (by decide)]; exact he74a_396
  have e75_397 : en_397 75 = .inl (cy 6, 4, .inr (.inr (.inr (.inr (va_up (fun _ => none) (0 : Int32).toNatClampNeg (some q_391)))))) := by rw [hue_397 _ (by decide) (by decide)]; exact e75_396
  have he75a_397 : ad_397 75 = q_356 := by rw [hda_397 _ (by decide)]; exact he75a_396
  have ew76_397 : en_397 76 = .inr (8, [.int 0]) := by rw [hue_397 _ (by decide) (by decide)]; exact ew76_396
  have hew76a_397 : ad_397 76 = q_358 := by rw [hda_397 _ (by decide)]; exact hew76a_396
  have hew107a_397 : ad_397 107 = q_391 := by rw [hda_397 _ (by decide)]; exact hew107a_396
  have he109a_397 : ad_397 109 = q_396 := by rw [hda_397 _ (by decide)]; exact he109a_396
  have hv_397 : ∀ j, j < 9 → en_397 (34 + 4 * j) = .inr (5, [.ref (ad_397 (35 + 4 * j)), .ref (ad_397 (36 + 4 * j)), .ref (ad_397 (37 + 4 * j)), .int 0, .int 0, .int 0, .long 0, .long 0, .long 0, .long 0]) := fun j hj => by rw [hue_397 _ (flt 34 4 110 hj (by decide)) (fne 34 4 109 hj (by decide)), hda_397 _ (flt 35 4 110 hj (by decide)), hda_397 _ (flt 36 4 110 hj (by decide)), hda_397 _ (flt 37 4 110 hj (by decide))]; exact hv_396 j hj
  have hs_397 : ∀ j, j < 1 → en_397 (107 + 2 * j) = .inr (3, [.ref (ad_397 (108 + 2 * j)), .int 0, .int 0, .int 0]) := fun j hj => by rw [hue_397 _ (flt 107 2 110 hj (by decide)) (fne 107 2 109 hj (by decide)), hda_397 _ (flt 108 2 110 hj (by decide))]; exact hs_396 j hj
  have hc_397 : ∀ j, j < 1 → en_397 (108 + 2 * j) = .inl (cy 0, 40, .inl (fun _ => 0)) := fun j hj => by rw [hue_397 _ (flt 108 2 110 hj (by decide)) (fne 108 2 109 hj (by decide))]; exact hc_396 j hj
  have ew109_397 := ew_397
  have hs_398 : ∀ j, j < 2 → en_397 (107 + 2 * j) = .inr (3, [.ref (ad_397 (108 + 2 * j)), .int 0, .int 0, .int 0]) := fun j hj => (Nat.lt_or_ge j 1).elim (fun h => hs_397 j h) (fun h => by have e0 : j = 1 := (by omega); subst e0; exact ew_397)
  have hc_399 : ∀ j, j < 2 → en_397 (108 + 2 * j) = .inl (cy 0, 40, .inl (fun _ => 0)) := fun j hj => (Nat.lt_or_ge j 1).elim (fun h => hc_397 j h) (fun h => by have e0 : j = 1 := (by omega); subst e0; exact ewa_397)
  refine W.widen (k := 110) (n := 973) (Nat.le_refl _) (Nat.le_refl _) ?_
  refine hp_astq hx hb hK hh (q := 75) (v := 109) he75a_397 (List.mem_range.mpr (by decide)) he109a_397 (List.mem_range.mpr (by decide)) e75_397 ew109_397 rfl rfl (vp_in_iff.mpr (by decide)) dX11_init_119 (fun H locs en_400 hen_400 hh => ?_)
  have et_400 : en_400 0 = .inr (10, [.ref q_345, .ref q_348, .ref q_351, .ref q_354, .ref q_356, .ref q_358, .int 0, .int 0]) := by rw [hen_400, va_up_ne _ _ (by decide)]; exact et_397
  have e1_400 : en_400 1 = .inr (7, [.ref (ad_346 2), .ref (ad_346 3), .ref (ad_346 10), .ref (ad_346 11), .int 0, .int 2, .int 0]) := by rw [hen_400, va_up_ne _ _ (by decide)]; exact e1_397
  have e10_400 : en_400 10 = .inl (cy 2, 36, .inl f_346) := by rw [hen_400, va_up_ne _ _ (by decide)]; exact e10_397
  have e12_400 : en_400 12 = .inr (2, [.ref (ad_349 1), .ref (ad_349 13), .ref (ad_349 14), .ref (ad_349 24), .ref (ad_349 33), .int 0]) := by rw [hen_400, va_up_ne _ _ (by decide)]; exact e12_397
  have e13_400 : en_400 13 = .inl (cy 4, 9, .inr (.inr (.inr (.inr (fun j => some (ad_349 (34 + 4 * j))))))) := by rw [hen_400, va_up_ne _ _ (by decide)]; exact e13_397
  have e14_400 : en_400 14 = .inl (cy 7, 9, .inr (.inr (.inr (.inr (fun j => some (ad_349 (15 + j))))))) := by rw [hen_400, va_up_ne _ _ (by decide)]; exact e14_397
  have e16_400 : en_400 16 = .inl (cy 0, 6, .inl (fun _ => 0)) := by rw [hen_400, va_up_ne _ _ (by decide)]; exact e16_397
  have e70_400 : en_400 70 = .inr (0, [.ref (ad_352 1), .ref (ad_352 71), .ref (ad_352 72), .ref (ad_352 73), .null, .null, .null, .int 0, .int 0, .int 0, .int 0, .int 0, .int 0]) := by rw [hen_400, va_up_ne _ _ (by decide)]; exact e70_397
  have e74_400 : en_400 74 = .inl (cy 5, 10, .inr (.inr (.inr (.inr (va_up (va_up (va_up (va_up (va_up (va_up (va_up (va_up (va_up (va_up (fun _ => none) (0 : Int32).toNatClampNeg (some q_361)) (1 : Int32).toNatClampNeg (some q_364)) (2 : Int32).toNatClampNeg (some q_367)) (3 : Int32).toNatClampNeg (some q_370)) (4 : Int32).toNatClampNeg (some q_373)) (5 : Int32).toNatClampNeg (some q_376)) (6 : Int32).toNatClampNeg (some q_379)) (7 : Int32).toNatClampNeg (some q_382)) (8 : Int32).toNatClampNeg (some q_385)) (9 : Int32).toNatClampNeg (some q_388)))))) := by rw [hen_400, va_up_ne _ _ (by decide)]; exact e74_397
  have ew76_400 : en_400 76 = .inr (8, [.int 0]) := by rw [hen_400, va_up_ne _ _ (by decide)]; exact ew76_397
  have ew109_400 : en_400 109 = .inr (3, [.ref (ad_397 110), .int 0, .int 0, .int 0]) := by rw [hen_400, va_up_ne _ _ (by decide)]; exact ew109_397
  have hv_400 : ∀ j, j < 9 → en_400 (34 + 4 * j) = .inr (5, [.ref (ad_397 (35 + 4 * j)), .ref (ad_397 (36 + 4 * j)), .ref (ad_397 (37 + 4 * j)), .int 0, .int 0, .int 0, .long 0, .long 0, .long 0, .long 0]) := fun j hj => by rw [hen_400, va_up_ne _ _ (fne 34 4 75 hj (by decide))]; exact hv_397 j hj
  have hs_400 : ∀ j, j < 2 → en_400 (107 + 2 * j) = .inr (3, [.ref (ad_397 (108 + 2 * j)), .int 0, .int 0, .int 0]) := fun j hj => by rw [hen_400, va_up_ne _ _ (fne2 107 2 75 (by decide))]; exact hs_398 j hj
  have hc_400 : ∀ j, j < 2 → en_400 (108 + 2 * j) = .inl (cy 0, 40, .inl (fun _ => 0)) := fun j hj => by rw [hen_400, va_up_ne _ _ (fne2 108 2 75 (by decide))]; exact hc_399 j hj
  have e75_400 : en_400 75 = .inl (cy 6, 4, .inr (.inr (.inr (.inr (va_up (va_up (fun _ => none) (0 : Int32).toNatClampNeg (some q_391)) (1 : Int32).toNatClampNeg (some q_396)))))) := by rw [hen_400]; exact va_up_self _ _ _
  refine lv_iinc (v := 2) (lv' := [(1, .int 2), (0, .ref (ad 0))]) hx hb dX11_init_120 hl (k := 0) rfl (by decide) (by decide) rfl (fun ls hl => ?_)
  refine lv_goto (tgt := 102) hx hb dX11_init_123 (by decide) ?_
  refine lv_iload_n hx hb dX11_init_102 rfl (lv_at hl 0 rfl) ?_
  refine lv_iconst (v := 4) hx hb dX11_init_103 (by decide) ?_
  refine lv_icmp_ge (tgt := 126) hx hb dX11_init_104 (by decide) (fun c_0 => absurd c_0 (by decide)) (fun _ => ?_)
  refine lv_aload_n hx hb dX11_init_107 rfl (lv_at hl 1 rfl) ?_
  refine hp_get hx hb hts ix11 hown hK hh (q := 0) heta_397 (List.mem_range.mpr (by decide)) et_400 rfl 4 (by decide) (hts _ tw_249) (fun _ h9 => h9) rfl dX11_init_108 ?_
  refine lv_iload_n hx hb dX11_init_111 rfl (lv_at hl 0 rfl) ?_
  refine hq_new (ci := 3) (fs := [.null, .int 0, .int 0, .int 0]) hx hb hts ix3 tyX3 tyX3_ok hown (hts _ tw_193) (hts _ tw_224) (hts _ tw_8) hK hh hA rfl (fun j hj => by rcases (show j = 0 ∨ j = 1 ∨ j = 2 ∨ j = 3 by omega) with rfl | rfl | rfl | rfl <;> rfl) (Nat.le_of_ble_eq_true rfl) (Nat.le_of_ble_eq_true rfl) dX11_init_112 (fun q_401 H ad_401 en_401 had_401 hen_401 hh => ?_)
  have hh : Hp D A A s.heap H _ (List.range 112) ad_401 en_401 := hh
  have et_401 : en_401 0 = .inr (10, [.ref q_345, .ref q_348, .ref q_351, .ref q_354, .ref q_356, .ref q_358, .int 0, .int 0]) := by rw [hen_401, va_up_ne _ _ (by decide)]; exact et_400
  have heta_401 : ad_401 0 = (ad 0) := by rw [had_401, va_up_ne _ _ (by decide)]; exact heta_397
  have e1_401 : en_401 1 = .inr (7, [.ref (ad_346 2), .ref (ad_346 3), .ref (ad_346 10), .ref (ad_346 11), .int 0, .int 2, .int 0]) := by rw [hen_401, va_up_ne _ _ (by decide)]; exact e1_400
  have he1a_401 : ad_401 1 = q_345 := by rw [had_401, va_up_ne _ _ (by decide)]; exact he1a_397
  have e10_401 : en_401 10 = .inl (cy 2, 36, .inl f_346) := by rw [hen_401, va_up_ne _ _ (by decide)]; exact e10_400
  have he10a_401 : ad_401 10 = (ad_346 10) := by rw [had_401, va_up_ne _ _ (by decide)]; exact he10a_397
  have hex2a_401 : ad_401 2 = (ad_346 2) := by rw [had_401, va_up_ne _ _ (by decide)]; exact hex2a_397
  have hex3a_401 : ad_401 3 = (ad_346 3) := by rw [had_401, va_up_ne _ _ (by decide)]; exact hex3a_397
  have hex11a_401 : ad_401 11 = (ad_346 11) := by rw [had_401, va_up_ne _ _ (by decide)]; exact hex11a_397
  have e12_401 : en_401 12 = .inr (2, [.ref (ad_349 1), .ref (ad_349 13), .ref (ad_349 14), .ref (ad_349 24), .ref (ad_349 33), .int 0]) := by rw [hen_401, va_up_ne _ _ (by decide)]; exact e12_400
  have he12a_401 : ad_401 12 = q_348 := by rw [had_401, va_up_ne _ _ (by decide)]; exact he12a_397
  have e13_401 : en_401 13 = .inl (cy 4, 9, .inr (.inr (.inr (.inr (fun j => some (ad_349 (34 + 4 * j))))))) := by rw [hen_401, va_up_ne _ _ (by decide)]; exact e13_400
  have he13a_401 : ad_401 13 = (ad_349 13) := by rw [had_401, va_up_ne _ _ (by decide)]; exact he13a_397
  have e14_401 : en_401 14 = .inl (cy 7, 9, .inr (.inr (.inr (.inr (fun j => some (ad_349 (15 + j))))))) := by rw [hen_401, va_up_ne _ _ (by decide)]; exact e14_400
  have he14a_401 : ad_401 14 = (ad_349 14) := by rw [had_401, va_up_ne _ _ (by decide)]; exact he14a_397
  have e16_401 : en_401 16 = .inl (cy 0, 6, .inl (fun _ => 0)) := by rw [hen_401, va_up_ne _ _ (by decide)]; exact e16_400
  have he16a_401 : ad_401 16 = (ad_349 16) := by rw [had_401, va_up_ne _ _ (by decide)]; exact he16a_397
  have hex24a_401 : ad_401 24 = (ad_349 24) := by rw [had_401, va_up_ne _ _ (by decide)]; exact hex24a_397
  have hex33a_401 : ad_401 33 = (ad_349 33) := by rw [had_401, va_up_ne _ _ (by decide)]; exact hex33a_397
  have e70_401 : en_401 70 = .inr (0, [.ref (ad_352 1), .ref (ad_352 71), .ref (ad_352 72), .ref (ad_352 73), .null, .null, .null, .int 0, .int 0, .int 0, .int 0, .int 0, .int 0]) := by rw [hen_401, va_up_ne _ _ (by decide)]; exact e70_400
  have he70a_401 : ad_401 70 = q_351 := by rw [had_401, va_up_ne _ _ (by decide)]; exact he70a_397
  have hex71a_401 : ad_401 71 = (ad_352 71) := by rw [had_401, va_up_ne _ _ (by decide)]; exact hex71a_397
  have hex72a_401 : ad_401 72 = (ad_352 72) := by rw [had_401, va_up_ne _ _ (by decide)]; exact hex72a_397
  have hex73a_401 : ad_401 73 = (ad_352 73) := by rw [had_401, va_up_ne _ _ (by decide)]; exact hex73a_397
  have e74_401 : en_401 74 = .inl (cy 5, 10, .inr (.inr (.inr (.inr (va_up (va_up (va_up (va_up (va_up (va_up (va_up (va_up (va_up (va_up (fun _ => none) (0 : Int32).toNatClampNeg (some q_361)) (1 : Int32).toNatClampNeg (some q_364)) (2 : Int32).toNatClampNeg (some q_367)) (3 : Int32).toNatClampNeg (some q_370)) (4 : Int32).toNatClampNeg (some q_373)) (5 : Int32).toNatClampNeg (some q_376)) (6 : Int32).toNatClampNeg (some q_379)) (7 : Int32).toNatClampNeg (some q_382)) (8 : Int32).toNatClampNeg (some q_385)) (9 : Int32).toNatClampNeg (some q_388)))))) := by rw [hen_401, va_up_ne _ _ (by decide)]; exact e74_400
  have he74a_401 : ad_401 74 = q_354 := by rw [had_401, va_up_ne _ _ (by decide)]; exact he74a_397
  have e75_401 : en_401 75 = .inl (cy 6, 4, .inr (.inr (.inr (.inr (va_up (va_up (fun _ => none) (0 : Int32).toNatClampNeg (some q_391)) (1 : Int32).toNatClampNeg (some q_396)))))) := by rw [hen_401, va_up_ne _ _ (by decide)]; exact e75_400
  have he75a_401 : ad_401 75 = q_356 := by rw [had_401, va_up_ne _ _ (by decide)]; exact he75a_397
  have ew76_401 : en_401 76 = .inr (8, [.int 0]) := by rw [hen_401, va_up_ne _ _ (by decide)]; exact ew76_400
  have hew76a_401 : ad_401 76 = q_358 := by rw [had_401, va_up_ne _ _ (by decide)]; exact hew76a_397
  have hew107a_401 : ad_401 107 = q_391 := by rw [had_401, va_up_ne _ _ (by decide)]; exact hew107a_397
  have hew109a_401 : ad_401 109 = q_396 := by rw [had_401, va_up_ne _ _ (by decide)]; exact he109a_397
  have hv_401 : ∀ j, j < 9 → en_401 (34 + 4 * j) = .inr (5, [.ref (ad_401 (35 + 4 * j)), .ref (ad_401 (36 + 4 * j)), .ref (ad_401 (37 + 4 * j)), .int 0, .int 0, .int 0, .long 0, .long 0, .long 0, .long 0]) := fun j hj => by rw [hen_401, va_up_ne _ _ (fne 34 4 111 hj (by decide)), had_401, va_up_ne _ _ (fne 35 4 111 hj (by decide)), va_up_ne _ _ (fne 36 4 111 hj (by decide)), va_up_ne _ _ (fne 37 4 111 hj (by decide))]; exact hv_400 j hj
  have hs_401 : ∀ j, j < 2 → en_401 (107 + 2 * j) = .inr (3, [.ref (ad_401 (108 + 2 * j)), .int 0, .int 0, .int 0]) := fun j hj => by rw [hen_401, va_up_ne _ _ (fne 107 2 111 hj (by decide)), had_401, va_up_ne _ _ (fne 108 2 111 hj (by decide))]; exact hs_400 j hj
  have hc_401 : ∀ j, j < 2 → en_401 (108 + 2 * j) = .inl (cy 0, 40, .inl (fun _ => 0)) := fun j hj => by rw [hen_401, va_up_ne _ _ (fne 108 2 111 hj (by decide))]; exact hc_400 j hj
  have e111_401 : en_401 111 = .inr (3, [.null, .int 0, .int 0, .int 0]) := by rw [hen_401]; exact va_up_self _ _ _
  have he111a_401 : ad_401 111 = q_401 := by rw [had_401]; exact va_up_self _ _ _
  refine W.widen (k := 111) (n := 977) (Nat.le_refl _) (Nat.le_refl _) ?_
  refine lv_dup hx hb dX11_init_115 rfl ?_
  refine W.eq (g2 := F0 m 116 ls [.ref (ad_401 111), .ref q_401, .int 2, .ref q_356]) (by rw [he111a_401]) ?_
  refine hq_callC (va_runIN (As := []) (rest := [.ref q_401, .int 2, .ref q_356]) ⟨hx, hb, hml, hown, hts⟩ (c_X3_init l D cy _ ad_401 en_401 112 111 (by decide) e111_401) (kw_X3_init hts hX.2.2.2.2.2.2.2.2.2 ⟨by decide, by decide⟩) (preC_of hh hK hX) rfl rfl hl.1 rfl (lv_room (Nat.le_of_ble_eq_true rfl)) dX11_init_116 ⟨Nat.le_of_ble_eq_true rfl, Nat.le_of_ble_eq_true rfl⟩) hh hA (fun H locs ad_402 en_402 hw_402 hh => ?_)
  have hh : Hp D A A s.heap H _ (List.range 113) ad_402 en_402 := hh
  obtain ⟨hda_402, hue_402, ew_402, ewa_402⟩ := hw_402
  dsimp only at hda_402 hue_402 ew_402 ewa_402
  have et_402 : en_402 0 = .inr (10, [.ref q_345, .ref q_348, .ref q_351, .ref q_354, .ref q_356, .ref q_358, .int 0, .int 0]) := by rw [hue_402 _ (by decide) (by decide)]; exact et_401
  have heta_402 : ad_402 0 = (ad 0) := by rw [hda_402 _ (by decide)]; exact heta_401
  have e1_402 : en_402 1 = .inr (7, [.ref (ad_346 2), .ref (ad_346 3), .ref (ad_346 10), .ref (ad_346 11), .int 0, .int 2, .int 0]) := by rw [hue_402 _ (by decide) (by decide)]; exact e1_401
  have he1a_402 : ad_402 1 = q_345 := by rw [hda_402 _ (by decide)]; exact he1a_401
  have e10_402 : en_402 10 = .inl (cy 2, 36, .inl f_346) := by rw [hue_402 _ (by decide) (by decide)]; exact e10_401
  have he10a_402 : ad_402 10 = (ad_346 10) := by rw [hda_402 _ (by decide)]; exact he10a_401
  have hex2a_402 : ad_402 2 = (ad_346 2) := by rw [hda_402 _ (by decide)]; exact hex2a_401
  have hex3a_402 : ad_402 3 = (ad_346 3) := by rw [hda_402 _ (by decide)]; exact hex3a_401
  have hex11a_402 : ad_402 11 = (ad_346 11) := by rw [hda_402 _ (by decide)]; exact hex11a_401
  have e12_402 : en_402 12 = .inr (2, [.ref (ad_349 1), .ref (ad_349 13), .ref (ad_349 14), .ref (ad_349 24), .ref (ad_349 33), .int 0]) := by rw [hue_402 _ (by decide) (by decide)]; exact e12_401
  have he12a_402 : ad_402 12 = q_348 := by rw [hda_402 _ (by decide)]; exact he12a_401
  have e13_402 : en_402 13 = .inl (cy 4, 9, .inr (.inr (.inr (.inr (fun j => some (ad_349 (34 + 4 * j))))))) := by rw [hue_402 _ (by decide) (by decide)]; exact e13_401
  have he13a_402 : ad_402 13 = (ad_349 13) := by rw [hda_402 _ (by decide)]; exact he13a_401
  have e14_402 : en_402 14 = .inl (cy 7, 9, .inr (.inr (.inr (.inr (fun j => some (ad_349 (15 + j))))))) := by rw [hue_402 _ (by decide) (by decide)]; exact e14_401
  have he14a_402 : ad_402 14 = (ad_349 14) := by rw [hda_402 _ (by decide)]; exact he14a_401
  have e16_402 : en_402 16 = .inl (cy 0, 6, .inl (fun _ => 0)) := by rw [hue_402 _ (by decide) (by decide)]; exact e16_401
  have he16a_402 : ad_402 16 = (ad_349 16) := by rw [hda_402 _ (by decide)]; exact he16a_401
  have hex24a_402 : ad_402 24 = (ad_349 24) := by rw [hda_402 _ (by decide)]; exact hex24a_401
  have hex33a_402 : ad_402 33 = (ad_349 33) := by rw [hda_402 _ (by decide)]; exact hex33a_401
  have e70_402 : en_402 70 = .inr (0, [.ref (ad_352 1), .ref (ad_352 71), .ref (ad_352 72), .ref (ad_352 73), .null, .null, .null, .int 0, .int 0, .int 0, .int 0, .int 0, .int 0]) := by rw [hue_402 _ (by decide) (by decide)]; exact e70_401
  have he70a_402 : ad_402 70 = q_351 := by rw [hda_402 _ (by decide)]; exact he70a_401
  have hex71a_402 : ad_402 71 = (ad_352 71) := by rw [hda_402 _ (by decide)]; exact hex71a_401
  have hex72a_402 : ad_402 72 = (ad_352 72) := by rw [hda_402 _ (by decide)]; exact hex72a_401
  have hex73a_402 : ad_402 73 = (ad_352 73) := by rw [hda_402 _ (by decide)]; exact hex73a_401
  have e74_402 : en_402 74 = .inl (cy 5, 10, .inr (.inr (.inr (.inr (va_up (va_up (va_up (va_up (va_up (va_up (va_up (va_up (va_up (va_up (fun _ => none) (0 : Int32).toNatClampNeg (some q_361)) (1 : Int32).toNatClampNeg (some q_364)) (2 : Int32).toNatClampNeg (some q_367)) (3 : Int32).toNatClampNeg (some q_370)) (4 : Int32).toNatClampNeg (some q_373)) (5 : Int32).toNatClampNeg (some q_376)) (6 : Int32).toNatClampNeg (some q_379)) (7 : Int32).toNatClampNeg (some q_382)) (8 : Int32).toNatClampNeg (some q_385)) (9 : Int32).toNatClampNeg (some q_388)))))) := by rw [hue_402 _ (by decide) (by decide)]; exact e74_401
  have he74a_402 : ad_402 74 = q_354 := by rw [hda_402 _ (by decide)]; exact he74a_401
  have e75_402 : en_402 75 = .inl (cy 6, 4, .inr (.inr (.inr (.inr (va_up (va_up (fun _ => none) (0 : Int32).toNatClampNeg (some q_391)) (1 : Int32).toNatClampNeg (some q_396)))))) := by rw [hue_402 _ (by decide) (by decide)]; exact e75_401
  have he75a_402 : ad_402 75 = q_356 := by rw [hda_402 _ (by decide)]; exact he75a_401
  have ew76_402 : en_402 76 = .inr (8, [.int 0]) := by rw [hue_402 _ (by decide) (by decide)]; exact ew76_401
  have hew76a_402 : ad_402 76 = q_358 := by rw [hda_402 _ (by decide)]; exact hew76a_401
  have hew107a_402 : ad_402 107 = q_391 := by rw [hda_402 _ (by decide)]; exact hew107a_401
  have hew109a_402 : ad_402 109 = q_396 := by rw [hda_402 _ (by decide)]; exact hew109a_401
  have he111a_402 : ad_402 111 = q_401 := by rw [hda_402 _ (by decide)]; exact he111a_401
  have hv_402 : ∀ j, j < 9 → en_402 (34 + 4 * j) = .inr (5, [.ref (ad_402 (35 + 4 * j)), .ref (ad_402 (36 + 4 * j)), .ref (ad_402 (37 + 4 * j)), .int 0, .int 0, .int 0, .long 0, .long 0, .long 0, .long 0]) := fun j hj => by rw [hue_402 _ (flt 34 4 112 hj (by decide)) (fne 34 4 111 hj (by decide)), hda_402 _ (flt 35 4 112 hj (by decide)), hda_402 _ (flt 36 4 112 hj (by decide)), hda_402 _ (flt 37 4 112 hj (by decide))]; exact hv_401 j hj
  have hs_402 : ∀ j, j < 2 → en_402 (107 + 2 * j) = .inr (3, [.ref (ad_402 (108 + 2 * j)), .int 0, .int 0, .int 0]) := fun j hj => by rw [hue_402 _ (flt 107 2 112 hj (by decide)) (fne 107 2 111 hj (by decide)), hda_402 _ (flt 108 2 112 hj (by decide))]; exact hs_401 j hj
  have hc_402 : ∀ j, j < 2 → en_402 (108 + 2 * j) = .inl (cy 0, 40, .inl (fun _ => 0)) := fun j hj => by rw [hue_402 _ (flt 108 2 112 hj (by decide)) (fne 108 2 111 hj (by decide))]; exact hc_401 j hj
  have ew111_402 := ew_402
  have hs_403 : ∀ j, j < 3 → en_402 (107 + 2 * j) = .inr (3, [.ref (ad_402 (108 + 2 * j)), .int 0, .int 0, .int 0]) := fun j hj => (Nat.lt_or_ge j 2).elim (fun h => hs_402 j h) (fun h => by have e0 : j = 2 := (by omega); subst e0; exact ew_402)
  have hc_404 : ∀ j, j < 3 → en_402 (108 + 2 * j) = .inl (cy 0, 40, .inl (fun _ => 0)) := fun j hj => (Nat.lt_or_ge j 2).elim (fun h => hc_402 j h) (fun h => by have e0 : j = 2 := (by omega); subst e0; exact ewa_402)
  refine W.widen (k := 112) (n := 1017) (Nat.le_refl _) (Nat.le_refl _) ?_
  refine hp_astq hx hb hK hh (q := 75) (v := 111) he75a_402 (List.mem_range.mpr (by decide)) he111a_402 (List.mem_range.mpr (by decide)) e75_402 ew111_402 rfl rfl (vp_in_iff.mpr (by decide)) dX11_init_119 (fun H locs en_405 hen_405 hh => ?_)
  have et_405 : en_405 0 = .inr (10, [.ref q_345, .ref q_348, .ref q_351, .ref q_354, .ref q_356, .ref q_358, .int 0, .int 0]) := by rw [hen_405, va_up_ne _ _ (by decide)]; exact et_402
  have e1_405 : en_405 1 = .inr (7, [.ref (ad_346 2), .ref (ad_346 3), .ref (ad_346 10), .ref (ad_346 11), .int 0, .int 2, .int 0]) := by rw [hen_405, va_up_ne _ _ (by decide)]; exact e1_402
  have e10_405 : en_405 10 = .inl (cy 2, 36, .inl f_346) := by rw [hen_405, va_up_ne _ _ (by decide)]; exact e10_402
  have e12_405 : en_405 12 = .inr (2, [.ref (ad_349 1), .ref (ad_349 13), .ref (ad_349 14), .ref (ad_349 24), .ref (ad_349 33), .int 0]) := by rw [hen_405, va_up_ne _ _ (by decide)]; exact e12_402
  have e13_405 : en_405 13 = .inl (cy 4, 9, .inr (.inr (.inr (.inr (fun j => some (ad_349 (34 + 4 * j))))))) := by rw [hen_405, va_up_ne _ _ (by decide)]; exact e13_402
  have e14_405 : en_405 14 = .inl (cy 7, 9, .inr (.inr (.inr (.inr (fun j => some (ad_349 (15 + j))))))) := by rw [hen_405, va_up_ne _ _ (by decide)]; exact e14_402
  have e16_405 : en_405 16 = .inl (cy 0, 6, .inl (fun _ => 0)) := by rw [hen_405, va_up_ne _ _ (by decide)]; exact e16_402
  have e70_405 : en_405 70 = .inr (0, [.ref (ad_352 1), .ref (ad_352 71), .ref (ad_352 72), .ref (ad_352 73), .null, .null, .null, .int 0, .int 0, .int 0, .int 0, .int 0, .int 0]) := by rw [hen_405, va_up_ne _ _ (by decide)]; exact e70_402
  have e74_405 : en_405 74 = .inl (cy 5, 10, .inr (.inr (.inr (.inr (va_up (va_up (va_up (va_up (va_up (va_up (va_up (va_up (va_up (va_up (fun _ => none) (0 : Int32).toNatClampNeg (some q_361)) (1 : Int32).toNatClampNeg (some q_364)) (2 : Int32).toNatClampNeg (some q_367)) (3 : Int32).toNatClampNeg (some q_370)) (4 : Int32).toNatClampNeg (some q_373)) (5 : Int32).toNatClampNeg (some q_376)) (6 : Int32).toNatClampNeg (some q_379)) (7 : Int32).toNatClampNeg (some q_382)) (8 : Int32).toNatClampNeg (some q_385)) (9 : Int32).toNatClampNeg (some q_388)))))) := by rw [hen_405, va_up_ne _ _ (by decide)]; exact e74_402
  have ew76_405 : en_405 76 = .inr (8, [.int 0]) := by rw [hen_405, va_up_ne _ _ (by decide)]; exact ew76_402
  have ew111_405 : en_405 111 = .inr (3, [.ref (ad_402 112), .int 0, .int 0, .int 0]) := by rw [hen_405, va_up_ne _ _ (by decide)]; exact ew111_402
  have hv_405 : ∀ j, j < 9 → en_405 (34 + 4 * j) = .inr (5, [.ref (ad_402 (35 + 4 * j)), .ref (ad_402 (36 + 4 * j)), .ref (ad_402 (37 + 4 * j)), .int 0, .int 0, .int 0, .long 0, .long 0, .long 0, .long 0]) := fun j hj => by rw [hen_405, va_up_ne _ _ (fne 34 4 75 hj (by decide))]; exact hv_402 j hj
  have hs_405 : ∀ j, j < 3 → en_405 (107 + 2 * j) = .inr (3, [.ref (ad_402 (108 + 2 * j)), .int 0, .int 0, .int 0]) := fun j hj => by rw [hen_405, va_up_ne _ _ (fne2 107 2 75 (by decide))]; exact hs_403 j hj
  have hc_405 : ∀ j, j < 3 → en_405 (108 + 2 * j) = .inl (cy 0, 40, .inl (fun _ => 0)) := fun j hj => by rw [hen_405, va_up_ne _ _ (fne2 108 2 75 (by decide))]; exact hc_404 j hj
  have e75_405 : en_405 75 = .inl (cy 6, 4, .inr (.inr (.inr (.inr (va_up (va_up (va_up (fun _ => none) (0 : Int32).toNatClampNeg (some q_391)) (1 : Int32).toNatClampNeg (some q_396)) (2 : Int32).toNatClampNeg (some q_401)))))) := by rw [hen_405]; exact va_up_self _ _ _
  refine lv_iinc (v := 3) (lv' := [(1, .int 3), (0, .ref (ad 0))]) hx hb dX11_init_120 hl (k := 0) rfl (by decide) (by decide) rfl (fun ls hl => ?_)
  refine lv_goto (tgt := 102) hx hb dX11_init_123 (by decide) ?_
  refine lv_iload_n hx hb dX11_init_102 rfl (lv_at hl 0 rfl) ?_
  refine lv_iconst (v := 4) hx hb dX11_init_103 (by decide) ?_
  refine lv_icmp_ge (tgt := 126) hx hb dX11_init_104 (by decide) (fun c_0 => absurd c_0 (by decide)) (fun _ => ?_)
  refine lv_aload_n hx hb dX11_init_107 rfl (lv_at hl 1 rfl) ?_
  refine hp_get hx hb hts ix11 hown hK hh (q := 0) heta_402 (List.mem_range.mpr (by decide)) et_405 rfl 4 (by decide) (hts _ tw_249) (fun _ h9 => h9) rfl dX11_init_108 ?_
  refine lv_iload_n hx hb dX11_init_111 rfl (lv_at hl 0 rfl) ?_
  refine hq_new (ci := 3) (fs := [.null, .int 0, .int 0, .int 0]) hx hb hts ix3 tyX3 tyX3_ok hown (hts _ tw_193) (hts _ tw_224) (hts _ tw_8) hK hh hA rfl (fun j hj => by rcases (show j = 0 ∨ j = 1 ∨ j = 2 ∨ j = 3 by omega) with rfl | rfl | rfl | rfl <;> rfl) (Nat.le_of_ble_eq_true rfl) (Nat.le_of_ble_eq_true rfl) dX11_init_112 (fun q_406 H ad_406 en_406 had_406 hen_406 hh => ?_)
  have hh : Hp D A A s.heap H _ (List.range 114) ad_406 en_406 := hh
  have et_406 : en_406 0 = .inr (10, [.ref q_345, .ref q_348, .ref q_351, .ref q_354, .ref q_356, .ref q_358, .int 0, .int 0]) := by rw [hen_406, va_up_ne _ _ (by decide)]; exact et_405
  have heta_406 : ad_406 0 = (ad 0) := by rw [had_406, va_up_ne _ _ (by decide)]; exact heta_402
  have e1_406 : en_406 1 = .inr (7, [.ref (ad_346 2), .ref (ad_346 3), .ref (ad_346 10), .ref (ad_346 11), .int 0, .int 2, .int 0]) := by rw [hen_406, va_up_ne _ _ (by decide)]; exact e1_405
  have he1a_406 : ad_406 1 = q_345 := by rw [had_406, va_up_ne _ _ (by decide)]; exact he1a_402
  have e10_406 : en_406 10 = .inl (cy 2, 36, .inl f_346) := by rw [hen_406, va_up_ne _ _ (by decide)]; exact e10_405
  have he10a_406 : ad_406 10 = (ad_346 10) := by rw [had_406, va_up_ne _ _ (by decide)]; exact he10a_402
  have hex2a_406 : ad_406 2 = (ad_346 2) := by rw [had_406, va_up_ne _ _ (by decide)]; exact hex2a_402
  have hex3a_406 : ad_406 3 = (ad_346 3) := by rw [had_406, va_up_ne _ _ (by decide)]; exact hex3a_402
  have hex11a_406 : ad_406 11 = (ad_346 11) := by rw [had_406, va_up_ne _ _ (by decide)]; exact hex11a_402
  have e12_406 : en_406 12 = .inr (2, [.ref (ad_349 1), .ref (ad_349 13), .ref (ad_349 14), .ref (ad_349 24), .ref (ad_349 33), .int 0]) := by rw [hen_406, va_up_ne _ _ (by decide)]; exact e12_405
  have he12a_406 : ad_406 12 = q_348 := by rw [had_406, va_up_ne _ _ (by decide)]; exact he12a_402
  have e13_406 : en_406 13 = .inl (cy 4, 9, .inr (.inr (.inr (.inr (fun j => some (ad_349 (34 + 4 * j))))))) := by rw [hen_406, va_up_ne _ _ (by decide)]; exact e13_405
  have he13a_406 : ad_406 13 = (ad_349 13) := by rw [had_406, va_up_ne _ _ (by decide)]; exact he13a_402
  have e14_406 : en_406 14 = .inl (cy 7, 9, .inr (.inr (.inr (.inr (fun j => some (ad_349 (15 + j))))))) := by rw [hen_406, va_up_ne _ _ (by decide)]; exact e14_405
  have he14a_406 : ad_406 14 = (ad_349 14) := by rw [had_406, va_up_ne _ _ (by decide)]; exact he14a_402
  have e16_406 : en_406 16 = .inl (cy 0, 6, .inl (fun _ => 0)) := by rw [hen_406, va_up_ne _ _ (by decide)]; exact e16_405
  have he16a_406 : ad_406 16 = (ad_349 16) := by rw [had_406, va_up_ne _ _ (by decide)]; exact he16a_402
  have hex24a_406 : ad_406 24 = (ad_349 24) := by rw [had_406, va_up_ne _ _ (by decide)]; exact hex24a_402
  have hex33a_406 : ad_406 33 = (ad_349 33) := by rw [had_406, va_up_ne _ _ (by decide)]; exact hex33a_402
  have e70_406 : en_406 70 = .inr (0, [.ref (ad_352 1), .ref (ad_352 71), .ref (ad_352 72), .ref (ad_352 73), .null, .null, .null, .int 0, .int 0, .int 0, .int 0, .int 0, .int 0]) := by rw [hen_406, va_up_ne _ _ (by decide)]; exact e70_405
  have he70a_406 : ad_406 70 = q_351 := by rw [had_406, va_up_ne _ _ (by decide)]; exact he70a_402
  have hex71a_406 : ad_406 71 = (ad_352 71) := by rw [had_406, va_up_ne _ _ (by decide)]; exact hex71a_402
  have hex72a_406 : ad_406 72 = (ad_352 72) := by rw [had_406, va_up_ne _ _ (by decide)]; exact hex72a_402
  have hex73a_406 : ad_406 73 = (ad_352 73) := by rw [had_406, va_up_ne _ _ (by decide)]; exact hex73a_402
  have e74_406 : en_406 74 = .inl (cy 5, 10, .inr (.inr (.inr (.inr (va_up (va_up (va_up (va_up (va_up (va_up (va_up (va_up (va_up (va_up (fun _ => none) (0 : Int32).toNatClampNeg (some q_361)) (1 : Int32).toNatClampNeg (some q_364)) (2 : Int32).toNatClampNeg (some q_367)) (3 : Int32).toNatClampNeg (some q_370)) (4 : Int32).toNatClampNeg (some q_373)) (5 : Int32).toNatClampNeg (some q_376)) (6 : Int32).toNatClampNeg (some q_379)) (7 : Int32).toNatClampNeg (some q_382)) (8 : Int32).toNatClampNeg (some q_385)) (9 : Int32).toNatClampNeg (some q_388)))))) := by rw [hen_406, va_up_ne _ _ (by decide)]; exact e74_405
  have he74a_406 : ad_406 74 = q_354 := by rw [had_406, va_up_ne _ _ (by decide)]; exact he74a_402
  have e75_406 : en_406 75 = .inl (cy 6, 4, .inr (.inr (.inr (.inr (va_up (va_up (va_up (fun _ => none) (0 : Int32).toNatClampNeg (some q_391)) (1 : Int32).toNatClampNeg (some q_396)) (2 : Int32).toNatClampNeg (some q_401)))))) := by rw [hen_406, va_up_ne _ _ (by decide)]; exact e75_405
  have he75a_406 : ad_406 75 = q_356 := by rw [had_406, va_up_ne _ _ (by decide)]; exact he75a_402
  have ew76_406 : en_406 76 = .inr (8, [.int 0]) := by rw [hen_406, va_up_ne _ _ (by decide)]; exact ew76_405
  have hew76a_406 : ad_406 76 = q_358 := by rw [had_406, va_up_ne _ _ (by decide)]; exact hew76a_402
  have hew107a_406 : ad_406 107 = q_391 := by rw [had_406, va_up_ne _ _ (by decide)]; exact hew107a_402
  have hew109a_406 : ad_406 109 = q_396 := by rw [had_406, va_up_ne _ _ (by decide)]; exact hew109a_402
  have hew111a_406 : ad_406 111 = q_401 := by rw [had_406, va_up_ne _ _ (by decide)]; exact he111a_402
  have hv_406 : ∀ j, j < 9 → en_406 (34 + 4 * j) = .inr (5, [.ref (ad_406 (35 + 4 * j)), .ref (ad_406 (36 + 4 * j)), .ref (ad_406 (37 + 4 * j)), .int 0, .int 0, .int 0, .long 0, .long 0, .long 0, .long 0]) := fun j hj => by rw [hen_406, va_up_ne _ _ (fne 34 4 113 hj (by decide)), had_406, va_up_ne _ _ (fne 35 4 113 hj (by decide)), va_up_ne _ _ (fne 36 4 113 hj (by decide)), va_up_ne _ _ (fne 37 4 113 hj (by decide))]; exact hv_405 j hj
  have hs_406 : ∀ j, j < 3 → en_406 (107 + 2 * j) = .inr (3, [.ref (ad_406 (108 + 2 * j)), .int 0, .int 0, .int 0]) := fun j hj => by rw [hen_406, va_up_ne _ _ (fne 107 2 113 hj (by decide)), had_406, va_up_ne _ _ (fne 108 2 113 hj (by decide))]; exact hs_405 j hj
  have hc_406 : ∀ j, j < 3 → en_406 (108 + 2 * j) = .inl (cy 0, 40, .inl (fun _ => 0)) := fun j hj => by rw [hen_406, va_up_ne _ _ (fne 108 2 113 hj (by decide))]; exact hc_405 j hj
  have e113_406 : en_406 113 = .inr (3, [.null, .int 0, .int 0, .int 0]) := by rw [hen_406]; exact va_up_self _ _ _
  have he113a_406 : ad_406 113 = q_406 := by rw [had_406]; exact va_up_self _ _ _
  refine W.widen (k := 113) (n := 1021) (Nat.le_refl _) (Nat.le_refl _) ?_
  refine lv_dup hx hb dX11_init_115 rfl ?_
  refine W.eq (g2 := F0 m 116 ls [.ref (ad_406 113), .ref q_406, .int 3, .ref q_356]) (by rw [he113a_406]) ?_
  refine hq_callC (va_runIN (As := []) (rest := [.ref q_406, .int 3, .ref q_356]) ⟨hx, hb, hml, hown, hts⟩ (c_X3_init l D cy _ ad_406 en_406 114 113 (by decide) e113_406) (kw_X3_init hts hX.2.2.2.2.2.2.2.2.2 ⟨by decide, by decide⟩) (preC_of hh hK hX) rfl rfl hl.1 rfl (lv_room (Nat.le_of_ble_eq_true rfl)) dX11_init_116 ⟨Nat.le_of_ble_eq_true rfl, Nat.le_of_ble_eq_true rfl⟩) hh hA (fun H locs ad_407 en_407 hw_407 hh => ?_)
  have hh : Hp D A A s.heap H _ (List.range 115) ad_407 en_407 := hh
  obtain ⟨hda_407, hue_407, ew_407, ewa_407⟩ := hw_407
  dsimp only at hda_407 hue_407 ew_407 ewa_407
  have et_407 : en_407 0 = .inr (10, [.ref q_345, .ref q_348, .ref q_351, .ref q_354, .ref q_356, .ref q_358, .int 0, .int 0]) := by rw [hue_407 _ (by decide) (by decide)]; exact et_406
  have heta_407 : ad_407 0 = (ad 0) := by rw [hda_407 _ (by decide)]; exact heta_406
  have e1_407 : en_407 1 = .inr (7, [.ref (ad_346 2), .ref (ad_346 3), .ref (ad_346 10), .ref (ad_346 11), .int 0, .int 2, .int 0]) := by rw [hue_407 _ (by decide) (by decide)]; exact e1_406
  have he1a_407 : ad_407 1 = q_345 := by rw [hda_407 _ (by decide)]; exact he1a_406
  have e10_407 : en_407 10 = .inl (cy 2, 36, .inl f_346) := by rw [hue_407 _ (by decide) (by decide)]; exact e10_406
  have he10a_407 : ad_407 10 = (ad_346 10) := by rw [hda_407 _ (by decide)]; exact he10a_406
  have hex2a_407 : ad_407 2 = (ad_346 2) := by rw [hda_407 _ (by decide)]; exact hex2a_406
  have hex3a_407 : ad_407 3 = (ad_346 3) := by rw [hda_407 _ (by decide)]; exact hex3a_406
  have hex11a_407 : ad_407 11 = (ad_346 11) := by rw [hda_407 _ (by decide)]; exact hex11a_406
  have e12_407 : en_407 12 = .inr (2, [.ref (ad_349 1), .ref (ad_349 13), .ref (ad_349 14), .ref (ad_349 24), .ref (ad_349 33), .int 0]) := by rw [hue_407 _ (by decide) (by decide)]; exact e12_406
  have he12a_407 : ad_407 12 = q_348 := by rw [hda_407 _ (by decide)]; exact he12a_406
  have e13_407 : en_407 13 = .inl (cy 4, 9, .inr (.inr (.inr (.inr (fun j => some (ad_349 (34 + 4 * j))))))) := by rw [hue_407 _ (by decide) (by decide)]; exact e13_406
  have he13a_407 : ad_407 13 = (ad_349 13) := by rw [hda_407 _ (by decide)]; exact he13a_406
  have e14_407 : en_407 14 = .inl (cy 7, 9, .inr (.inr (.inr (.inr (fun j => some (ad_349 (15 + j))))))) := by rw [hue_407 _ (by decide) (by decide)]; exact e14_406
  have he14a_407 : ad_407 14 = (ad_349 14) := by rw [hda_407 _ (by decide)]; exact he14a_406
  have e16_407 : en_407 16 = .inl (cy 0, 6, .inl (fun _ => 0)) := by rw [hue_407 _ (by decide) (by decide)]; exact e16_406
  have he16a_407 : ad_407 16 = (ad_349 16) := by rw [hda_407 _ (by decide)]; exact he16a_406
  have hex24a_407 : ad_407 24 = (ad_349 24) := by rw [hda_407 _ (by decide)]; exact hex24a_406
  have hex33a_407 : ad_407 33 = (ad_349 33) := by rw [hda_407 _ (by decide)]; exact hex33a_406
  have e70_407 : en_407 70 = .inr (0, [.ref (ad_352 1), .ref (ad_352 71), .ref (ad_352 72), .ref (ad_352 73), .null, .null, .null, .int 0, .int 0, .int 0, .int 0, .int 0, .int 0]) := by rw [hue_407 _ (by decide) (by decide)]; exact e70_406
  have he70a_407 : ad_407 70 = q_351 := by rw [hda_407 _ (by decide)]; exact he70a_406
  have hex71a_407 : ad_407 71 = (ad_352 71) := by rw [hda_407 _ (by decide)]; exact hex71a_406
  have hex72a_407 : ad_407 72 = (ad_352 72) := by rw [hda_407 _ (by decide)]; exact hex72a_406
  have hex73a_407 : ad_407 73 = (ad_352 73) := by rw [hda_407 _ (by decide)]; exact hex73a_406
  have e74_407 : en_407 74 = .inl (cy 5, 10, .inr (.inr (.inr (.inr (va_up (va_up (va_up (va_up (va_up (va_up (va_up (va_up (va_up (va_up (fun _ => none) (0 : Int32).toNatClampNeg (some q_361)) (1 : Int32).toNatClampNeg (some q_364)) (2 : Int32).toNatClampNeg (some q_367)) (3 : Int32).toNatClampNeg (some q_370)) (4 : Int32).toNatClampNeg (some q_373)) (5 : Int32).toNatClampNeg (some q_376)) (6 : Int32).toNatClampNeg (some q_379)) (7 : Int32).toNatClampNeg (some q_382)) (8 : Int32).toNatClampNeg (some q_385)) (9 : Int32).toNatClampNeg (some q_388)))))) := by rw [hue_407 _ (by decide) (by decide)]; exact e74_406
  have he74a_407 : ad_407 74 = q_354 := by rw [hda_407 _ (by decide)]; exact he74a_406
  have e75_407 : en_407 75 = .inl (cy 6, 4, .inr (.inr (.inr (.inr (va_up (va_up (va_up (fun _ => none) (0 : Int32).toNatClampNeg (some q_391)) (1 : Int32).toNatClampNeg (some q_396)) (2 : Int32).toNatClampNeg (some q_401)))))) := by rw [hue_407 _ (by decide) (by decide)]; exact e75_406
  have he75a_407 : ad_407 75 = q_356 := by rw [hda_407 _ (by decide)]; exact he75a_406
  have ew76_407 : en_407 76 = .inr (8, [.int 0]) := by rw [hue_407 _ (by decide) (by decide)]; exact ew76_406
  have hew76a_407 : ad_407 76 = q_358 := by rw [hda_407 _ (by decide)]; exact hew76a_406
  have hew107a_407 : ad_407 107 = q_391 := by rw [hda_407 _ (by decide)]; exact hew107a_406
  have hew109a_407 : ad_407 109 = q_396 := by rw [hda_407 _ (by decide)]; exact hew109a_406
  have hew111a_407 : ad_407 111 = q_401 := by rw [hda_407 _ (by decide)]; exact hew111a_406
  have he113a_407 : ad_407 113 = q_406 := by rw [hda_407 _ (by decide)]; exact he113a_406
  have hv_407 : ∀ j, j < 9 → en_407 (34 + 4 * j) = .inr (5, [.ref (ad_407 (35 + 4 * j)), .ref (ad_407 (36 + 4 * j)), .ref (ad_407 (37 + 4 * j)), .int 0, .int 0, .int 0, .long 0, .long 0, .long 0, .long 0]) := fun j hj => by rw [hue_407 _ (flt 34 4 114 hj (by decide)) (fne 34 4 113 hj (by decide)), hda_407 _ (flt 35 4 114 hj (by decide)), hda_407 _ (flt 36 4 114 hj (by decide)), hda_407 _ (flt 37 4 114 hj (by decide))]; exact hv_406 j hj
  have hs_407 : ∀ j, j < 3 → en_407 (107 + 2 * j) = .inr (3, [.ref (ad_407 (108 + 2 * j)), .int 0, .int 0, .int 0]) := fun j hj => by rw [hue_407 _ (flt 107 2 114 hj (by decide)) (fne 107 2 113 hj (by decide)), hda_407 _ (flt 108 2 114 hj (by decide))]; exact hs_406 j hj
  have hc_407 : ∀ j, j < 3 → en_407 (108 + 2 * j) = .inl (cy 0, 40, .inl (fun _ => 0)) := fun j hj => by rw [hue_407 _ (flt 108 2 114 hj (by decide)) (fne 108 2 113 hj (by decide))]; exact hc_406 j hj
  have ew113_407 := ew_407
  have hs_408 : ∀ j, j < 4 → en_407 (107 + 2 * j) = .inr (3, [.ref (ad_407 (108 + 2 * j)), .int 0, .int 0, .int 0]) := fun j hj => (Nat.lt_or_ge j 3).elim (fun h => hs_407 j h) (fun h => by have e0 : j = 3 := (by omega); subst e0; exact ew_407)
  have hc_409 : ∀ j, j < 4 → en_407 (108 + 2 * j) = .inl (cy 0, 40, .inl (fun _ => 0)) := fun j hj => (Nat.lt_or_ge j 3).elim (fun h => hc_407 j h) (fun h => by have e0 : j = 3 := (by omega); subst e0; exact ewa_407)
  refine W.widen (k := 114) (n := 1061) (Nat.le_refl _) (Nat.le_refl _) ?_
  refine hp_astq hx hb hK hh (q := 75) (v := 113) he75a_407 (List.mem_range.mpr (by decide)) he113a_407 (List.mem_range.mpr (by decide)) e75_407 ew113_407 rfl rfl (vp_in_iff.mpr (by decide)) dX11_init_119 (fun H locs en_410 hen_410 hh => ?_)
  have et_410 : en_410 0 = .inr (10, [.ref q_345, .ref q_348, .ref q_351, .ref q_354, .ref q_356, .ref q_358, .int 0, .int 0]) := by rw [hen_410, va_up_ne _ _ (by decide)]; exact et_407
  have e1_410 : en_410 1 = .inr (7, [.ref (ad_346 2), .ref (ad_346 3), .ref (ad_346 10), .ref (ad_346 11), .int 0, .int 2, .int 0]) := by rw [hen_410, va_up_ne _ _ (by decide)]; exact e1_407
  have e10_410 : en_410 10 = .inl (cy 2, 36, .inl f_346) := by rw [hen_410, va_up_ne _ _ (by decide)]; exact e10_407
  have e12_410 : en_410 12 = .inr (2, [.ref (ad_349 1), .ref (ad_349 13), .ref (ad_349 14), .ref (ad_349 24), .ref (ad_349 33), .int 0]) := by rw [hen_410, va_up_ne _ _ (by decide)]; exact e12_407
  have e13_410 : en_410 13 = .inl (cy 4, 9, .inr (.inr (.inr (.inr (fun j => some (ad_349 (34 + 4 * j))))))) := by rw [hen_410, va_up_ne _ _ (by decide)]; exact e13_407
  have e14_410 : en_410 14 = .inl (cy 7, 9, .inr (.inr (.inr (.inr (fun j => some (ad_349 (15 + j))))))) := by rw [hen_410, va_up_ne _ _ (by decide)]; exact e14_407
  have e16_410 : en_410 16 = .inl (cy 0, 6, .inl (fun _ => 0)) := by rw [hen_410, va_up_ne _ _ (by decide)]; exact e16_407
  have e70_410 : en_410 70 = .inr (0, [.ref (ad_352 1), .ref (ad_352 71), .ref (ad_352 72), .ref (ad_352 73), .null, .null, .null, .int 0, .int 0, .int 0, .int 0, .int 0, .int 0]) := by rw [hen_410, va_up_ne _ _ (by decide)]; exact e70_407
  have e74_410 : en_410 74 = .inl (cy 5, 10, .inr (.inr (.inr (.inr (va_up (va_up (va_up (va_up (va_up (va_up (va_up (va_up (va_up (va_up (fun _ => none) (0 : Int32).toNatClampNeg (some q_361)) (1 : Int32).toNatClampNeg (some q_364)) (2 : Int32).toNatClampNeg (some q_367)) (3 : Int32).toNatClampNeg (some q_370)) (4 : Int32).toNatClampNeg (some q_373)) (5 : Int32).toNatClampNeg (some q_376)) (6 : Int32).toNatClampNeg (some q_379)) (7 : Int32).toNatClampNeg (some q_382)) (8 : Int32).toNatClampNeg (some q_385)) (9 : Int32).toNatClampNeg (some q_388)))))) := by rw [hen_410, va_up_ne _ _ (by decide)]; exact e74_407
  have ew76_410 : en_410 76 = .inr (8, [.int 0]) := by rw [hen_410, va_up_ne _ _ (by decide)]; exact ew76_407
  have ew113_410 : en_410 113 = .inr (3, [.ref (ad_407 114), .int 0, .int 0, .int 0]) := by rw [hen_410, va_up_ne _ _ (by decide)]; exact ew113_407
  have hv_410 : ∀ j, j < 9 → en_410 (34 + 4 * j) = .inr (5, [.ref (ad_407 (35 + 4 * j)), .ref (ad_407 (36 + 4 * j)), .ref (ad_407 (37 + 4 * j)), .int 0, .int 0, .int 0, .long 0, .long 0, .long 0, .long 0]) := fun j hj => by rw [hen_410, va_up_ne _ _ (fne 34 4 75 hj (by decide))]; exact hv_407 j hj
  have hs_410 : ∀ j, j < 4 → en_410 (107 + 2 * j) = .inr (3, [.ref (ad_407 (108 + 2 * j)), .int 0, .int 0, .int 0]) := fun j hj => by rw [hen_410, va_up_ne _ _ (fne2 107 2 75 (by decide))]; exact hs_408 j hj
  have hc_410 : ∀ j, j < 4 → en_410 (108 + 2 * j) = .inl (cy 0, 40, .inl (fun _ => 0)) := fun j hj => by rw [hen_410, va_up_ne _ _ (fne2 108 2 75 (by decide))]; exact hc_409 j hj
  have e75_410 : en_410 75 = .inl (cy 6, 4, .inr (.inr (.inr (.inr (va_up (va_up (va_up (va_up (fun _ => none) (0 : Int32).toNatClampNeg (some q_391)) (1 : Int32).toNatClampNeg (some q_396)) (2 : Int32).toNatClampNeg (some q_401)) (3 : Int32).toNatClampNeg (some q_406)))))) := by rw [hen_410]; exact va_up_self _ _ _
  refine lv_iinc (v := 4) (lv' := [(1, .int 4), (0, .ref (ad 0))]) hx hb dX11_init_120 hl (k := 0) rfl (by decide) (by decide) rfl (fun ls hl => ?_)
  refine lv_goto (tgt := 102) hx hb dX11_init_123 (by decide) ?_
  refine lv_iload_n hx hb dX11_init_102 rfl (lv_at hl 0 rfl) ?_
  refine lv_iconst (v := 4) hx hb dX11_init_103 (by decide) ?_
  refine lv_icmp_ge (tgt := 126) hx hb dX11_init_104 (by decide) (fun _ => ?_) (fun c_0 => absurd c_0 (by decide))
  have hh := hp_refs (g := (fun j => some (ad_407 (15 + j)))) hh e14_410 (fun j hj => by have hj9 : 15 + j < 24 := (Nat.add_lt_add_left hj 15); show some (ad_349 (15 + j)) = some (ad_407 (15 + j)); rw [hda_407 _ (Nat.lt_of_lt_of_le hj9 (by decide)), had_406, va_up_ne _ _ (Nat.ne_of_lt (Nat.lt_of_lt_of_le hj9 (by decide))), hda_402 _ (Nat.lt_of_lt_of_le hj9 (by decide)), had_401, va_up_ne _ _ (Nat.ne_of_lt (Nat.lt_of_lt_of_le hj9 (by decide))), hda_397 _ (Nat.lt_of_lt_of_le hj9 (by decide)), had_396, va_up_ne _ _ (Nat.ne_of_lt (Nat.lt_of_lt_of_le hj9 (by decide))), hda_392 _ (Nat.lt_of_lt_of_le hj9 (by decide)), had_391, va_up_ne _ _ (Nat.ne_of_lt (Nat.lt_of_lt_of_le hj9 (by decide))), hda_389 _ (Nat.lt_of_lt_of_le hj9 (by decide)), had_388, va_up_ne _ _ (Nat.ne_of_lt (Nat.lt_of_lt_of_le hj9 (by decide))), hda_386 _ (Nat.lt_of_lt_of_le hj9 (by decide)), had_385, va_up_ne _ _ (Nat.ne_of_lt (Nat.lt_of_lt_of_le hj9 (by decide))), hda_383 _ (Nat.lt_of_lt_of_le hj9 (by decide)), had_382, va_up_ne _ _ (Nat.ne_of_lt (Nat.lt_of_lt_of_le hj9 (by decide))), hda_380 _ (Nat.lt_of_lt_of_le hj9 (by decide)), had_379, va_up_ne _ _ (Nat.ne_of_lt (Nat.lt_of_lt_of_le hj9 (by decide))), hda_377 _ (Nat.lt_of_lt_of_le hj9 (by decide)), had_376, va_up_ne _ _ (Nat.ne_of_lt (Nat.lt_of_lt_of_le hj9 (by decide))), hda_374 _ (Nat.lt_of_lt_of_le hj9 (by decide)), had_373, va_up_ne _ _ (Nat.ne_of_lt (Nat.lt_of_lt_of_le hj9 (by decide))), hda_371 _ (Nat.lt_of_lt_of_le hj9 (by decide)), had_370, va_up_ne _ _ (Nat.ne_of_lt (Nat.lt_of_lt_of_le hj9 (by decide))), hda_368 _ (Nat.lt_of_lt_of_le hj9 (by decide)), had_367, va_up_ne _ _ (Nat.ne_of_lt (Nat.lt_of_lt_of_le hj9 (by decide))), hda_365 _ (Nat.lt_of_lt_of_le hj9 (by decide)), had_364, va_up_ne _ _ (Nat.ne_of_lt (Nat.lt_of_lt_of_le hj9 (by decide))), hda_362 _ (Nat.lt_of_lt_of_le hj9 (by decide)), had_361, va_up_ne _ _ (Nat.ne_of_lt (Nat.lt_of_lt_of_le hj9 (by decide))), hda_359 _ (Nat.lt_of_lt_of_le hj9 (by decide)), had_358, va_up_ne _ _ (Nat.ne_of_lt (Nat.lt_of_lt_of_le hj9 (by decide))), had_356, va_up_ne _ _ (Nat.ne_of_lt (Nat.lt_of_lt_of_le hj9 (by decide))), had_354, va_up_ne _ _ (Nat.ne_of_lt (Nat.lt_of_lt_of_le hj9 (by decide))), hda_352 _ (Nat.lt_of_lt_of_le hj9 (by decide)), had_351, va_up_ne _ _ (Nat.ne_of_lt (Nat.lt_of_lt_of_le hj9 (by decide)))])
  obtain ⟨en_411, hen_411⟩ : ∃ z, z = va_up en_410 14 (.inl (cy 7, 9, .inr (.inr (.inr (.inr (fun j => some (ad_407 (15 + j)))))))) := ⟨_, rfl⟩
  rw [← hen_411] at hh
  have et_411 : en_411 0 = .inr (10, [.ref q_345, .ref q_348, .ref q_351, .ref q_354, .ref q_356, .ref q_358, .int 0, .int 0]) := by rw [hen_411, va_up_ne _ _ (by decide)]; exact et_410
  have e1_411 : en_411 1 = .inr (7, [.ref (ad_346 2), .ref (ad_346 3), .ref (ad_346 10), .ref (ad_346 11), .int 0, .int 2, .int 0]) := by rw [hen_411, va_up_ne _ _ (by decide)]; exact e1_410
  have e10_411 : en_411 10 = .inl (cy 2, 36, .inl f_346) := by rw [hen_411, va_up_ne _ _ (by decide)]; exact e10_410
  have e12_411 : en_411 12 = .inr (2, [.ref (ad_349 1), .ref (ad_349 13), .ref (ad_349 14), .ref (ad_349 24), .ref (ad_349 33), .int 0]) := by rw [hen_411, va_up_ne _ _ (by decide)]; exact e12_410
  have e13_411 : en_411 13 = .inl (cy 4, 9, .inr (.inr (.inr (.inr (fun j => some (ad_349 (34 + 4 * j))))))) := by rw [hen_411, va_up_ne _ _ (by decide)]; exact e13_410
  have e16_411 : en_411 16 = .inl (cy 0, 6, .inl (fun _ => 0)) := by rw [hen_411, va_up_ne _ _ (by decide)]; exact e16_410
  have e70_411 : en_411 70 = .inr (0, [.ref (ad_352 1), .ref (ad_352 71), .ref (ad_352 72), .ref (ad_352 73), .null, .null, .null, .int 0, .int 0, .int 0, .int 0, .int 0, .int 0]) := by rw [hen_411, va_up_ne _ _ (by decide)]; exact e70_410
  have e74_411 : en_411 74 = .inl (cy 5, 10, .inr (.inr (.inr (.inr (va_up (va_up (va_up (va_up (va_up (va_up (va_up (va_up (va_up (va_up (fun _ => none) (0 : Int32).toNatClampNeg (some q_361)) (1 : Int32).toNatClampNeg (some q_364)) (2 : Int32).toNatClampNeg (some q_367)) (3 : Int32).toNatClampNeg (some q_370)) (4 : Int32).toNatClampNeg (some q_373)) (5 : Int32).toNatClampNeg (some q_376)) (6 : Int32).toNatClampNeg (some q_379)) (7 : Int32).toNatClampNeg (some q_382)) (8 : Int32).toNatClampNeg (some q_385)) (9 : Int32).toNatClampNeg (some q_388)))))) := by rw [hen_411, va_up_ne _ _ (by decide)]; exact e74_410
  have e75_411 : en_411 75 = .inl (cy 6, 4, .inr (.inr (.inr (.inr (va_up (va_up (va_up (va_up (fun _ => none) (0 : Int32).toNatClampNeg (some q_391)) (1 : Int32).toNatClampNeg (some q_396)) (2 : Int32).toNatClampNeg (some q_401)) (3 : Int32).toNatClampNeg (some q_406)))))) := by rw [hen_411, va_up_ne _ _ (by decide)]; exact e75_410
  have ew76_411 : en_411 76 = .inr (8, [.int 0]) := by rw [hen_411, va_up_ne _ _ (by decide)]; exact ew76_410
  have hv_411 : ∀ j, j < 9 → en_411 (34 + 4 * j) = .inr (5, [.ref (ad_407 (35 + 4 * j)), .ref (ad_407 (36 + 4 * j)), .ref (ad_407 (37 + 4 * j)), .int 0, .int 0, .int 0, .long 0, .long 0, .long 0, .long 0]) := fun j hj => by rw [hen_411, va_up_ne _ _ (fne2 34 4 14 (by decide))]; exact hv_410 j hj
  have hs_411 : ∀ j, j < 4 → en_411 (107 + 2 * j) = .inr (3, [.ref (ad_407 (108 + 2 * j)), .int 0, .int 0, .int 0]) := fun j hj => by rw [hen_411, va_up_ne _ _ (fne2 107 2 14 (by decide))]; exact hs_410 j hj
  have hc_411 : ∀ j, j < 4 → en_411 (108 + 2 * j) = .inl (cy 0, 40, .inl (fun _ => 0)) := fun j hj => by rw [hen_411, va_up_ne _ _ (fne2 108 2 14 (by decide))]; exact hc_410 j hj
  have e14_411 : en_411 14 = .inl (cy 7, 9, .inr (.inr (.inr (.inr (fun j => some (ad_407 (15 + j))))))) := by rw [hen_411]; exact va_up_self _ _ _
  have hh := hp_refs (g := (fun j => some (ad_407 (34 + 4 * j)))) hh e13_411 (fun j hj => by have hj9 : 34 + 4 * j < 70 := (flt 34 4 70 hj (by decide)); show some (ad_349 (34 + 4 * j)) = some (ad_407 (34 + 4 * j)); rw [hda_407 _ (Nat.lt_of_lt_of_le hj9 (by decide)), had_406, va_up_ne _ _ (Nat.ne_of_lt (Nat.lt_of_lt_of_le hj9 (by decide))), hda_402 _ (Nat.lt_of_lt_of_le hj9 (by decide)), had_401, va_up_ne _ _ (Nat.ne_of_lt (Nat.lt_of_lt_of_le hj9 (by decide))), hda_397 _ (Nat.lt_of_lt_of_le hj9 (by decide)), had_396, va_up_ne _ _ (Nat.ne_of_lt (Nat.lt_of_lt_of_le hj9 (by decide))), hda_392 _ (Nat.lt_of_lt_of_le hj9 (by decide)), had_391, va_up_ne _ _ (Nat.ne_of_lt (Nat.lt_of_lt_of_le hj9 (by decide))), hda_389 _ (Nat.lt_of_lt_of_le hj9 (by decide)), had_388, va_up_ne _ _ (Nat.ne_of_lt (Nat.lt_of_lt_of_le hj9 (by decide))), hda_386 _ (Nat.lt_of_lt_of_le hj9 (by decide)), had_385, va_up_ne _ _ (Nat.ne_of_lt (Nat.lt_of_lt_of_le hj9 (by decide))), hda_383 _ (Nat.lt_of_lt_of_le hj9 (by decide)), had_382, va_up_ne _ _ (Nat.ne_of_lt (Nat.lt_of_lt_of_le hj9 (by decide))), hda_380 _ (Nat.lt_of_lt_of_le hj9 (by decide)), had_379, va_up_ne _ _ (Nat.ne_of_lt (Nat.lt_of_lt_of_le hj9 (by decide))), hda_377 _ (Nat.lt_of_lt_of_le hj9 (by decide)), had_376, va_up_ne _ _ (Nat.ne_of_lt (Nat.lt_of_lt_of_le hj9 (by decide))), hda_374 _ (Nat.lt_of_lt_of_le hj9 (by decide)), had_373, va_up_ne _ _ (Nat.ne_of_lt (Nat.lt_of_lt_of_le hj9 (by decide))), hda_371 _ (Nat.lt_of_lt_of_le hj9 (by decide)), had_370, va_up_ne _ _ (Nat.ne_of_lt (Nat.lt_of_lt_of_le hj9 (by decide))), hda_368 _ (Nat.lt_of_lt_of_le hj9 (by decide)), had_367, va_up_ne _ _ (Nat.ne_of_lt (Nat.lt_of_lt_of_le hj9 (by decide))), hda_365 _ (Nat.lt_of_lt_of_le hj9 (by decide)), had_364, va_up_ne _ _ (Nat.ne_of_lt (Nat.lt_of_lt_of_le hj9 (by decide))), hda_362 _ (Nat.lt_of_lt_of_le hj9 (by decide)), had_361, va_up_ne _ _ (Nat.ne_of_lt (Nat.lt_of_lt_of_le hj9 (by decide))), hda_359 _ (Nat.lt_of_lt_of_le hj9 (by decide)), had_358, va_up_ne _ _ (Nat.ne_of_lt (Nat.lt_of_lt_of_le hj9 (by decide))), had_356, va_up_ne _ _ (Nat.ne_of_lt (Nat.lt_of_lt_of_le hj9 (by decide))), had_354, va_up_ne _ _ (Nat.ne_of_lt (Nat.lt_of_lt_of_le hj9 (by decide))), hda_352 _ (Nat.lt_of_lt_of_le hj9 (by decide)), had_351, va_up_ne _ _ (Nat.ne_of_lt (Nat.lt_of_lt_of_le hj9 (by decide)))])
  obtain ⟨en_412, hen_412⟩ : ∃ z, z = va_up en_411 13 (.inl (cy 4, 9, .inr (.inr (.inr (.inr (fun j => some (ad_407 (34 + 4 * j)))))))) := ⟨_, rfl⟩
  rw [← hen_412] at hh
  have et_412 : en_412 0 = .inr (10, [.ref q_345, .ref q_348, .ref q_351, .ref q_354, .ref q_356, .ref q_358, .int 0, .int 0]) := by rw [hen_412, va_up_ne _ _ (by decide)]; exact et_411
  have e1_412 : en_412 1 = .inr (7, [.ref (ad_346 2), .ref (ad_346 3), .ref (ad_346 10), .ref (ad_346 11), .int 0, .int 2, .int 0]) := by rw [hen_412, va_up_ne _ _ (by decide)]; exact e1_411
  have e10_412 : en_412 10 = .inl (cy 2, 36, .inl f_346) := by rw [hen_412, va_up_ne _ _ (by decide)]; exact e10_411
  have e12_412 : en_412 12 = .inr (2, [.ref (ad_349 1), .ref (ad_349 13), .ref (ad_349 14), .ref (ad_349 24), .ref (ad_349 33), .int 0]) := by rw [hen_412, va_up_ne _ _ (by decide)]; exact e12_411
  have e14_412 : en_412 14 = .inl (cy 7, 9, .inr (.inr (.inr (.inr (fun j => some (ad_407 (15 + j))))))) := by rw [hen_412, va_up_ne _ _ (by decide)]; exact e14_411
  have e16_412 : en_412 16 = .inl (cy 0, 6, .inl (fun _ => 0)) := by rw [hen_412, va_up_ne _ _ (by decide)]; exact e16_411
  have e70_412 : en_412 70 = .inr (0, [.ref (ad_352 1), .ref (ad_352 71), .ref (ad_352 72), .ref (ad_352 73), .null, .null, .null, .int 0, .int 0, .int 0, .int 0, .int 0, .int 0]) := by rw [hen_412, va_up_ne _ _ (by decide)]; exact e70_411
  have e74_412 : en_412 74 = .inl (cy 5, 10, .inr (.inr (.inr (.inr (va_up (va_up (va_up (va_up (va_up (va_up (va_up (va_up (va_up (va_up (fun _ => none) (0 : Int32).toNatClampNeg (some q_361)) (1 : Int32).toNatClampNeg (some q_364)) (2 : Int32).toNatClampNeg (some q_367)) (3 : Int32).toNatClampNeg (some q_370)) (4 : Int32).toNatClampNeg (some q_373)) (5 : Int32).toNatClampNeg (some q_376)) (6 : Int32).toNatClampNeg (some q_379)) (7 : Int32).toNatClampNeg (some q_382)) (8 : Int32).toNatClampNeg (some q_385)) (9 : Int32).toNatClampNeg (some q_388)))))) := by rw [hen_412, va_up_ne _ _ (by decide)]; exact e74_411
  have e75_412 : en_412 75 = .inl (cy 6, 4, .inr (.inr (.inr (.inr (va_up (va_up (va_up (va_up (fun _ => none) (0 : Int32).toNatClampNeg (some q_391)) (1 : Int32).toNatClampNeg (some q_396)) (2 : Int32).toNatClampNeg (some q_401)) (3 : Int32).toNatClampNeg (some q_406)))))) := by rw [hen_412, va_up_ne _ _ (by decide)]; exact e75_411
  have ew76_412 : en_412 76 = .inr (8, [.int 0]) := by rw [hen_412, va_up_ne _ _ (by decide)]; exact ew76_411
  have hv_412 : ∀ j, j < 9 → en_412 (34 + 4 * j) = .inr (5, [.ref (ad_407 (35 + 4 * j)), .ref (ad_407 (36 + 4 * j)), .ref (ad_407 (37 + 4 * j)), .int 0, .int 0, .int 0, .long 0, .long 0, .long 0, .long 0]) := fun j hj => by rw [hen_412, va_up_ne _ _ (fne2 34 4 13 (by decide))]; exact hv_411 j hj
  have hs_412 : ∀ j, j < 4 → en_412 (107 + 2 * j) = .inr (3, [.ref (ad_407 (108 + 2 * j)), .int 0, .int 0, .int 0]) := fun j hj => by rw [hen_412, va_up_ne _ _ (fne2 107 2 13 (by decide))]; exact hs_411 j hj
  have hc_412 : ∀ j, j < 4 → en_412 (108 + 2 * j) = .inl (cy 0, 40, .inl (fun _ => 0)) := fun j hj => by rw [hen_412, va_up_ne _ _ (fne2 108 2 13 (by decide))]; exact hc_411 j hj
  have e13_412 : en_412 13 = .inl (cy 4, 9, .inr (.inr (.inr (.inr (fun j => some (ad_407 (34 + 4 * j))))))) := by rw [hen_412]; exact va_up_self _ _ _
  have hfg_413 : ∀ j, j < 4 → ((va_up (va_up (va_up (va_up (fun _ => none) (0 : Int32).toNatClampNeg (some q_391)) (1 : Int32).toNatClampNeg (some q_396)) (2 : Int32).toNatClampNeg (some q_401)) (3 : Int32).toNatClampNeg (some q_406)) : Nat → Option Nat) j = (fun j => some (ad_407 (107 + 2 * j))) j := by
    intro j hj
    rcases (show j = 0 ∨ j = 1 ∨ j = 2 ∨ j = 3 by omega) with rfl | rfl | rfl | rfl
    · exact (congrArg some hew107a_407).symm
    · exact (congrArg some hew109a_407).symm
    · exact (congrArg some hew111a_407).symm
    · exact (congrArg some he113a_407).symm
  have hh := hp_refs (g := (fun j => some (ad_407 (107 + 2 * j)))) hh e75_412 (hfg_413)
  obtain ⟨en_414, hen_414⟩ : ∃ z, z = va_up en_412 75 (.inl (cy 6, 4, .inr (.inr (.inr (.inr (fun j => some (ad_407 (107 + 2 * j)))))))) := ⟨_, rfl⟩
  rw [← hen_414] at hh
  have et_414 : en_414 0 = .inr (10, [.ref q_345, .ref q_348, .ref q_351, .ref q_354, .ref q_356, .ref q_358, .int 0, .int 0]) := by rw [hen_414, va_up_ne _ _ (by decide)]; exact et_412
  have e1_414 : en_414 1 = .inr (7, [.ref (ad_346 2), .ref (ad_346 3), .ref (ad_346 10), .ref (ad_346 11), .int 0, .int 2, .int 0]) := by rw [hen_414, va_up_ne _ _ (by decide)]; exact e1_412
  have e10_414 : en_414 10 = .inl (cy 2, 36, .inl f_346) := by rw [hen_414, va_up_ne _ _ (by decide)]; exact e10_412
  have e12_414 : en_414 12 = .inr (2, [.ref (ad_349 1), .ref (ad_349 13), .ref (ad_349 14), .ref (ad_349 24), .ref (ad_349 33), .int 0]) := by rw [hen_414, va_up_ne _ _ (by decide)]; exact e12_412
  have e13_414 : en_414 13 = .inl (cy 4, 9, .inr (.inr (.inr (.inr (fun j => some (ad_407 (34 + 4 * j))))))) := by rw [hen_414, va_up_ne _ _ (by decide)]; exact e13_412
  have e14_414 : en_414 14 = .inl (cy 7, 9, .inr (.inr (.inr (.inr (fun j => some (ad_407 (15 + j))))))) := by rw [hen_414, va_up_ne _ _ (by decide)]; exact e14_412
  have e16_414 : en_414 16 = .inl (cy 0, 6, .inl (fun _ => 0)) := by rw [hen_414, va_up_ne _ _ (by decide)]; exact e16_412
  have e70_414 : en_414 70 = .inr (0, [.ref (ad_352 1), .ref (ad_352 71), .ref (ad_352 72), .ref (ad_352 73), .null, .null, .null, .int 0, .int 0, .int 0, .int 0, .int 0, .int 0]) := by rw [hen_414, va_up_ne _ _ (by decide)]; exact e70_412
  have e74_414 : en_414 74 = .inl (cy 5, 10, .inr (.inr (.inr (.inr (va_up (va_up (va_up (va_up (va_up (va_up (va_up (va_up (va_up (va_up (fun _ => none) (0 : Int32).toNatClampNeg (some q_361)) (1 : Int32).toNatClampNeg (some q_364)) (2 : Int32).toNatClampNeg (some q_367)) (3 : Int32).toNatClampNeg (some q_370)) (4 : Int32).toNatClampNeg (some q_373)) (5 : Int32).toNatClampNeg (some q_376)) (6 : Int32).toNatClampNeg (some q_379)) (7 : Int32).toNatClampNeg (some q_382)) (8 : Int32).toNatClampNeg (some q_385)) (9 : Int32).toNatClampNeg (some q_388)))))) := by rw [hen_414, va_up_ne _ _ (by decide)]; exact e74_412
  have ew76_414 : en_414 76 = .inr (8, [.int 0]) := by rw [hen_414, va_up_ne _ _ (by decide)]; exact ew76_412
  have hv_414 : ∀ j, j < 9 → en_414 (34 + 4 * j) = .inr (5, [.ref (ad_407 (35 + 4 * j)), .ref (ad_407 (36 + 4 * j)), .ref (ad_407 (37 + 4 * j)), .int 0, .int 0, .int 0, .long 0, .long 0, .long 0, .long 0]) := fun j hj => by rw [hen_414, va_up_ne _ _ (fne 34 4 75 hj (by decide))]; exact hv_412 j hj
  have hs_414 : ∀ j, j < 4 → en_414 (107 + 2 * j) = .inr (3, [.ref (ad_407 (108 + 2 * j)), .int 0, .int 0, .int 0]) := fun j hj => by rw [hen_414, va_up_ne _ _ (fne2 107 2 75 (by decide))]; exact hs_412 j hj
  have hc_414 : ∀ j, j < 4 → en_414 (108 + 2 * j) = .inl (cy 0, 40, .inl (fun _ => 0)) := fun j hj => by rw [hen_414, va_up_ne _ _ (fne2 108 2 75 (by decide))]; exact hc_412 j hj
  have e75_414 : en_414 75 = .inl (cy 6, 4, .inr (.inr (.inr (.inr (fun j => some (ad_407 (107 + 2 * j))))))) := by rw [hen_414]; exact va_up_self _ _ _
  exact hq_vret hx hb hr hlocks hh (⟨(fun i hi => by dsimp only; rw [hda_407 _ (Nat.lt_of_lt_of_le hi (by decide)), had_406, va_up_ne _ _ (Nat.ne_of_lt (Nat.lt_of_lt_of_le hi (by decide))), hda_402 _ (Nat.lt_of_lt_of_le hi (by decide)), had_401, va_up_ne _ _ (Nat.ne_of_lt (Nat.lt_of_lt_of_le hi (by decide))), hda_397 _ (Nat.lt_of_lt_of_le hi (by decide)), had_396, va_up_ne _ _ (Nat.ne_of_lt (Nat.lt_of_lt_of_le hi (by decide))), hda_392 _ (Nat.lt_of_lt_of_le hi (by decide)), had_391, va_up_ne _ _ (Nat.ne_of_lt (Nat.lt_of_lt_of_le hi (by decide))), hda_389 _ (Nat.lt_of_lt_of_le hi (by decide)), had_388, va_up_ne _ _ (Nat.ne_of_lt (Nat.lt_of_lt_of_le hi (by decide))), hda_386 _ (Nat.lt_of_lt_of_le hi (by decide)), had_385, va_up_ne _ _ (Nat.ne_of_lt (Nat.lt_of_lt_of_le hi (by decide))), hda_383 _ (Nat.lt_of_lt_of_le hi (by decide)), had_382, va_up_ne _ _ (Nat.ne_of_lt (Nat.lt_of_lt_of_le hi (by decide))), hda_380 _ (Nat.lt_of_lt_of_le hi (by decide)), had_379, va_up_ne _ _ (Nat.ne_of_lt (Nat.lt_of_lt_of_le hi (by decide))), hda_377 _ (Nat.lt_of_lt_of_le hi (by decide)), had_376, va_up_ne _ _ (Nat.ne_of_lt (Nat.lt_of_lt_of_le hi (by decide))), hda_374 _ (Nat.lt_of_lt_of_le hi (by decide)), had_373, va_up_ne _ _ (Nat.ne_of_lt (Nat.lt_of_lt_of_le hi (by decide))), hda_371 _ (Nat.lt_of_lt_of_le hi (by decide)), had_370, va_up_ne _ _ (Nat.ne_of_lt (Nat.lt_of_lt_of_le hi (by decide))), hda_368 _ (Nat.lt_of_lt_of_le hi (by decide)), had_367, va_up_ne _ _ (Nat.ne_of_lt (Nat.lt_of_lt_of_le hi (by decide))), hda_365 _ (Nat.lt_of_lt_of_le hi (by decide)), had_364, va_up_ne _ _ (Nat.ne_of_lt (Nat.lt_of_lt_of_le hi (by decide))), hda_362 _ (Nat.lt_of_lt_of_le hi (by decide)), had_361, va_up_ne _ _ (Nat.ne_of_lt (Nat.lt_of_lt_of_le hi (by decide))), hda_359 _ (Nat.lt_of_lt_of_le hi (by decide)), had_358, va_up_ne _ _ (Nat.ne_of_lt (Nat.lt_of_lt_of_le hi (by decide))), had_356, va_up_ne _ _ (Nat.ne_of_lt (Nat.lt_of_lt_of_le hi (by decide))), had_354, va_up_ne _ _ (Nat.ne_of_lt (Nat.lt_of_lt_of_le hi (by decide))), hda_352 _ (Nat.lt_of_lt_of_le hi (by decide)), had_351, va_up_ne _ _ (Nat.ne_of_lt (Nat.lt_of_lt_of_le hi (by decide))), hda_349 _ (Nat.lt_of_lt_of_le hi (by decide)), had_348, va_up_ne _ _ (Nat.ne_of_lt (Nat.lt_of_lt_of_le hi (by decide))), hda_346 _ (Nat.lt_of_lt_of_le hi (by decide)), had_345, va_up_ne _ _ (Nat.ne_of_lt (Nat.lt_of_lt_of_le hi (by decide)))]), (fun i hi hne => by dsimp only; rw [hen_414, va_up_ne _ _ (Nat.ne_of_lt (Nat.lt_of_lt_of_le hi (by decide))), hen_412, va_up_ne _ _ (Nat.ne_of_lt (Nat.lt_of_lt_of_le hi (by decide))), hen_411, va_up_ne _ _ (Nat.ne_of_lt (Nat.lt_of_lt_of_le hi (by decide))), hen_410, va_up_ne _ _ (Nat.ne_of_lt (Nat.lt_of_lt_of_le hi (by decide))), hue_407 _ (Nat.lt_of_lt_of_le hi (by decide)) (Nat.ne_of_lt (Nat.lt_of_lt_of_le hi (by decide))), hen_406, va_up_ne _ _ (Nat.ne_of_lt (Nat.lt_of_lt_of_le hi (by decide))), hen_405, va_up_ne _ _ (Nat.ne_of_lt (Nat.lt_of_lt_of_le hi (by decide))), hue_402 _ (Nat.lt_of_lt_of_le hi (by decide)) (Nat.ne_of_lt (Nat.lt_of_lt_of_le hi (by decide))), hen_401, va_up_ne _ _ (Nat.ne_of_lt (Nat.lt_of_lt_of_le hi (by decide))), hen_400, va_up_ne _ _ (Nat.ne_of_lt (Nat.lt_of_lt_of_le hi (by decide))), hue_397 _ (Nat.lt_of_lt_of_le hi (by decide)) (Nat.ne_of_lt (Nat.lt_of_lt_of_le hi (by decide))), hen_396, va_up_ne _ _ (Nat.ne_of_lt (Nat.lt_of_lt_of_le hi (by decide))), hen_395, va_up_ne _ _ (Nat.ne_of_lt (Nat.lt_of_lt_of_le hi (by decide))), hue_392 _ (Nat.lt_of_lt_of_le hi (by decide)) (Nat.ne_of_lt (Nat.lt_of_lt_of_le hi (by decide))), hen_391, va_up_ne _ _ (Nat.ne_of_lt (Nat.lt_of_lt_of_le hi (by decide))), hen_390, va_up_ne _ _ (Nat.ne_of_lt (Nat.lt_of_lt_of_le hi (by decide))), hue_389 _ (Nat.lt_of_lt_of_le hi (by decide)) (Nat.ne_of_lt (Nat.lt_of_lt_of_le hi (by decide))), hen_388, va_up_ne _ _ (Nat.ne_of_lt (Nat.lt_of_lt_of_le hi (by decide))), hen_387, va_up_ne _ _ (Nat.ne_of_lt (Nat.lt_of_lt_of_le hi (by decide))), hue_386 _ (Nat.lt_of_lt_of_le hi (by decide)) (Nat.ne_of_lt (Nat.lt_of_lt_of_le hi (by decide))), hen_385, va_up_ne _ _ (Nat.ne_of_lt (Nat.lt_of_lt_of_le hi (by decide))), hen_384, va_up_ne _ _ (Nat.ne_of_lt (Nat.lt_of_lt_of_le hi (by decide))), hue_383 _ (Nat.lt_of_lt_of_le hi (by decide)) (Nat.ne_of_lt (Nat.lt_of_lt_of_le hi (by decide))), hen_382, va_up_ne _ _ (Nat.ne_of_lt (Nat.lt_of_lt_of_le hi (by decide))), hen_381, va_up_ne _ _ (Nat.ne_of_lt (Nat.lt_of_lt_of_le hi (by decide))), hue_380 _ (Nat.lt_of_lt_of_le hi (by decide)) (Nat.ne_of_lt (Nat.lt_of_lt_of_le hi (by decide))), hen_379, va_up_ne _ _ (Nat.ne_of_lt (Nat.lt_of_lt_of_le hi (by decide))), hen_378, va_up_ne _ _ (Nat.ne_of_lt (Nat.lt_of_lt_of_le hi (by decide))), hue_377 _ (Nat.lt_of_lt_of_le hi (by decide)) (Nat.ne_of_lt (Nat.lt_of_lt_of_le hi (by decide))), hen_376, va_up_ne _ _ (Nat.ne_of_lt (Nat.lt_of_lt_of_le hi (by decide))), hen_375, va_up_ne _ _ (Nat.ne_of_lt (Nat.lt_of_lt_of_le hi (by decide))), hue_374 _ (Nat.lt_of_lt_of_le hi (by decide)) (Nat.ne_of_lt (Nat.lt_of_lt_of_le hi (by decide))), hen_373, va_up_ne _ _ (Nat.ne_of_lt (Nat.lt_of_lt_of_le hi (by decide))), hen_372, va_up_ne _ _ (Nat.ne_of_lt (Nat.lt_of_lt_of_le hi (by decide))), hue_371 _ (Nat.lt_of_lt_of_le hi (by decide)) (Nat.ne_of_lt (Nat.lt_of_lt_of_le hi (by decide))), hen_370, va_up_ne _ _ (Nat.ne_of_lt (Nat.lt_of_lt_of_le hi (by decide))), hen_369, va_up_ne _ _ (Nat.ne_of_lt (Nat.lt_of_lt_of_le hi (by decide))), hue_368 _ (Nat.lt_of_lt_of_le hi (by decide)) (Nat.ne_of_lt (Nat.lt_of_lt_of_le hi (by decide))), hen_367, va_up_ne _ _ (Nat.ne_of_lt (Nat.lt_of_lt_of_le hi (by decide))), hen_366, va_up_ne _ _ (Nat.ne_of_lt (Nat.lt_of_lt_of_le hi (by decide))), hue_365 _ (Nat.lt_of_lt_of_le hi (by decide)) (Nat.ne_of_lt (Nat.lt_of_lt_of_le hi (by decide))), hen_364, va_up_ne _ _ (Nat.ne_of_lt (Nat.lt_of_lt_of_le hi (by decide))), hen_363, va_up_ne _ _ (Nat.ne_of_lt (Nat.lt_of_lt_of_le hi (by decide))), hue_362 _ (Nat.lt_of_lt_of_le hi (by decide)) (Nat.ne_of_lt (Nat.lt_of_lt_of_le hi (by decide))), hen_361, va_up_ne _ _ (Nat.ne_of_lt (Nat.lt_of_lt_of_le hi (by decide))), hen_360, va_up_ne _ _ hne, hue_359 _ (Nat.lt_of_lt_of_le hi (by decide)) (Nat.ne_of_lt (Nat.lt_of_lt_of_le hi (by decide))), hen_358, va_up_ne _ _ (Nat.ne_of_lt (Nat.lt_of_lt_of_le hi (by decide))), hen_357, va_up_ne _ _ hne, hen_356, va_up_ne _ _ (Nat.ne_of_lt (Nat.lt_of_lt_of_le hi (by decide))), hen_355, va_up_ne _ _ hne, hen_354, va_up_ne _ _ (Nat.ne_of_lt (Nat.lt_of_lt_of_le hi (by decide))), hen_353, va_up_ne _ _ hne, hue_352 _ (Nat.lt_of_lt_of_le hi (by decide)) (Nat.ne_of_lt (Nat.lt_of_lt_of_le hi (by decide))), hen_351, va_up_ne _ _ (Nat.ne_of_lt (Nat.lt_of_lt_of_le hi (by decide))), hen_350, va_up_ne _ _ hne, hue_349 _ (Nat.lt_of_lt_of_le hi (by decide)) (Nat.ne_of_lt (Nat.lt_of_lt_of_le hi (by decide))), hen_348, va_up_ne _ _ (Nat.ne_of_lt (Nat.lt_of_lt_of_le hi (by decide))), hen_347, va_up_ne _ _ hne, hue_346 _ (Nat.lt_of_lt_of_le hi (by decide)) (Nat.ne_of_lt (Nat.lt_of_lt_of_le hi (by decide))), hen_345, va_up_ne _ _ (Nat.ne_of_lt (Nat.lt_of_lt_of_le hi (by decide)))]), (by dsimp only; rw [he1a_407, he12a_407, he70a_407, he74a_407, he75a_407, hew76a_407]; exact et_414), (by dsimp only; rw [hex2a_407, hex3a_407, he10a_407, hex11a_407]; exact e1_414), ⟨_, e10_414⟩, (by dsimp only; rw [show ad_407 1 = ad_349 1 from by rw [hda_407 _ (Nat.lt_of_lt_of_le (show (1 : Nat) < 2 by decide) (by decide)), had_406, va_up_ne _ _ (Nat.ne_of_lt (Nat.lt_of_lt_of_le (show (1 : Nat) < 2 by decide) (by decide))), hda_402 _ (Nat.lt_of_lt_of_le (show (1 : Nat) < 2 by decide) (by decide)), had_401, va_up_ne _ _ (Nat.ne_of_lt (Nat.lt_of_lt_of_le (show (1 : Nat) < 2 by decide) (by decide))), hda_397 _ (Nat.lt_of_lt_of_le (show (1 : Nat) < 2 by decide) (by decide)), had_396, va_up_ne _ _ (Nat.ne_of_lt (Nat.lt_of_lt_of_le (show (1 : Nat) < 2 by decide) (by decide))), hda_392 _ (Nat.lt_of_lt_of_le (show (1 : Nat) < 2 by decide) (by decide)), had_391, va_up_ne _ _ (Nat.ne_of_lt (Nat.lt_of_lt_of_le (show (1 : Nat) < 2 by decide) (by decide))), hda_389 _ (Nat.lt_of_lt_of_le (show (1 : Nat) < 2 by decide) (by decide)), had_388, va_up_ne _ _ (Nat.ne_of_lt (Nat.lt_of_lt_of_le (show (1 : Nat) < 2 by decide) (by decide))), hda_386 _ (Nat.lt_of_lt_of_le (show (1 : Nat) < 2 by decide) (by decide)), had_385, va_up_ne _ _ (Nat.ne_of_lt (Nat.lt_of_lt_of_le (show (1 : Nat) < 2 by decide) (by decide))), hda_383 _ (Nat.lt_of_lt_of_le (show (1 : Nat) < 2 by decide) (by decide)), had_382, va_up_ne _ _ (Nat.ne_of_lt (Nat.lt_of_lt_of_le (show (1 : Nat) < 2 by decide) (by decide))), hda_380 _ (Nat.lt_of_lt_of_le (show (1 : Nat) < 2 by decide) (by decide)), had_379, va_up_ne _ _ (Nat.ne_of_lt (Nat.lt_of_lt_of_le (show (1 : Nat) < 2 by decide) (by decide))), hda_377 _ (Nat.lt_of_lt_of_le (show (1 : Nat) < 2 by decide) (by decide)), had_376, va_up_ne _ _ (Nat.ne_of_lt (Nat.lt_of_lt_of_le (show (1 : Nat) < 2 by decide) (by decide))), hda_374 _ (Nat.lt_of_lt_of_le (show (1 : Nat) < 2 by decide) (by decide)), had_373, va_up_ne _ _ (Nat.ne_of_lt (Nat.lt_of_lt_of_le (show (1 : Nat) < 2 by decide) (by decide))), hda_371 _ (Nat.lt_of_lt_of_le (show (1 : Nat) < 2 by decide) (by decide)), had_370, va_up_ne _ _ (Nat.ne_of_lt (Nat.lt_of_lt_of_le (show (1 : Nat) < 2 by decide) (by decide))), hda_368 _ (Nat.lt_of_lt_of_le (show (1 : Nat) < 2 by decide) (by decide)), had_367, va_up_ne _ _ (Nat.ne_of_lt (Nat.lt_of_lt_of_le (show (1 : Nat) < 2 by decide) (by decide))), hda_365 _ (Nat.lt_of_lt_of_le (show (1 : Nat) < 2 by decide) (by decide)), had_364, va_up_ne _ _ (Nat.ne_of_lt (Nat.lt_of_lt_of_le (show (1 : Nat) < 2 by decide) (by decide))), hda_362 _ (Nat.lt_of_lt_of_le (show (1 : Nat) < 2 by decide) (by decide)), had_361, va_up_ne _ _ (Nat.ne_of_lt (Nat.lt_of_lt_of_le (show (1 : Nat) < 2 by decide) (by decide))), hda_359 _ (Nat.lt_of_lt_of_le (show (1 : Nat) < 2 by decide) (by decide)), had_358, va_up_ne _ _ (Nat.ne_of_lt (Nat.lt_of_lt_of_le (show (1 : Nat) < 2 by decide) (by decide))), had_356, va_up_ne _ _ (Nat.ne_of_lt (Nat.lt_of_lt_of_le (show (1 : Nat) < 2 by decide) (by decide))), had_354, va_up_ne _ _ (Nat.ne_of_lt (Nat.lt_of_lt_of_le (show (1 : Nat) < 2 by decide) (by decide))), hda_352 _ (Nat.lt_of_lt_of_le (show (1 : Nat) < 2 by decide) (by decide)), had_351, va_up_ne _ _ (Nat.ne_of_lt (Nat.lt_of_lt_of_le (show (1 : Nat) < 2 by decide) (by decide)))], he13a_407, he14a_407, hex24a_407, hex33a_407]; exact e12_414), e13_414, e14_414, e16_414, hv_414, (by dsimp only; rw [show ad_407 1 = ad_352 1 from by rw [hda_407 _ (Nat.lt_of_lt_of_le (show (1 : Nat) < 2 by decide) (by decide)), had_406, va_up_ne _ _ (Nat.ne_of_lt (Nat.lt_of_lt_of_le (show (1 : Nat) < 2 by decide) (by decide))), hda_402 _ (Nat.lt_of_lt_of_le (show (1 : Nat) < 2 by decide) (by decide)), had_401, va_up_ne _ _ (Nat.ne_of_lt (Nat.lt_of_lt_of_le (show (1 : Nat) < 2 by decide) (by decide))), hda_397 _ (Nat.lt_of_lt_of_le (show (1 : Nat) < 2 by decide) (by decide)), had_396, va_up_ne _ _ (Nat.ne_of_lt (Nat.lt_of_lt_of_le (show (1 : Nat) < 2 by decide) (by decide))), hda_392 _ (Nat.lt_of_lt_of_le (show (1 : Nat) < 2 by decide) (by decide)), had_391, va_up_ne _ _ (Nat.ne_of_lt (Nat.lt_of_lt_of_le (show (1 : Nat) < 2 by decide) (by decide))), hda_389 _ (Nat.lt_of_lt_of_le (show (1 : Nat) < 2 by decide) (by decide)), had_388, va_up_ne _ _ (Nat.ne_of_lt (Nat.lt_of_lt_of_le (show (1 : Nat) < 2 by decide) (by decide))), hda_386 _ (Nat.lt_of_lt_of_le (show (1 : Nat) < 2 by decide) (by decide)), had_385, va_up_ne _ _ (Nat.ne_of_lt (Nat.lt_of_lt_of_le (show (1 : Nat) < 2 by decide) (by decide))), hda_383 _ (Nat.lt_of_lt_of_le (show (1 : Nat) < 2 by decide) (by decide)), had_382, va_up_ne _ _ (Nat.ne_of_lt (Nat.lt_of_lt_of_le (show (1 : Nat) < 2 by decide) (by decide))), hda_380 _ (Nat.lt_of_lt_of_le (show (1 : Nat) < 2 by decide) (by decide)), had_379, va_up_ne _ _ (Nat.ne_of_lt (Nat.lt_of_lt_of_le (show (1 : Nat) < 2 by decide) (by decide))), hda_377 _ (Nat.lt_of_lt_of_le (show (1 : Nat) < 2 by decide) (by decide)), had_376, va_up_ne _ _ (Nat.ne_of_lt (Nat.lt_of_lt_of_le (show (1 : Nat) < 2 by decide) (by decide))), hda_374 _ (Nat.lt_of_lt_of_le (show (1 : Nat) < 2 by decide) (by decide)), had_373, va_up_ne _ _ (Nat.ne_of_lt (Nat.lt_of_lt_of_le (show (1 : Nat) < 2 by decide) (by decide))), hda_371 _ (Nat.lt_of_lt_of_le (show (1 : Nat) < 2 by decide) (by decide)), had_370, va_up_ne _ _ (Nat.ne_of_lt (Nat.lt_of_lt_of_le (show (1 : Nat) < 2 by decide) (by decide))), hda_368 _ (Nat.lt_of_lt_of_le (show (1 : Nat) < 2 by decide) (by decide)), had_367, va_up_ne _ _ (Nat.ne_of_lt (Nat.lt_of_lt_of_le (show (1 : Nat) < 2 by decide) (by decide))), hda_365 _ (Nat.lt_of_lt_of_le (show (1 : Nat) < 2 by decide) (by decide)), had_364, va_up_ne _ _ (Nat.ne_of_lt (Nat.lt_of_lt_of_le (show (1 : Nat) < 2 by decide) (by decide))), hda_362 _ (Nat.lt_of_lt_of_le (show (1 : Nat) < 2 by decide) (by decide)), had_361, va_up_ne _ _ (Nat.ne_of_lt (Nat.lt_of_lt_of_le (show (1 : Nat) < 2 by decide) (by decide))), hda_359 _ (Nat.lt_of_lt_of_le (show (1 : Nat) < 2 by decide) (by decide)), had_358, va_up_ne _ _ (Nat.ne_of_lt (Nat.lt_of_lt_of_le (show (1 : Nat) < 2 by decide) (by decide))), had_356, va_up_ne _ _ (Nat.ne_of_lt (Nat.lt_of_lt_of_le (show (1 : Nat) < 2 by decide) (by decide))), had_354, va_up_ne _ _ (Nat.ne_of_lt (Nat.lt_of_lt_of_le (show (1 : Nat) < 2 by decide) (by decide)))], hex71a_407, hex72a_407, hex73a_407]; exact e70_414), e75_414, hs_414, hc_414, ew76_414⟩) dX11_init_126
theorem kw_X11_init {R : Room} {s : State} {args : Array Value} {own : String} {idx : Nat} (hts : ∀ w ∈ TB, w.before args s = true) (hl : Cond.methodLink own idx yX11_init ∈ TB) (hR : 4 + 1 ≤ R.frames ∧ 8 + (2 + 11) + 40 * 4 ≤ R.locals) : CallB R s args own idx yX11_init cX11_init 2 none (Cond.code yX11_init cX11_init 2 none :: TB) (rmC 4 114 1061) 114 1061 0 ∧ yX11_init.name = "<init>" ∧ (Cond.instanceMethod yX11_init).before args s = true := cwI 0 hts (TB_W tw_21) rfl rfl rfl (hts _ tw_1) (hts _ hl) (hts _ tw_20) rfl (by decide +kernel) hR
