set_option maxHeartbeats 8000000 in
set_option maxRecDepth 100000 in
/-- AnyOrder() -/
theorem c_X11_init (l : Launch) (D : va_G) (cy : Nat → ClassId) (sz : Nat) (ad : Nat → Nat) (en : Nat → va_E)  (et : en 0 = .inr (10, [.null, .null, .null, .null, .null, .null, .int 0, .int 0])) : Met l yX11_init (Cond.code yX11_init cX11_init 2 none :: TB) (rmC 4 114 1061) (va_Pc [.ref (ad 0)] (PreC D cy 1 ad en sz)) (va_Qv (S := (Nat → Nat) × (Nat → va_E)) (fun u => (∀ i, i < 1 → u.1 i = ad i) ∧ (∀ i, i < 1 → i ≠ 0 → u.2 i = en i) ∧ SX cy (List.range 115) u.1 u.2 ∧ u.2 0 = .inr (10, [.ref (u.1 1), .ref (u.1 12), .ref (u.1 70), .ref (u.1 74), .ref (u.1 75), .ref (u.1 76), .int 0, .int 0]) ∧ u.2 1 = .inr (7, [.ref (u.1 2), .ref (u.1 3), .ref (u.1 10), .ref (u.1 11), .int 0, .int 2, .int 0]) ∧ (∃ f : Nat → Int32, u.2 10 = .inl (cy 2, 36, .inl f) ∧ ∀ i, i < 36 → f i = 1) ∧ u.2 70 = .inr (0, [.ref (u.1 1), .ref (u.1 71), .ref (u.1 72), .ref (u.1 73), .null, .null, .null, .int 0, .int 0, .int 0, .int 0, .int 0, .int 0]) ∧ u.2 76 = .inr (8, [.int 0]) ∧ (∀ j, j < 4 → u.2 (107 + 2 * j) = .inr (3, [.ref (u.1 (108 + 2 * j)), .int 0, .int 0, .int 0])) ∧ (∀ j, j < 4 → u.2 (108 + 2 * j) = .inl (cy 0, 40, .inl (fun _ => 0))) ∧ u.2 12 = .inr (2, [.ref (u.1 1), .ref (u.1 13), .ref (u.1 14), .ref (u.1 24), .ref (u.1 33), .int 0]) ∧ (∀ j, j < 9 → u.2 (34 + 4 * j) = .inr (5, [.ref (u.1 (35 + 4 * j)), .ref (u.1 (36 + 4 * j)), .ref (u.1 (37 + 4 * j)), .int 0, .int 0, .int 0, .long 0, .long 0, .long 0, .long 0]))) (PostC D 115 (Af (List.range 1) ad sz)) (Af (List.range 1) ad sz)) 114 1061 (Af (List.range 1) ad sz) := by
  refine Met.ofW (cc := cX11_init) (maxL := 2) (ret := none) (by decide) rfl ?_
  intro p e s m args below meth c s₁ B hml hv
  obtain ⟨rfl, ⟨hsz, hP, hK, hD0⟩, hX⟩ := hv
  have hx := B.exec
  have hb := B.bytes
  have hr := B.returns
  have hts : ∀ w ∈ TB, w.before _ s = true := fun w h => atoms_spec (ws := _ :: TB) B.pre w (List.mem_cons_of_mem _ h)
  have hown : s.vm.findClass RX11 = some m.cls := findClass_of_methodNamed B.named
  have hlocks := B.notSynchronized
  have hin : meth.name = "<init>" := (name_of_methodNamed B.named B.method).1
  have hh : Hp D (Af (List.range 1) ad sz) (Af (List.range 1) ad sz) s.heap s.heap [] (List.range 1) ad en := ⟨hP, Af_self hD0, va_S.rf⟩
  have hA : ∀ q : Nat, s.heap.size ≤ q → (Af (List.range 1) ad sz) q := fun q h => Or.inr (by rw [hsz] at h; exact h)
  generalize (Af (List.range 1) ad sz) = A at hh hA ⊢
  have hl := lv_entry ([.ref (ad 0)]) (n := 2) (Nat.le_of_ble_eq_true rfl)
  rw [lg_entry_eq]
  generalize (lg_sl ([.ref (ad 0)]) ++ List.replicate (2 - (lg_sl ([.ref (ad 0)])).length) Slot.unset).toArray = ls at hl ⊢
  have hl : lv_has ls 2 [(0, .ref (ad 0))] := hl
  refine lv_aload_n hx hb dX11_init_0 rfl (lv_at hl 0 rfl) ?_
  refine W.objInit hx hb hown (hts _ tw_22) (hts _ tw_23) (hts _ tw_24) rfl (by rw [hml]; exact hl.1) rfl dX11_init_1 (Nat.le_of_ble_eq_true rfl) (Nat.le_of_ble_eq_true rfl) ?_
  refine W.eq (g2 := F0 m 4 ls []) rfl ?_
  refine lv_aload_n hx hb dX11_init_4 rfl (lv_at hl 0 rfl) ?_
  refine hq_new (ci := 7) (fs := [.null, .null, .null, .null, .int 0, .int 0, .int 0]) hx hb hts ix8 tyX8 tyX8_ok hown (hts _ tw_25) (hts _ tw_26) (hts _ tw_2) hK hh hA rfl (fun j hj => by rcases (show j = 0 ∨ j = 1 ∨ j = 2 ∨ j = 3 ∨ j = 4 ∨ j = 5 ∨ j = 6 by omega) with rfl | rfl | rfl | rfl | rfl | rfl | rfl <;> rfl) (Nat.le_of_ble_eq_true rfl) (Nat.le_of_ble_eq_true rfl) dX11_init_5 (fun q_440 H ad_440 en_440 had_440 hen_440 hh => ?_)
  have hh : Hp D A A s.heap H _ (List.range 2) ad_440 en_440 := hh
  have et_440 : en_440 0 = .inr (10, [.null, .null, .null, .null, .null, .null, .int 0, .int 0]) := by rw [hen_440, va_up_ne _ _ (by decide)]; exact et
  have heta_440 : ad_440 0 = (ad 0) := by rw [had_440, va_up_ne _ _ (by decide)]
  have e1_440 : en_440 1 = .inr (7, [.null, .null, .null, .null, .int 0, .int 0, .int 0]) := by rw [hen_440]; exact va_up_self _ _ _
  have he1a_440 : ad_440 1 = q_440 := by rw [had_440]; exact va_up_self _ _ _
  refine W.widen (k := 1) (n := 7) (Nat.le_refl _) (Nat.le_refl _) ?_
  refine lv_dup hx hb dX11_init_8 rfl ?_
  refine W.eq (g2 := F0 m 9 ls [.ref (ad_440 1), .ref q_440, .ref (ad 0)]) (by rw [he1a_440]) ?_
  refine hq_callC (va_runI (As := []) (rest := [.ref q_440, .ref (ad 0)]) ⟨hx, hb, hml, hown, hts⟩ (c_X8_init l D cy _ ad_440 en_440 e1_440) (kw_X8_init hts tw_27 ⟨by decide, by decide⟩) (preC_of hh hK hX) rfl rfl hl.1 rfl (lv_room (Nat.le_of_ble_eq_true rfl)) dX11_init_9 ⟨Nat.le_of_ble_eq_true rfl, Nat.le_of_ble_eq_true rfl⟩) hh hA (fun H locs ad_441 en_441 hw_441 hh => ?_)
  have hh : Hp D A A s.heap H _ (List.range 12) ad_441 en_441 := hh
  obtain ⟨hda_441, hue_441, e1_441, ⟨f2_441, e2_441⟩, e3_441, hrw_441, ⟨f_441, e10_441, hone_441⟩, e11_441⟩ := hw_441
  dsimp only at hda_441 hue_441 e1_441 e2_441 e3_441 hrw_441 e10_441 e11_441
  have et_441 : en_441 0 = .inr (10, [.null, .null, .null, .null, .null, .null, .int 0, .int 0]) := by rw [hue_441 _ (by decide) (by decide)]; exact et_440
  have heta_441 : ad_441 0 = (ad 0) := by rw [hda_441 _ (by decide)]; exact heta_440
  have he1a_441 : ad_441 1 = q_440 := by rw [hda_441 _ (by decide)]; exact he1a_440
  clear et_440 heta_440 e1_440 he1a_440
  refine W.widen (k := 11) (n := 118) (Nat.le_refl _) (Nat.le_refl _) ?_
  refine hp_putF hx hb hts ix11 tyX11 tyX11_ok nmX11 hown hK hh (q := 0) heta_441 (List.mem_range.mpr (by decide)) et_441 rfl 0 (by decide) (hts _ tw_245) (fun _ h9 => h9) rfl hin rfl (ty := (.object "AnyOrder$Tables")) (by decide +kernel) rfl rfl (Nat.le_of_ble_eq_true rfl) dX11_init_12 (fun H locs en_442 hen_442 hh => ?_)
  have e1_442 : en_442 1 = .inr (7, [.ref (ad_441 2), .ref (ad_441 3), .ref (ad_441 10), .ref (ad_441 11), .int 0, .int 2, .int 0]) := by rw [hen_442, va_up_ne _ _ (by decide)]; exact e1_441
  have e10_442 : en_442 10 = .inl (cy 2, 36, .inl f_441) := by rw [hen_442, va_up_ne _ _ (by decide)]; exact e10_441
  have e2_442 : en_442 2 = .inl (cy 3, 6, .inr (.inr (.inr (.inr f2_441)))) := by rw [hen_442, va_up_ne _ _ (by decide)]; exact e2_441
  have e3_442 : en_442 3 = .inl (cy 8, 6, .inr (.inr (.inr (.inr (rfA ad_441 6 4))))) := by rw [hen_442, va_up_ne _ _ (by decide)]; exact e3_441
  have e11_442 : en_442 11 = .inl (cy 1, 9, .inr (.inl (fun _ => 0))) := by rw [hen_442, va_up_ne _ _ (by decide)]; exact e11_441
  have hrw_442 : ∀ j, j < 6 → en_442 (4 + j) = .inl (cy 1, 9, .inr (.inl (fun _ => 0))) := fun j hj => by rw [hen_442, va_up_ne _ _ (by omega)]; exact hrw_441 j hj
  have et_442 : en_442 0 = .inr (10, [.ref q_440, .null, .null, .null, .null, .null, .int 0, .int 0]) := by rw [hen_442]; exact va_up_self _ _ _
  clear et_441
  refine lv_aload_n hx hb dX11_init_15 rfl (lv_at hl 0 rfl) ?_
  refine hq_new (ci := 2) (fs := [.null, .null, .null, .null, .null, .int 0]) hx hb hts ix2 tyX2 tyX2_ok hown (hts _ tw_63) (hts _ tw_64) (hts _ tw_3) hK hh hA rfl (fun j hj => by rcases (show j = 0 ∨ j = 1 ∨ j = 2 ∨ j = 3 ∨ j = 4 ∨ j = 5 by omega) with rfl | rfl | rfl | rfl | rfl | rfl <;> rfl) (Nat.le_of_ble_eq_true rfl) (Nat.le_of_ble_eq_true rfl) dX11_init_16 (fun q_443 H ad_443 en_443 had_443 hen_443 hh => ?_)
  have hh : Hp D A A s.heap H _ (List.range 13) ad_443 en_443 := hh
  have et_443 : en_443 0 = .inr (10, [.ref q_440, .null, .null, .null, .null, .null, .int 0, .int 0]) := by rw [hen_443, va_up_ne _ _ (by decide)]; exact et_442
  have heta_443 : ad_443 0 = (ad 0) := by rw [had_443, va_up_ne _ _ (by decide)]; exact heta_441
  have e1_443 : en_443 1 = .inr (7, [.ref (ad_441 2), .ref (ad_441 3), .ref (ad_441 10), .ref (ad_441 11), .int 0, .int 2, .int 0]) := by rw [hen_443, va_up_ne _ _ (by decide)]; exact e1_442
  have he1a_443 : ad_443 1 = q_440 := by rw [had_443, va_up_ne _ _ (by decide)]; exact he1a_441
  have e10_443 : en_443 10 = .inl (cy 2, 36, .inl f_441) := by rw [hen_443, va_up_ne _ _ (by decide)]; exact e10_442
  have he10a_443 : ad_443 10 = (ad_441 10) := by rw [had_443, va_up_ne _ _ (by decide)]
  have e2_443 : en_443 2 = .inl (cy 3, 6, .inr (.inr (.inr (.inr f2_441)))) := by rw [hen_443, va_up_ne _ _ (by decide)]; exact e2_442
  have he2a_443 : ad_443 2 = (ad_441 2) := by rw [had_443, va_up_ne _ _ (by decide)]
  have e3_443 : en_443 3 = .inl (cy 8, 6, .inr (.inr (.inr (.inr (rfA ad_441 6 4))))) := by rw [hen_443, va_up_ne _ _ (by decide)]; exact e3_442
  have he3a_443 : ad_443 3 = (ad_441 3) := by rw [had_443, va_up_ne _ _ (by decide)]
  have e11_443 : en_443 11 = .inl (cy 1, 9, .inr (.inl (fun _ => 0))) := by rw [hen_443, va_up_ne _ _ (by decide)]; exact e11_442
  have he11a_443 : ad_443 11 = (ad_441 11) := by rw [had_443, va_up_ne _ _ (by decide)]
  have hrw_443 : ∀ j, j < 6 → en_443 (4 + j) = .inl (cy 1, 9, .inr (.inl (fun _ => 0))) := fun j hj => by rw [hen_443, va_up_ne _ _ (by omega)]; exact hrw_442 j hj
  have e12_443 : en_443 12 = .inr (2, [.null, .null, .null, .null, .null, .int 0]) := by rw [hen_443]; exact va_up_self _ _ _
  have he12a_443 : ad_443 12 = q_443 := by rw [had_443]; exact va_up_self _ _ _
  clear heta_441 he1a_441 e1_442 e10_442 e2_442 e3_442 e11_442 hrw_442 et_442
  refine W.widen (k := 12) (n := 124) (Nat.le_refl _) (Nat.le_refl _) ?_
  refine lv_dup hx hb dX11_init_19 rfl ?_
  refine lv_aload_n hx hb dX11_init_20 rfl (lv_at hl 0 rfl) ?_
  refine hp_get hx hb hts ix11 hown hK hh (q := 0) heta_443 (List.mem_range.mpr (by decide)) et_443 rfl 0 (by decide) (hts _ tw_245) (fun _ h9 => h9) rfl dX11_init_21 ?_
  refine W.eq (g2 := F0 m 24 ls [.ref (ad_443 1), .ref (ad_443 12), .ref q_443, .ref (ad 0)]) (by rw [he1a_443, he12a_443]) ?_
  refine hq_callC (va_runI (As := [.ref (ad_443 1)]) (rest := [.ref q_443, .ref (ad 0)]) ⟨hx, hb, hml, hown, hts⟩ (c_X2_init l D cy _ ad_443 en_443 e12_443) (kw_X2_init hts tw_65 ⟨by decide, by decide⟩) (preC_of hh hK hX) rfl rfl hl.1 rfl (lv_room (Nat.le_of_ble_eq_true rfl)) dX11_init_24 ⟨Nat.le_of_ble_eq_true rfl, Nat.le_of_ble_eq_true rfl⟩) hh hA (fun H locs ad_444 en_444 hw_444 hh => ?_)
  have hh : Hp D A A s.heap H _ (List.range 70) ad_444 en_444 := hh
  obtain ⟨hda_444, hue_444, e12_444, e13_444, e14_444, hwy_444, e24_444, hpf_444, e33_444, hv_444, hva_444, hvb_444, hvc_444⟩ := hw_444
  dsimp only at hda_444 hue_444 e12_444 e13_444 e14_444 hwy_444 e24_444 hpf_444 e33_444 hv_444 hva_444 hvb_444 hvc_444
  have et_444 : en_444 0 = .inr (10, [.ref q_440, .null, .null, .null, .null, .null, .int 0, .int 0]) := by rw [hue_444 _ (by decide) (by decide)]; exact et_443
  have heta_444 : ad_444 0 = (ad 0) := by rw [hda_444 _ (by decide)]; exact heta_443
  have e1_444 : en_444 1 = .inr (7, [.ref (ad_441 2), .ref (ad_441 3), .ref (ad_441 10), .ref (ad_441 11), .int 0, .int 2, .int 0]) := by rw [hue_444 _ (by decide) (by decide)]; exact e1_443
  have he1a_444 : ad_444 1 = q_440 := by rw [hda_444 _ (by decide)]; exact he1a_443
  have e10_444 : en_444 10 = .inl (cy 2, 36, .inl f_441) := by rw [hue_444 _ (by decide) (by decide)]; exact e10_443
  have he10a_444 : ad_444 10 = (ad_441 10) := by rw [hda_444 _ (by decide)]; exact he10a_443
  have e2_444 : en_444 2 = .inl (cy 3, 6, .inr (.inr (.inr (.inr f2_441)))) := by rw [hue_444 _ (by decide) (by decide)]; exact e2_443
  have he2a_444 : ad_444 2 = (ad_441 2) := by rw [hda_444 _ (by decide)]; exact he2a_443
  have e3_444 : en_444 3 = .inl (cy 8, 6, .inr (.inr (.inr (.inr (rfA ad_441 6 4))))) := by rw [hue_444 _ (by decide) (by decide)]; exact e3_443
  have he3a_444 : ad_444 3 = (ad_441 3) := by rw [hda_444 _ (by decide)]; exact he3a_443
  have e11_444 : en_444 11 = .inl (cy 1, 9, .inr (.inl (fun _ => 0))) := by rw [hue_444 _ (by decide) (by decide)]; exact e11_443
  have he11a_444 : ad_444 11 = (ad_441 11) := by rw [hda_444 _ (by decide)]; exact he11a_443
  have he12a_444 : ad_444 12 = q_443 := by rw [hda_444 _ (by decide)]; exact he12a_443
  have hrw_444 : ∀ j, j < 6 → en_444 (4 + j) = .inl (cy 1, 9, .inr (.inl (fun _ => 0))) := fun j hj => by rw [hue_444 _ (by omega) (by omega)]; exact hrw_443 j hj
  clear et_443 heta_443 e1_443 he1a_443 e10_443 he10a_443 e2_443 he2a_443 e3_443 he3a_443 e11_443 he11a_443 hrw_443 e12_443 he12a_443
  refine W.widen (k := 69) (n := 590) (Nat.le_refl _) (Nat.le_refl _) ?_
  refine hp_putF hx hb hts ix11 tyX11 tyX11_ok nmX11 hown hK hh (q := 0) heta_444 (List.mem_range.mpr (by decide)) et_444 rfl 1 (by decide) (hts _ tw_246) (fun _ h9 => h9) rfl hin rfl (ty := (.object "AnyOrder$Lengths")) (by decide +kernel) rfl rfl (Nat.le_of_ble_eq_true rfl) dX11_init_27 (fun H locs en_445 hen_445 hh => ?_)
  have e1_445 : en_445 1 = .inr (7, [.ref (ad_441 2), .ref (ad_441 3), .ref (ad_441 10), .ref (ad_441 11), .int 0, .int 2, .int 0]) := by rw [hen_445, va_up_ne _ _ (by decide)]; exact e1_444
  have e10_445 : en_445 10 = .inl (cy 2, 36, .inl f_441) := by rw [hen_445, va_up_ne _ _ (by decide)]; exact e10_444
  have e2_445 : en_445 2 = .inl (cy 3, 6, .inr (.inr (.inr (.inr f2_441)))) := by rw [hen_445, va_up_ne _ _ (by decide)]; exact e2_444
  have e3_445 : en_445 3 = .inl (cy 8, 6, .inr (.inr (.inr (.inr (rfA ad_441 6 4))))) := by rw [hen_445, va_up_ne _ _ (by decide)]; exact e3_444
  have e11_445 : en_445 11 = .inl (cy 1, 9, .inr (.inl (fun _ => 0))) := by rw [hen_445, va_up_ne _ _ (by decide)]; exact e11_444
  have e12_445 : en_445 12 = .inr (2, [.ref (ad_444 1), .ref (ad_444 13), .ref (ad_444 14), .ref (ad_444 24), .ref (ad_444 33), .int 0]) := by rw [hen_445, va_up_ne _ _ (by decide)]; exact e12_444
  have e13_445 : en_445 13 = .inl (cy 4, 9, .inr (.inr (.inr (.inr (rfB ad_444 9 34 4))))) := by rw [hen_445, va_up_ne _ _ (by decide)]; exact e13_444
  have e14_445 : en_445 14 = .inl (cy 7, 9, .inr (.inr (.inr (.inr (rfA ad_444 9 15))))) := by rw [hen_445, va_up_ne _ _ (by decide)]; exact e14_444
  have e24_445 : en_445 24 = .inl (cy 8, 8, .inr (.inr (.inr (.inr (rfA ad_444 8 25))))) := by rw [hen_445, va_up_ne _ _ (by decide)]; exact e24_444
  have e33_445 : en_445 33 = .inl (cy 0, 8, .inl (fun _ => 0)) := by rw [hen_445, va_up_ne _ _ (by decide)]; exact e33_444
  have hrw_445 : ∀ j, j < 6 → en_445 (4 + j) = .inl (cy 1, 9, .inr (.inl (fun _ => 0))) := fun j hj => by rw [hen_445, va_up_ne _ _ (by omega)]; exact hrw_444 j hj
  have hwy_445 : ∀ j, j < 9 → en_445 (15 + j) = .inl (cy 0, 6, .inl (fun _ => 0)) := fun j hj => by rw [hen_445, va_up_ne _ _ (by omega)]; exact hwy_444 j hj
  have hpf_445 : ∀ j, j < 8 → en_445 (25 + j) = .inl (cy 1, 9, .inr (.inl (fun _ => 0))) := fun j hj => by rw [hen_445, va_up_ne _ _ (by omega)]; exact hpf_444 j hj
  have hv_445 : ∀ j, j < 9 → en_445 (34 + 4 * j) = .inr (5, [.ref (ad_444 (35 + 4 * j)), .ref (ad_444 (36 + 4 * j)), .ref (ad_444 (37 + 4 * j)), .int 0, .int 0, .int 0, .long 0, .long 0, .long 0, .long 0]) := fun j hj => by rw [hen_445, va_up_ne _ _ (fne2 34 4 0 (by decide))]; exact hv_444 j hj
  have hva_445 : ∀ j, j < 9 → en_445 (35 + 4 * j) = .inl (cy 0, 8, .inl (fun _ => 0)) := fun j hj => by rw [hen_445, va_up_ne _ _ (fne2 35 4 0 (by decide))]; exact hva_444 j hj
  have hvb_445 : ∀ j, j < 9 → en_445 (36 + 4 * j) = .inl (cy 0, 8, .inl (fun _ => 0)) := fun j hj => by rw [hen_445, va_up_ne _ _ (fne2 36 4 0 (by decide))]; exact hvb_444 j hj
  have hvc_445 : ∀ j, j < 9 → en_445 (37 + 4 * j) = .inl (cy 0, 8, .inl (fun _ => 0)) := fun j hj => by rw [hen_445, va_up_ne _ _ (fne2 37 4 0 (by decide))]; exact hvc_444 j hj
  have et_445 : en_445 0 = .inr (10, [.ref q_440, .ref q_443, .null, .null, .null, .null, .int 0, .int 0]) := by rw [hen_445]; exact va_up_self _ _ _
  clear et_444 e1_444 e10_444 e2_444 e3_444 e11_444 hrw_444
  refine lv_aload_n hx hb dX11_init_30 rfl (lv_at hl 0 rfl) ?_
  refine hq_new (ci := 0) (fs := [.null, .null, .null, .null, .null, .null, .null, .int 0, .int 0, .int 0, .int 0, .int 0, .int 0]) hx hb hts ix0 tyX0 tyX0_ok hown (hts _ tw_141) (hts _ tw_142) (hts _ tw_5) hK hh hA rfl (fun j hj => by rcases (show j = 0 ∨ j = 1 ∨ j = 2 ∨ j = 3 ∨ j = 4 ∨ j = 5 ∨ j = 6 ∨ j = 7 ∨ j = 8 ∨ j = 9 ∨ j = 10 ∨ j = 11 ∨ j = 12 by omega) with rfl | rfl | rfl | rfl | rfl | rfl | rfl | rfl | rfl | rfl | rfl | rfl | rfl <;> rfl) (Nat.le_of_ble_eq_true rfl) (Nat.le_of_ble_eq_true rfl) dX11_init_31 (fun q_446 H ad_446 en_446 had_446 hen_446 hh => ?_)
  have hh : Hp D A A s.heap H _ (List.range 71) ad_446 en_446 := hh
  have et_446 : en_446 0 = .inr (10, [.ref q_440, .ref q_443, .null, .null, .null, .null, .int 0, .int 0]) := by rw [hen_446, va_up_ne _ _ (by decide)]; exact et_445
  have heta_446 : ad_446 0 = (ad 0) := by rw [had_446, va_up_ne _ _ (by decide)]; exact heta_444
  have e1_446 : en_446 1 = .inr (7, [.ref (ad_441 2), .ref (ad_441 3), .ref (ad_441 10), .ref (ad_441 11), .int 0, .int 2, .int 0]) := by rw [hen_446, va_up_ne _ _ (by decide)]; exact e1_445
  have he1a_446 : ad_446 1 = q_440 := by rw [had_446, va_up_ne _ _ (by decide)]; exact he1a_444
  have e10_446 : en_446 10 = .inl (cy 2, 36, .inl f_441) := by rw [hen_446, va_up_ne _ _ (by decide)]; exact e10_445
  have he10a_446 : ad_446 10 = (ad_441 10) := by rw [had_446, va_up_ne _ _ (by decide)]; exact he10a_444
  have e2_446 : en_446 2 = .inl (cy 3, 6, .inr (.inr (.inr (.inr f2_441)))) := by rw [hen_446, va_up_ne _ _ (by decide)]; exact e2_445
  have he2a_446 : ad_446 2 = (ad_441 2) := by rw [had_446, va_up_ne _ _ (by decide)]; exact he2a_444
  have e3_446 : en_446 3 = .inl (cy 8, 6, .inr (.inr (.inr (.inr (rfA ad_441 6 4))))) := by rw [hen_446, va_up_ne _ _ (by decide)]; exact e3_445
  have he3a_446 : ad_446 3 = (ad_441 3) := by rw [had_446, va_up_ne _ _ (by decide)]; exact he3a_444
  have e11_446 : en_446 11 = .inl (cy 1, 9, .inr (.inl (fun _ => 0))) := by rw [hen_446, va_up_ne _ _ (by decide)]; exact e11_445
  have he11a_446 : ad_446 11 = (ad_441 11) := by rw [had_446, va_up_ne _ _ (by decide)]; exact he11a_444
  have e12_446 : en_446 12 = .inr (2, [.ref (ad_444 1), .ref (ad_444 13), .ref (ad_444 14), .ref (ad_444 24), .ref (ad_444 33), .int 0]) := by rw [hen_446, va_up_ne _ _ (by decide)]; exact e12_445
  have he12a_446 : ad_446 12 = q_443 := by rw [had_446, va_up_ne _ _ (by decide)]; exact he12a_444
  have e13_446 : en_446 13 = .inl (cy 4, 9, .inr (.inr (.inr (.inr (rfB ad_444 9 34 4))))) := by rw [hen_446, va_up_ne _ _ (by decide)]; exact e13_445
  have he13a_446 : ad_446 13 = (ad_444 13) := by rw [had_446, va_up_ne _ _ (by decide)]
  have e14_446 : en_446 14 = .inl (cy 7, 9, .inr (.inr (.inr (.inr (rfA ad_444 9 15))))) := by rw [hen_446, va_up_ne _ _ (by decide)]; exact e14_445
  have he14a_446 : ad_446 14 = (ad_444 14) := by rw [had_446, va_up_ne _ _ (by decide)]
  have e24_446 : en_446 24 = .inl (cy 8, 8, .inr (.inr (.inr (.inr (rfA ad_444 8 25))))) := by rw [hen_446, va_up_ne _ _ (by decide)]; exact e24_445
  have he24a_446 : ad_446 24 = (ad_444 24) := by rw [had_446, va_up_ne _ _ (by decide)]
  have e33_446 : en_446 33 = .inl (cy 0, 8, .inl (fun _ => 0)) := by rw [hen_446, va_up_ne _ _ (by decide)]; exact e33_445
  have he33a_446 : ad_446 33 = (ad_444 33) := by rw [had_446, va_up_ne _ _ (by decide)]
  have hrw_446 : ∀ j, j < 6 → en_446 (4 + j) = .inl (cy 1, 9, .inr (.inl (fun _ => 0))) := fun j hj => by rw [hen_446, va_up_ne _ _ (by omega)]; exact hrw_445 j hj
  have hwy_446 : ∀ j, j < 9 → en_446 (15 + j) = .inl (cy 0, 6, .inl (fun _ => 0)) := fun j hj => by rw [hen_446, va_up_ne _ _ (by omega)]; exact hwy_445 j hj
  have hpf_446 : ∀ j, j < 8 → en_446 (25 + j) = .inl (cy 1, 9, .inr (.inl (fun _ => 0))) := fun j hj => by rw [hen_446, va_up_ne _ _ (by omega)]; exact hpf_445 j hj
  have hv_446 : ∀ j, j < 9 → en_446 (34 + 4 * j) = .inr (5, [.ref (ad_446 (35 + 4 * j)), .ref (ad_446 (36 + 4 * j)), .ref (ad_446 (37 + 4 * j)), .int 0, .int 0, .int 0, .long 0, .long 0, .long 0, .long 0]) := fun j hj => by rw [hen_446, va_up_ne _ _ (fne 34 4 70 hj (by decide)), had_446, va_up_ne _ _ (fne 35 4 70 hj (by decide)), va_up_ne _ _ (fne 36 4 70 hj (by decide)), va_up_ne _ _ (fne 37 4 70 hj (by decide))]; exact hv_445 j hj
  have hva_446 : ∀ j, j < 9 → en_446 (35 + 4 * j) = .inl (cy 0, 8, .inl (fun _ => 0)) := fun j hj => by rw [hen_446, va_up_ne _ _ (fne 35 4 70 hj (by decide))]; exact hva_445 j hj
  have hvb_446 : ∀ j, j < 9 → en_446 (36 + 4 * j) = .inl (cy 0, 8, .inl (fun _ => 0)) := fun j hj => by rw [hen_446, va_up_ne _ _ (fne 36 4 70 hj (by decide))]; exact hvb_445 j hj
  have hvc_446 : ∀ j, j < 9 → en_446 (37 + 4 * j) = .inl (cy 0, 8, .inl (fun _ => 0)) := fun j hj => by rw [hen_446, va_up_ne _ _ (fne 37 4 70 hj (by decide))]; exact hvc_445 j hj
  have e70_446 : en_446 70 = .inr (0, [.null, .null, .null, .null, .null, .null, .null, .int 0, .int 0, .int 0, .int 0, .int 0, .int 0]) := by rw [hen_446]; exact va_up_self _ _ _
  have he70a_446 : ad_446 70 = q_446 := by rw [had_446]; exact va_up_self _ _ _
  clear heta_444 he1a_444 he10a_444 he2a_444 he3a_444 he11a_444 he12a_444 e1_445 e10_445 e2_445 e3_445 e11_445 e12_445 e13_445 e14_445 e24_445 e33_445 hrw_445 hwy_445 hpf_445 hv_445 hva_445 hvb_445 hvc_445 et_445
  refine W.widen (k := 70) (n := 603) (Nat.le_refl _) (Nat.le_refl _) ?_
  refine lv_dup hx hb dX11_init_34 rfl ?_
  refine lv_aload_n hx hb dX11_init_35 rfl (lv_at hl 0 rfl) ?_
  refine hp_get hx hb hts ix11 hown hK hh (q := 0) heta_446 (List.mem_range.mpr (by decide)) et_446 rfl 0 (by decide) (hts _ tw_245) (fun _ h9 => h9) rfl dX11_init_36 ?_
  refine W.eq (g2 := F0 m 39 ls [.ref (ad_446 1), .ref (ad_446 70), .ref q_446, .ref (ad 0)]) (by rw [he1a_446, he70a_446]) ?_
  refine hq_callC (va_runI (As := [.ref (ad_446 1)]) (rest := [.ref q_446, .ref (ad 0)]) ⟨hx, hb, hml, hown, hts⟩ (c_X0_init l D cy _ ad_446 en_446 e70_446) (kw_X0_init hts tw_143 ⟨by decide, by decide⟩) (preC_of hh hK hX) rfl rfl hl.1 rfl (lv_room (Nat.le_of_ble_eq_true rfl)) dX11_init_39 ⟨Nat.le_of_ble_eq_true rfl, Nat.le_of_ble_eq_true rfl⟩) hh hA (fun H locs ad_447 en_447 hw_447 hh => ?_)
  have hh : Hp D A A s.heap H _ (List.range 74) ad_447 en_447 := hh
  obtain ⟨hda_447, hue_447, e70_447, e71_447, e72_447, e73_447⟩ := hw_447
  dsimp only at hda_447 hue_447 e70_447 e71_447 e72_447 e73_447
  have et_447 : en_447 0 = .inr (10, [.ref q_440, .ref q_443, .null, .null, .null, .null, .int 0, .int 0]) := by rw [hue_447 _ (by decide) (by decide)]; exact et_446
  have heta_447 : ad_447 0 = (ad 0) := by rw [hda_447 _ (by decide)]; exact heta_446
  have e1_447 : en_447 1 = .inr (7, [.ref (ad_441 2), .ref (ad_441 3), .ref (ad_441 10), .ref (ad_441 11), .int 0, .int 2, .int 0]) := by rw [hue_447 _ (by decide) (by decide)]; exact e1_446
  have he1a_447 : ad_447 1 = q_440 := by rw [hda_447 _ (by decide)]; exact he1a_446
  have e10_447 : en_447 10 = .inl (cy 2, 36, .inl f_441) := by rw [hue_447 _ (by decide) (by decide)]; exact e10_446
  have he10a_447 : ad_447 10 = (ad_441 10) := by rw [hda_447 _ (by decide)]; exact he10a_446
  have e2_447 : en_447 2 = .inl (cy 3, 6, .inr (.inr (.inr (.inr f2_441)))) := by rw [hue_447 _ (by decide) (by decide)]; exact e2_446
  have he2a_447 : ad_447 2 = (ad_441 2) := by rw [hda_447 _ (by decide)]; exact he2a_446
  have e3_447 : en_447 3 = .inl (cy 8, 6, .inr (.inr (.inr (.inr (rfA ad_441 6 4))))) := by rw [hue_447 _ (by decide) (by decide)]; exact e3_446
  have he3a_447 : ad_447 3 = (ad_441 3) := by rw [hda_447 _ (by decide)]; exact he3a_446
  have e11_447 : en_447 11 = .inl (cy 1, 9, .inr (.inl (fun _ => 0))) := by rw [hue_447 _ (by decide) (by decide)]; exact e11_446
  have he11a_447 : ad_447 11 = (ad_441 11) := by rw [hda_447 _ (by decide)]; exact he11a_446
  have e12_447 : en_447 12 = .inr (2, [.ref (ad_444 1), .ref (ad_444 13), .ref (ad_444 14), .ref (ad_444 24), .ref (ad_444 33), .int 0]) := by rw [hue_447 _ (by decide) (by decide)]; exact e12_446
  have he12a_447 : ad_447 12 = q_443 := by rw [hda_447 _ (by decide)]; exact he12a_446
  have e13_447 : en_447 13 = .inl (cy 4, 9, .inr (.inr (.inr (.inr (rfB ad_444 9 34 4))))) := by rw [hue_447 _ (by decide) (by decide)]; exact e13_446
  have he13a_447 : ad_447 13 = (ad_444 13) := by rw [hda_447 _ (by decide)]; exact he13a_446
  have e14_447 : en_447 14 = .inl (cy 7, 9, .inr (.inr (.inr (.inr (rfA ad_444 9 15))))) := by rw [hue_447 _ (by decide) (by decide)]; exact e14_446
  have he14a_447 : ad_447 14 = (ad_444 14) := by rw [hda_447 _ (by decide)]; exact he14a_446
  have e24_447 : en_447 24 = .inl (cy 8, 8, .inr (.inr (.inr (.inr (rfA ad_444 8 25))))) := by rw [hue_447 _ (by decide) (by decide)]; exact e24_446
  have he24a_447 : ad_447 24 = (ad_444 24) := by rw [hda_447 _ (by decide)]; exact he24a_446
  have e33_447 : en_447 33 = .inl (cy 0, 8, .inl (fun _ => 0)) := by rw [hue_447 _ (by decide) (by decide)]; exact e33_446
  have he33a_447 : ad_447 33 = (ad_444 33) := by rw [hda_447 _ (by decide)]; exact he33a_446
  have he70a_447 : ad_447 70 = q_446 := by rw [hda_447 _ (by decide)]; exact he70a_446
  have hrw_447 : ∀ j, j < 6 → en_447 (4 + j) = .inl (cy 1, 9, .inr (.inl (fun _ => 0))) := fun j hj => by rw [hue_447 _ (by omega) (by omega)]; exact hrw_446 j hj
  have hwy_447 : ∀ j, j < 9 → en_447 (15 + j) = .inl (cy 0, 6, .inl (fun _ => 0)) := fun j hj => by rw [hue_447 _ (by omega) (by omega)]; exact hwy_446 j hj
  have hpf_447 : ∀ j, j < 8 → en_447 (25 + j) = .inl (cy 1, 9, .inr (.inl (fun _ => 0))) := fun j hj => by rw [hue_447 _ (by omega) (by omega)]; exact hpf_446 j hj
  have hv_447 : ∀ j, j < 9 → en_447 (34 + 4 * j) = .inr (5, [.ref (ad_447 (35 + 4 * j)), .ref (ad_447 (36 + 4 * j)), .ref (ad_447 (37 + 4 * j)), .int 0, .int 0, .int 0, .long 0, .long 0, .long 0, .long 0]) := fun j hj => by rw [hue_447 _ (flt 34 4 71 hj (by decide)) (fne 34 4 70 hj (by decide)), hda_447 _ (flt 35 4 71 hj (by decide)), hda_447 _ (flt 36 4 71 hj (by decide)), hda_447 _ (flt 37 4 71 hj (by decide))]; exact hv_446 j hj
  have hva_447 : ∀ j, j < 9 → en_447 (35 + 4 * j) = .inl (cy 0, 8, .inl (fun _ => 0)) := fun j hj => by rw [hue_447 _ (flt 35 4 71 hj (by decide)) (fne 35 4 70 hj (by decide))]; exact hva_446 j hj
  have hvb_447 : ∀ j, j < 9 → en_447 (36 + 4 * j) = .inl (cy 0, 8, .inl (fun _ => 0)) := fun j hj => by rw [hue_447 _ (flt 36 4 71 hj (by decide)) (fne 36 4 70 hj (by decide))]; exact hvb_446 j hj
  have hvc_447 : ∀ j, j < 9 → en_447 (37 + 4 * j) = .inl (cy 0, 8, .inl (fun _ => 0)) := fun j hj => by rw [hue_447 _ (flt 37 4 71 hj (by decide)) (fne 37 4 70 hj (by decide))]; exact hvc_446 j hj
  have h1K : en_447 1 = .inr (7, [.ref (ad_447 2), .ref (ad_447 3), .ref (ad_447 10), .ref (ad_447 11), .int 0, .int 2, .int 0]) := by rw [he2a_447, he3a_447, he10a_447, he11a_447]; exact e1_447
  have h12K : en_447 12 = .inr (2, [.ref (ad_447 1), .ref (ad_447 13), .ref (ad_447 14), .ref (ad_447 24), .ref (ad_447 33), .int 0]) := by rw [show ad_447 1 = ad_444 1 from by rw [hda_447 _ (by omega), had_446, va_up_ne _ _ (by omega)], he13a_447, he14a_447, he24a_447, he33a_447]; exact e12_447
  have ha1K : ad_447 1 = q_440 := he1a_447
  have ha12K : ad_447 12 = q_443 := he12a_447
  have ha70K : ad_447 70 = q_446 := he70a_447
  obtain ⟨eK, heK⟩ : ∃ z, z = en_447 := ⟨_, rfl⟩
  have hsn_447 : ∀ j, j < 73 → en_447 (1 + 1 * j) = eK (1 + 1 * j) := fun _ _ => by rw [heK]
  clear et_446 heta_446 e1_446 he1a_446 e10_446 he10a_446 e2_446 he2a_446 e3_446 he3a_446 e11_446 he11a_446 e12_446 he12a_446 e13_446 he13a_446 e14_446 he14a_446 e24_446 he24a_446 e33_446 he33a_446 hrw_446 hwy_446 hpf_446 hv_446 hva_446 hvb_446 hvc_446 e70_446 he70a_446 e1_447 he1a_447 he10a_447 he2a_447 he3a_447 he11a_447 e12_447 he12a_447 he13a_447 he14a_447 he24a_447 he33a_447 he70a_447
  refine W.widen (k := 73) (n := 630) (Nat.le_refl _) (Nat.le_refl _) ?_
  refine hp_putF hx hb hts ix11 tyX11 tyX11_ok nmX11 hown hK hh (q := 0) heta_447 (List.mem_range.mpr (by decide)) et_447 rfl 2 (by decide) (hts _ tw_247) (fun _ h9 => h9) rfl hin rfl (ty := (.object "AnyOrder$Closure")) (by decide +kernel) rfl rfl (Nat.le_of_ble_eq_true rfl) dX11_init_42 (fun H locs en_448 hen_448 hh => ?_)
  have hsn_448 : ∀ j, j < 73 → en_448 (1 + 1 * j) = eK (1 + 1 * j) := fun j hj => by rw [hen_448, va_up_ne _ _ (fne2 1 1 0 (by decide))]; exact hsn_447 j hj
  have et_448 : en_448 0 = .inr (10, [.ref q_440, .ref q_443, .ref q_446, .null, .null, .null, .int 0, .int 0]) := by rw [hen_448]; exact va_up_self _ _ _
  clear et_447 hsn_447
  refine lv_aload_n hx hb dX11_init_45 rfl (lv_at hl 0 rfl) ?_
  refine lv_bipush (v := 10) hx hb dX11_init_46 (by decide) ?_
  refine hq_newq hx hb hown (hts _ tw_191) hX.2.2.1 hK hh hA 5 rfl (N' := 10) (by decide) (by decide) (by decide) (Nat.le_of_ble_eq_true rfl) (Nat.le_of_ble_eq_true rfl) dX11_init_48 (fun q_449 H ad_449 en_449 had_449 hen_449 hh => ?_)
  have hh : Hp D A A s.heap H _ (List.range 75) ad_449 en_449 := hh
  have et_449 : en_449 0 = .inr (10, [.ref q_440, .ref q_443, .ref q_446, .null, .null, .null, .int 0, .int 0]) := by rw [hen_449, va_up_ne _ _ (by decide)]; exact et_448
  have heta_449 : ad_449 0 = (ad 0) := by rw [had_449, va_up_ne _ _ (by decide)]; exact heta_447
  have hex1a_449 : ad_449 1 = q_440 := by rw [had_449, va_up_ne _ _ (by decide)]; exact ha1K
  have hex12a_449 : ad_449 12 = q_443 := by rw [had_449, va_up_ne _ _ (by decide)]; exact ha12K
  have hex70a_449 : ad_449 70 = q_446 := by rw [had_449, va_up_ne _ _ (by decide)]; exact ha70K
  have hsn_449 : ∀ j, j < 73 → en_449 (1 + 1 * j) = eK (1 + 1 * j) := fun j hj => by rw [hen_449, va_up_ne _ _ (fne 1 1 74 hj (by decide))]; exact hsn_448 j hj
  have e74_449 : en_449 74 = .inl (cy 5, 10, .inr (.inr (.inr (.inr (fun _ => none))))) := by rw [hen_449]; exact va_up_self _ _ _
  have he74a_449 : ad_449 74 = q_449 := by rw [had_449]; exact va_up_self _ _ _
  clear heta_447 ha1K ha12K ha70K hsn_448 et_448
  refine W.widen (k := 74) (n := 640) (Nat.le_refl _) (Nat.le_refl _) ?_
  refine hp_putF hx hb hts ix11 tyX11 tyX11_ok nmX11 hown hK hh (q := 0) heta_449 (List.mem_range.mpr (by decide)) et_449 rfl 3 (by decide) (hts _ tw_248) (fun _ h9 => h9) rfl hin rfl (ty := (.array (.object "AnyOrder$Word"))) (by decide +kernel) rfl rfl (Nat.le_of_ble_eq_true rfl) dX11_init_51 (fun H locs en_450 hen_450 hh => ?_)
  have e74_450 : en_450 74 = .inl (cy 5, 10, .inr (.inr (.inr (.inr (fun _ => none))))) := by rw [hen_450, va_up_ne _ _ (by decide)]; exact e74_449
  have hsn_450 : ∀ j, j < 73 → en_450 (1 + 1 * j) = eK (1 + 1 * j) := fun j hj => by rw [hen_450, va_up_ne _ _ (fne2 1 1 0 (by decide))]; exact hsn_449 j hj
  have et_450 : en_450 0 = .inr (10, [.ref q_440, .ref q_443, .ref q_446, .ref q_449, .null, .null, .int 0, .int 0]) := by rw [hen_450]; exact va_up_self _ _ _
  clear et_449 hsn_449 e74_449
  refine lv_aload_n hx hb dX11_init_54 rfl (lv_at hl 0 rfl) ?_
  refine lv_iconst (v := 4) hx hb dX11_init_55 (by decide) ?_
  refine hq_newq hx hb hown (hts _ tw_193) hX.2.2.2.1 hK hh hA 6 rfl (N' := 4) (by decide) (by decide) (by decide) (Nat.le_of_ble_eq_true rfl) (Nat.le_of_ble_eq_true rfl) dX11_init_56 (fun q_451 H ad_451 en_451 had_451 hen_451 hh => ?_)
  have hh : Hp D A A s.heap H _ (List.range 76) ad_451 en_451 := hh
  have et_451 : en_451 0 = .inr (10, [.ref q_440, .ref q_443, .ref q_446, .ref q_449, .null, .null, .int 0, .int 0]) := by rw [hen_451, va_up_ne _ _ (by decide)]; exact et_450
  have heta_451 : ad_451 0 = (ad 0) := by rw [had_451, va_up_ne _ _ (by decide)]; exact heta_449
  have hex1a_451 : ad_451 1 = q_440 := by rw [had_451, va_up_ne _ _ (by decide)]; exact hex1a_449
  have hex12a_451 : ad_451 12 = q_443 := by rw [had_451, va_up_ne _ _ (by decide)]; exact hex12a_449
  have hex70a_451 : ad_451 70 = q_446 := by rw [had_451, va_up_ne _ _ (by decide)]; exact hex70a_449
  have e74_451 : en_451 74 = .inl (cy 5, 10, .inr (.inr (.inr (.inr (fun _ => none))))) := by rw [hen_451, va_up_ne _ _ (by decide)]; exact e74_450
  have he74a_451 : ad_451 74 = q_449 := by rw [had_451, va_up_ne _ _ (by decide)]; exact he74a_449
  have hsn_451 : ∀ j, j < 73 → en_451 (1 + 1 * j) = eK (1 + 1 * j) := fun j hj => by rw [hen_451, va_up_ne _ _ (fne 1 1 75 hj (by decide))]; exact hsn_450 j hj
  have e75_451 : en_451 75 = .inl (cy 6, 4, .inr (.inr (.inr (.inr (fun _ => none))))) := by rw [hen_451]; exact va_up_self _ _ _
  have he75a_451 : ad_451 75 = q_451 := by rw [had_451]; exact va_up_self _ _ _
  clear heta_449 hex1a_449 hex12a_449 hex70a_449 he74a_449 e74_450 hsn_450 et_450
  refine W.widen (k := 75) (n := 644) (Nat.le_refl _) (Nat.le_refl _) ?_
  refine hp_putF hx hb hts ix11 tyX11 tyX11_ok nmX11 hown hK hh (q := 0) heta_451 (List.mem_range.mpr (by decide)) et_451 rfl 4 (by decide) (hts _ tw_249) (fun _ h9 => h9) rfl hin rfl (ty := (.array (.object "AnyOrder$Sheet"))) (by decide +kernel) rfl rfl (Nat.le_of_ble_eq_true rfl) dX11_init_59 (fun H locs en_452 hen_452 hh => ?_)
  have e74_452 : en_452 74 = .inl (cy 5, 10, .inr (.inr (.inr (.inr (fun _ => none))))) := by rw [hen_452, va_up_ne _ _ (by decide)]; exact e74_451
  have e75_452 : en_452 75 = .inl (cy 6, 4, .inr (.inr (.inr (.inr (fun _ => none))))) := by rw [hen_452, va_up_ne _ _ (by decide)]; exact e75_451
  have hsn_452 : ∀ j, j < 73 → en_452 (1 + 1 * j) = eK (1 + 1 * j) := fun j hj => by rw [hen_452, va_up_ne _ _ (fne2 1 1 0 (by decide))]; exact hsn_451 j hj
  have et_452 : en_452 0 = .inr (10, [.ref q_440, .ref q_443, .ref q_446, .ref q_449, .ref q_451, .null, .int 0, .int 0]) := by rw [hen_452]; exact va_up_self _ _ _
  clear et_451 e74_451 hsn_451 e75_451
  refine lv_aload_n hx hb dX11_init_62 rfl (lv_at hl 0 rfl) ?_
  refine hq_new (ci := 8) (fs := [.int 0]) hx hb hts ix9 tyX9 tyX9_ok hown (hts _ tw_195) (hts _ tw_196) (hts _ tw_6) hK hh hA rfl (fun j hj => by rcases (show j = 0 by omega) with rfl <;> rfl) (Nat.le_of_ble_eq_true rfl) (Nat.le_of_ble_eq_true rfl) dX11_init_63 (fun q_453 H ad_453 en_453 had_453 hen_453 hh => ?_)
  have hh : Hp D A A s.heap H _ (List.range 77) ad_453 en_453 := hh
  have et_453 : en_453 0 = .inr (10, [.ref q_440, .ref q_443, .ref q_446, .ref q_449, .ref q_451, .null, .int 0, .int 0]) := by rw [hen_453, va_up_ne _ _ (by decide)]; exact et_452
  have heta_453 : ad_453 0 = (ad 0) := by rw [had_453, va_up_ne _ _ (by decide)]; exact heta_451
  have hex1a_453 : ad_453 1 = q_440 := by rw [had_453, va_up_ne _ _ (by decide)]; exact hex1a_451
  have hex12a_453 : ad_453 12 = q_443 := by rw [had_453, va_up_ne _ _ (by decide)]; exact hex12a_451
  have hex70a_453 : ad_453 70 = q_446 := by rw [had_453, va_up_ne _ _ (by decide)]; exact hex70a_451
  have e74_453 : en_453 74 = .inl (cy 5, 10, .inr (.inr (.inr (.inr (fun _ => none))))) := by rw [hen_453, va_up_ne _ _ (by decide)]; exact e74_452
  have he74a_453 : ad_453 74 = q_449 := by rw [had_453, va_up_ne _ _ (by decide)]; exact he74a_451
  have e75_453 : en_453 75 = .inl (cy 6, 4, .inr (.inr (.inr (.inr (fun _ => none))))) := by rw [hen_453, va_up_ne _ _ (by decide)]; exact e75_452
  have he75a_453 : ad_453 75 = q_451 := by rw [had_453, va_up_ne _ _ (by decide)]; exact he75a_451
  have hsn_453 : ∀ j, j < 73 → en_453 (1 + 1 * j) = eK (1 + 1 * j) := fun j hj => by rw [hen_453, va_up_ne _ _ (fne 1 1 76 hj (by decide))]; exact hsn_452 j hj
  have e76_453 : en_453 76 = .inr (8, [.int 0]) := by rw [hen_453]; exact va_up_self _ _ _
  have he76a_453 : ad_453 76 = q_453 := by rw [had_453]; exact va_up_self _ _ _
  clear heta_451 hex1a_451 hex12a_451 hex70a_451 he74a_451 he75a_451 e74_452 e75_452 hsn_452 et_452
  refine W.widen (k := 76) (n := 645) (Nat.le_refl _) (Nat.le_refl _) ?_
  refine lv_dup hx hb dX11_init_66 rfl ?_
  refine W.eq (g2 := F0 m 67 ls [.ref (ad_453 76), .ref q_453, .ref (ad 0)]) (by rw [he76a_453]) ?_
  refine hq_callC (va_runIN (As := []) (rest := [.ref q_453, .ref (ad 0)]) ⟨hx, hb, hml, hown, hts⟩ (c_X9_init l D cy _ ad_453 en_453 77 76 (by decide) e76_453) (kw_X9_init hts hX.2.2.2.2.2.2.2.1 ⟨by decide, by decide⟩) (preC_of hh hK hX) rfl rfl hl.1 rfl (lv_room (Nat.le_of_ble_eq_true rfl)) dX11_init_67 ⟨Nat.le_of_ble_eq_true rfl, Nat.le_of_ble_eq_true rfl⟩) hh hA (fun H locs ad_454 en_454 hw_454 hh => ?_)
  have hh : Hp D A A s.heap H _ (List.range 77) ad_454 en_454 := hh
  obtain ⟨hda_454, hue_454, ew_454⟩ := hw_454
  dsimp only at hda_454 hue_454 ew_454
  have et_454 : en_454 0 = .inr (10, [.ref q_440, .ref q_443, .ref q_446, .ref q_449, .ref q_451, .null, .int 0, .int 0]) := by rw [hue_454 _ (by decide) (by decide)]; exact et_453
  have heta_454 : ad_454 0 = (ad 0) := by rw [hda_454 _ (by decide)]; exact heta_453
  have hex1a_454 : ad_454 1 = q_440 := by rw [hda_454 _ (by decide)]; exact hex1a_453
  have hex12a_454 : ad_454 12 = q_443 := by rw [hda_454 _ (by decide)]; exact hex12a_453
  have hex70a_454 : ad_454 70 = q_446 := by rw [hda_454 _ (by decide)]; exact hex70a_453
  have e74_454 : en_454 74 = .inl (cy 5, 10, .inr (.inr (.inr (.inr (fun _ => none))))) := by rw [hue_454 _ (by decide) (by decide)]; exact e74_453
  have he74a_454 : ad_454 74 = q_449 := by rw [hda_454 _ (by decide)]; exact he74a_453
  have e75_454 : en_454 75 = .inl (cy 6, 4, .inr (.inr (.inr (.inr (fun _ => none))))) := by rw [hue_454 _ (by decide) (by decide)]; exact e75_453
  have he75a_454 : ad_454 75 = q_451 := by rw [hda_454 _ (by decide)]; exact he75a_453
  have he76a_454 : ad_454 76 = q_453 := by rw [hda_454 _ (by decide)]; exact he76a_453
  have hsn_454 : ∀ j, j < 73 → en_454 (1 + 1 * j) = eK (1 + 1 * j) := fun j hj => by rw [hue_454 _ (flt 1 1 77 hj (by decide)) (fne 1 1 76 hj (by decide))]; exact hsn_453 j hj
  have ew76_454 := ew_454
  clear et_453 heta_453 hex1a_453 hex12a_453 hex70a_453 e74_453 he74a_453 e75_453 he75a_453 hsn_453 e76_453 he76a_453
  refine W.widen (k := 76) (n := 645) (Nat.le_refl _) (Nat.le_refl _) ?_
  refine hp_putF hx hb hts ix11 tyX11 tyX11_ok nmX11 hown hK hh (q := 0) heta_454 (List.mem_range.mpr (by decide)) et_454 rfl 5 (by decide) (hts _ tw_250) (fun _ h9 => h9) rfl hin rfl (ty := (.object "AnyOrder$Trail")) (by decide +kernel) rfl rfl (Nat.le_of_ble_eq_true rfl) dX11_init_70 (fun H locs en_455 hen_455 hh => ?_)
  have e74_455 : en_455 74 = .inl (cy 5, 10, .inr (.inr (.inr (.inr (fun _ => none))))) := by rw [hen_455, va_up_ne _ _ (by decide)]; exact e74_454
  have e75_455 : en_455 75 = .inl (cy 6, 4, .inr (.inr (.inr (.inr (fun _ => none))))) := by rw [hen_455, va_up_ne _ _ (by decide)]; exact e75_454
  have ew76_455 : en_455 76 = .inr (8, [.int 0]) := by rw [hen_455, va_up_ne _ _ (by decide)]; exact ew76_454
  have hsn_455 : ∀ j, j < 73 → en_455 (1 + 1 * j) = eK (1 + 1 * j) := fun j hj => by rw [hen_455, va_up_ne _ _ (fne2 1 1 0 (by decide))]; exact hsn_454 j hj
  have et_455 : en_455 0 = .inr (10, [.ref q_440, .ref q_443, .ref q_446, .ref q_449, .ref q_451, .ref q_453, .int 0, .int 0]) := by rw [hen_455]; exact va_up_self _ _ _
  clear et_454 e74_454 e75_454 hsn_454
  refine lv_iconst (v := 0) hx hb dX11_init_73 (by decide) ?_
  refine lv_istore_n (lv' := [(1, .int 0), (0, .ref (ad 0))]) hx hb dX11_init_74 rfl hl (by decide) rfl (fun ls hl => ?_)
  refine lv_iload_n hx hb dX11_init_75 rfl (lv_at hl 0 rfl) ?_
  refine lv_bipush (v := 10) hx hb dX11_init_76 (by decide) ?_
  refine lv_icmp_ge (tgt := 100) hx hb dX11_init_78 (by decide) (fun c_0 => absurd c_0 (by decide)) (fun _ => ?_)
  refine lv_aload_n hx hb dX11_init_81 rfl (lv_at hl 1 rfl) ?_
  refine hp_get hx hb hts ix11 hown hK hh (q := 0) heta_454 (List.mem_range.mpr (by decide)) et_455 rfl 3 (by decide) (hts _ tw_248) (fun _ h9 => h9) rfl dX11_init_82 ?_
  refine lv_iload_n hx hb dX11_init_85 rfl (lv_at hl 0 rfl) ?_
  refine hq_new (ci := 9) (fs := [.null, .null, .int 0]) hx hb hts ix10 tyX10 tyX10_ok hown (hts _ tw_191) (hts _ tw_206) (hts _ tw_7) hK hh hA rfl (fun j hj => by rcases (show j = 0 ∨ j = 1 ∨ j = 2 by omega) with rfl | rfl | rfl <;> rfl) (Nat.le_of_ble_eq_true rfl) (Nat.le_of_ble_eq_true rfl) dX11_init_86 (fun q_456 H ad_456 en_456 had_456 hen_456 hh => ?_)
  have hh : Hp D A A s.heap H _ (List.range 78) ad_456 en_456 := hh
  have et_456 : en_456 0 = .inr (10, [.ref q_440, .ref q_443, .ref q_446, .ref q_449, .ref q_451, .ref q_453, .int 0, .int 0]) := by rw [hen_456, va_up_ne _ _ (by decide)]; exact et_455
  have heta_456 : ad_456 0 = (ad 0) := by rw [had_456, va_up_ne _ _ (by decide)]; exact heta_454
  have hex1a_456 : ad_456 1 = q_440 := by rw [had_456, va_up_ne _ _ (by decide)]; exact hex1a_454
  have hex12a_456 : ad_456 12 = q_443 := by rw [had_456, va_up_ne _ _ (by decide)]; exact hex12a_454
  have hex70a_456 : ad_456 70 = q_446 := by rw [had_456, va_up_ne _ _ (by decide)]; exact hex70a_454
  have e74_456 : en_456 74 = .inl (cy 5, 10, .inr (.inr (.inr (.inr (fun _ => none))))) := by rw [hen_456, va_up_ne _ _ (by decide)]; exact e74_455
  have he74a_456 : ad_456 74 = q_449 := by rw [had_456, va_up_ne _ _ (by decide)]; exact he74a_454
  have e75_456 : en_456 75 = .inl (cy 6, 4, .inr (.inr (.inr (.inr (fun _ => none))))) := by rw [hen_456, va_up_ne _ _ (by decide)]; exact e75_455
  have he75a_456 : ad_456 75 = q_451 := by rw [had_456, va_up_ne _ _ (by decide)]; exact he75a_454
  have ew76_456 : en_456 76 = .inr (8, [.int 0]) := by rw [hen_456, va_up_ne _ _ (by decide)]; exact ew76_455
  have hew76a_456 : ad_456 76 = q_453 := by rw [had_456, va_up_ne _ _ (by decide)]; exact he76a_454
  have hsn_456 : ∀ j, j < 73 → en_456 (1 + 1 * j) = eK (1 + 1 * j) := fun j hj => by rw [hen_456, va_up_ne _ _ (fne 1 1 77 hj (by decide))]; exact hsn_455 j hj
  have e77_456 : en_456 77 = .inr (9, [.null, .null, .int 0]) := by rw [hen_456]; exact va_up_self _ _ _
  have he77a_456 : ad_456 77 = q_456 := by rw [had_456]; exact va_up_self _ _ _
  clear heta_454 hex1a_454 hex12a_454 hex70a_454 he74a_454 he75a_454 he76a_454 e74_455 e75_455 ew76_455 hsn_455 et_455
  refine W.widen (k := 77) (n := 648) (Nat.le_refl _) (Nat.le_refl _) ?_
  refine lv_dup hx hb dX11_init_89 rfl ?_
  refine W.eq (g2 := F0 m 90 ls [.ref (ad_456 77), .ref q_456, .int 0, .ref q_449]) (by rw [he77a_456]) ?_
  refine hq_callC (va_runIN (As := []) (rest := [.ref q_456, .int 0, .ref q_449]) ⟨hx, hb, hml, hown, hts⟩ (c_X10_init l D cy _ ad_456 en_456 78 77 (by decide) e77_456) (kw_X10_init hts hX.2.2.2.2.2.2.2.2.1 ⟨by decide, by decide⟩) (preC_of hh hK hX) rfl rfl hl.1 rfl (lv_room (Nat.le_of_ble_eq_true rfl)) dX11_init_90 ⟨Nat.le_of_ble_eq_true rfl, Nat.le_of_ble_eq_true rfl⟩) hh hA (fun H locs ad_457 en_457 hw_457 hh => ?_)
  have hh : Hp D A A s.heap H _ (List.range 80) ad_457 en_457 := hh
  obtain ⟨hda_457, hue_457, ew_457, ewa_457, ewb_457⟩ := hw_457
  dsimp only at hda_457 hue_457 ew_457 ewa_457 ewb_457
  have et_457 : en_457 0 = .inr (10, [.ref q_440, .ref q_443, .ref q_446, .ref q_449, .ref q_451, .ref q_453, .int 0, .int 0]) := by rw [hue_457 _ (by decide) (by decide)]; exact et_456
  have heta_457 : ad_457 0 = (ad 0) := by rw [hda_457 _ (by decide)]; exact heta_456
  have hex1a_457 : ad_457 1 = q_440 := by rw [hda_457 _ (by decide)]; exact hex1a_456
  have hex12a_457 : ad_457 12 = q_443 := by rw [hda_457 _ (by decide)]; exact hex12a_456
  have hex70a_457 : ad_457 70 = q_446 := by rw [hda_457 _ (by decide)]; exact hex70a_456
  have e74_457 : en_457 74 = .inl (cy 5, 10, .inr (.inr (.inr (.inr (fun _ => none))))) := by rw [hue_457 _ (by decide) (by decide)]; exact e74_456
  have he74a_457 : ad_457 74 = q_449 := by rw [hda_457 _ (by decide)]; exact he74a_456
  have e75_457 : en_457 75 = .inl (cy 6, 4, .inr (.inr (.inr (.inr (fun _ => none))))) := by rw [hue_457 _ (by decide) (by decide)]; exact e75_456
  have he75a_457 : ad_457 75 = q_451 := by rw [hda_457 _ (by decide)]; exact he75a_456
  have ew76_457 : en_457 76 = .inr (8, [.int 0]) := by rw [hue_457 _ (by decide) (by decide)]; exact ew76_456
  have hew76a_457 : ad_457 76 = q_453 := by rw [hda_457 _ (by decide)]; exact hew76a_456
  have he77a_457 : ad_457 77 = q_456 := by rw [hda_457 _ (by decide)]; exact he77a_456
  have hsn_457 : ∀ j, j < 73 → en_457 (1 + 1 * j) = eK (1 + 1 * j) := fun j hj => by rw [hue_457 _ (flt 1 1 78 hj (by decide)) (fne 1 1 77 hj (by decide))]; exact hsn_456 j hj
  have ew77_457 := ew_457
  have hwo_458 : ∀ j, j < 1 → en_457 (77 + 3 * j) = .inr (9, [.ref (ad_457 (78 + 3 * j)), .ref (ad_457 (79 + 3 * j)), .int 0]) := fun j hj => by have e0 : j = 0 := (by omega); subst e0; exact ew_457
  have hwl_459 : ∀ j, j < 1 → en_457 (78 + 3 * j) = .inl (cy 0, 12, .inl (fun _ => 0)) := fun j hj => by have e0 : j = 0 := (by omega); subst e0; exact ewa_457
  have hwr_460 : ∀ j, j < 1 → en_457 (79 + 3 * j) = .inl (cy 1, 9, .inr (.inl (fun _ => 0))) := fun j hj => by have e0 : j = 0 := (by omega); subst e0; exact ewb_457
  clear et_456 heta_456 hex1a_456 hex12a_456 hex70a_456 e74_456 he74a_456 e75_456 he75a_456 ew76_456 hew76a_456 hsn_456 e77_456 he77a_456
  refine W.widen (k := 79) (n := 669) (Nat.le_refl _) (Nat.le_refl _) ?_
  refine hp_astq hx hb hK hh (q := 74) (v := 77) he74a_457 (List.mem_range.mpr (by decide)) he77a_457 (List.mem_range.mpr (by decide)) e74_457 ew77_457 rfl rfl (vp_in_iff.mpr (by decide)) dX11_init_93 (fun H locs en_461 hen_461 hh => ?_)
  have et_461 : en_461 0 = .inr (10, [.ref q_440, .ref q_443, .ref q_446, .ref q_449, .ref q_451, .ref q_453, .int 0, .int 0]) := by rw [hen_461, va_up_ne _ _ (by decide)]; exact et_457
  have e75_461 : en_461 75 = .inl (cy 6, 4, .inr (.inr (.inr (.inr (fun _ => none))))) := by rw [hen_461, va_up_ne _ _ (by decide)]; exact e75_457
  have ew76_461 : en_461 76 = .inr (8, [.int 0]) := by rw [hen_461, va_up_ne _ _ (by decide)]; exact ew76_457
  have ew77_461 : en_461 77 = .inr (9, [.ref (ad_457 78), .ref (ad_457 79), .int 0]) := by rw [hen_461, va_up_ne _ _ (by decide)]; exact ew77_457
  have hsn_461 : ∀ j, j < 73 → en_461 (1 + 1 * j) = eK (1 + 1 * j) := fun j hj => by rw [hen_461, va_up_ne _ _ (fne 1 1 74 hj (by decide))]; exact hsn_457 j hj
  have hwo_461 : ∀ j, j < 1 → en_461 (77 + 3 * j) = .inr (9, [.ref (ad_457 (78 + 3 * j)), .ref (ad_457 (79 + 3 * j)), .int 0]) := fun j hj => by rw [hen_461, va_up_ne _ _ (fne2 77 3 74 (by decide))]; exact hwo_458 j hj
  have hwl_461 : ∀ j, j < 1 → en_461 (78 + 3 * j) = .inl (cy 0, 12, .inl (fun _ => 0)) := fun j hj => by rw [hen_461, va_up_ne _ _ (fne2 78 3 74 (by decide))]; exact hwl_459 j hj
  have hwr_461 : ∀ j, j < 1 → en_461 (79 + 3 * j) = .inl (cy 1, 9, .inr (.inl (fun _ => 0))) := fun j hj => by rw [hen_461, va_up_ne _ _ (fne2 79 3 74 (by decide))]; exact hwr_460 j hj
  have e74_461 : en_461 74 = .inl (cy 5, 10, .inr (.inr (.inr (.inr (va_up (fun _ => none) (0 : Int32).toNatClampNeg (some q_456)))))) := by rw [hen_461]; exact va_up_self _ _ _
  clear et_457 e74_457 e75_457 ew76_457 hsn_457 hwo_458 hwl_459 hwr_460 ew77_461
  refine lv_iinc (v := 1) (lv' := [(1, .int 1), (0, .ref (ad 0))]) hx hb dX11_init_94 hl (k := 0) rfl (by decide) (by decide) rfl (fun ls hl => ?_)
  refine lv_goto (tgt := 75) hx hb dX11_init_97 (by decide) ?_
  refine lv_iload_n hx hb dX11_init_75 rfl (lv_at hl 0 rfl) ?_
  refine lv_bipush (v := 10) hx hb dX11_init_76 (by decide) ?_
  refine lv_icmp_ge (tgt := 100) hx hb dX11_init_78 (by decide) (fun c_0 => absurd c_0 (by decide)) (fun _ => ?_)
  refine lv_aload_n hx hb dX11_init_81 rfl (lv_at hl 1 rfl) ?_
  refine hp_get hx hb hts ix11 hown hK hh (q := 0) heta_457 (List.mem_range.mpr (by decide)) et_461 rfl 3 (by decide) (hts _ tw_248) (fun _ h9 => h9) rfl dX11_init_82 ?_
  refine lv_iload_n hx hb dX11_init_85 rfl (lv_at hl 0 rfl) ?_
  refine hq_new (ci := 9) (fs := [.null, .null, .int 0]) hx hb hts ix10 tyX10 tyX10_ok hown (hts _ tw_191) (hts _ tw_206) (hts _ tw_7) hK hh hA rfl (fun j hj => by rcases (show j = 0 ∨ j = 1 ∨ j = 2 by omega) with rfl | rfl | rfl <;> rfl) (Nat.le_of_ble_eq_true rfl) (Nat.le_of_ble_eq_true rfl) dX11_init_86 (fun q_462 H ad_462 en_462 had_462 hen_462 hh => ?_)
  have hh : Hp D A A s.heap H _ (List.range 81) ad_462 en_462 := hh
  have et_462 : en_462 0 = .inr (10, [.ref q_440, .ref q_443, .ref q_446, .ref q_449, .ref q_451, .ref q_453, .int 0, .int 0]) := by rw [hen_462, va_up_ne _ _ (by decide)]; exact et_461
  have heta_462 : ad_462 0 = (ad 0) := by rw [had_462, va_up_ne _ _ (by decide)]; exact heta_457
  have hex1a_462 : ad_462 1 = q_440 := by rw [had_462, va_up_ne _ _ (by decide)]; exact hex1a_457
  have hex12a_462 : ad_462 12 = q_443 := by rw [had_462, va_up_ne _ _ (by decide)]; exact hex12a_457
  have hex70a_462 : ad_462 70 = q_446 := by rw [had_462, va_up_ne _ _ (by decide)]; exact hex70a_457
  have e74_462 : en_462 74 = .inl (cy 5, 10, .inr (.inr (.inr (.inr (va_up (fun _ => none) (0 : Int32).toNatClampNeg (some q_456)))))) := by rw [hen_462, va_up_ne _ _ (by decide)]; exact e74_461
  have he74a_462 : ad_462 74 = q_449 := by rw [had_462, va_up_ne _ _ (by decide)]; exact he74a_457
  have e75_462 : en_462 75 = .inl (cy 6, 4, .inr (.inr (.inr (.inr (fun _ => none))))) := by rw [hen_462, va_up_ne _ _ (by decide)]; exact e75_461
  have he75a_462 : ad_462 75 = q_451 := by rw [had_462, va_up_ne _ _ (by decide)]; exact he75a_457
  have ew76_462 : en_462 76 = .inr (8, [.int 0]) := by rw [hen_462, va_up_ne _ _ (by decide)]; exact ew76_461
  have hew76a_462 : ad_462 76 = q_453 := by rw [had_462, va_up_ne _ _ (by decide)]; exact hew76a_457
  have hew77a_462 : ad_462 77 = q_456 := by rw [had_462, va_up_ne _ _ (by decide)]; exact he77a_457
  have hsn_462 : ∀ j, j < 73 → en_462 (1 + 1 * j) = eK (1 + 1 * j) := fun j hj => by rw [hen_462, va_up_ne _ _ (fne 1 1 80 hj (by decide))]; exact hsn_461 j hj
  have hwo_462 : ∀ j, j < 1 → en_462 (77 + 3 * j) = .inr (9, [.ref (ad_462 (78 + 3 * j)), .ref (ad_462 (79 + 3 * j)), .int 0]) := fun j hj => by rw [hen_462, va_up_ne _ _ (fne 77 3 80 hj (by decide)), had_462, va_up_ne _ _ (fne 78 3 80 hj (by decide)), va_up_ne _ _ (fne 79 3 80 hj (by decide))]; exact hwo_461 j hj
  have hwl_462 : ∀ j, j < 1 → en_462 (78 + 3 * j) = .inl (cy 0, 12, .inl (fun _ => 0)) := fun j hj => by rw [hen_462, va_up_ne _ _ (fne 78 3 80 hj (by decide))]; exact hwl_461 j hj
  have hwr_462 : ∀ j, j < 1 → en_462 (79 + 3 * j) = .inl (cy 1, 9, .inr (.inl (fun _ => 0))) := fun j hj => by rw [hen_462, va_up_ne _ _ (fne 79 3 80 hj (by decide))]; exact hwr_461 j hj
  have e80_462 : en_462 80 = .inr (9, [.null, .null, .int 0]) := by rw [hen_462]; exact va_up_self _ _ _
  have he80a_462 : ad_462 80 = q_462 := by rw [had_462]; exact va_up_self _ _ _
  clear heta_457 hex1a_457 hex12a_457 hex70a_457 he74a_457 he75a_457 hew76a_457 he77a_457 et_461 e75_461 ew76_461 hsn_461 hwo_461 hwl_461 hwr_461 e74_461
  refine W.widen (k := 80) (n := 672) (Nat.le_refl _) (Nat.le_refl _) ?_
  refine lv_dup hx hb dX11_init_89 rfl ?_
  refine W.eq (g2 := F0 m 90 ls [.ref (ad_462 80), .ref q_462, .int 1, .ref q_449]) (by rw [he80a_462]) ?_
  refine hq_callC (va_runIN (As := []) (rest := [.ref q_462, .int 1, .ref q_449]) ⟨hx, hb, hml, hown, hts⟩ (c_X10_init l D cy _ ad_462 en_462 81 80 (by decide) e80_462) (kw_X10_init hts hX.2.2.2.2.2.2.2.2.1 ⟨by decide, by decide⟩) (preC_of hh hK hX) rfl rfl hl.1 rfl (lv_room (Nat.le_of_ble_eq_true rfl)) dX11_init_90 ⟨Nat.le_of_ble_eq_true rfl, Nat.le_of_ble_eq_true rfl⟩) hh hA (fun H locs ad_463 en_463 hw_463 hh => ?_)
  have hh : Hp D A A s.heap H _ (List.range 83) ad_463 en_463 := hh
  obtain ⟨hda_463, hue_463, ew_463, ewa_463, ewb_463⟩ := hw_463
  dsimp only at hda_463 hue_463 ew_463 ewa_463 ewb_463
  have et_463 : en_463 0 = .inr (10, [.ref q_440, .ref q_443, .ref q_446, .ref q_449, .ref q_451, .ref q_453, .int 0, .int 0]) := by rw [hue_463 _ (by decide) (by decide)]; exact et_462
  have heta_463 : ad_463 0 = (ad 0) := by rw [hda_463 _ (by decide)]; exact heta_462
  have hex1a_463 : ad_463 1 = q_440 := by rw [hda_463 _ (by decide)]; exact hex1a_462
  have hex12a_463 : ad_463 12 = q_443 := by rw [hda_463 _ (by decide)]; exact hex12a_462
  have hex70a_463 : ad_463 70 = q_446 := by rw [hda_463 _ (by decide)]; exact hex70a_462
  have e74_463 : en_463 74 = .inl (cy 5, 10, .inr (.inr (.inr (.inr (va_up (fun _ => none) (0 : Int32).toNatClampNeg (some q_456)))))) := by rw [hue_463 _ (by decide) (by decide)]; exact e74_462
  have he74a_463 : ad_463 74 = q_449 := by rw [hda_463 _ (by decide)]; exact he74a_462
  have e75_463 : en_463 75 = .inl (cy 6, 4, .inr (.inr (.inr (.inr (fun _ => none))))) := by rw [hue_463 _ (by decide) (by decide)]; exact e75_462
  have he75a_463 : ad_463 75 = q_451 := by rw [hda_463 _ (by decide)]; exact he75a_462
  have ew76_463 : en_463 76 = .inr (8, [.int 0]) := by rw [hue_463 _ (by decide) (by decide)]; exact ew76_462
  have hew76a_463 : ad_463 76 = q_453 := by rw [hda_463 _ (by decide)]; exact hew76a_462
  have hew77a_463 : ad_463 77 = q_456 := by rw [hda_463 _ (by decide)]; exact hew77a_462
  have he80a_463 : ad_463 80 = q_462 := by rw [hda_463 _ (by decide)]; exact he80a_462
  have hsn_463 : ∀ j, j < 73 → en_463 (1 + 1 * j) = eK (1 + 1 * j) := fun j hj => by rw [hue_463 _ (flt 1 1 81 hj (by decide)) (fne 1 1 80 hj (by decide))]; exact hsn_462 j hj
  have hwo_463 : ∀ j, j < 1 → en_463 (77 + 3 * j) = .inr (9, [.ref (ad_463 (78 + 3 * j)), .ref (ad_463 (79 + 3 * j)), .int 0]) := fun j hj => by rw [hue_463 _ (flt 77 3 81 hj (by decide)) (fne 77 3 80 hj (by decide)), hda_463 _ (flt 78 3 81 hj (by decide)), hda_463 _ (flt 79 3 81 hj (by decide))]; exact hwo_462 j hj
  have hwl_463 : ∀ j, j < 1 → en_463 (78 + 3 * j) = .inl (cy 0, 12, .inl (fun _ => 0)) := fun j hj => by rw [hue_463 _ (flt 78 3 81 hj (by decide)) (fne 78 3 80 hj (by decide))]; exact hwl_462 j hj
  have hwr_463 : ∀ j, j < 1 → en_463 (79 + 3 * j) = .inl (cy 1, 9, .inr (.inl (fun _ => 0))) := fun j hj => by rw [hue_463 _ (flt 79 3 81 hj (by decide)) (fne 79 3 80 hj (by decide))]; exact hwr_462 j hj
  have ew80_463 := ew_463
  have hwo_464 : ∀ j, j < 2 → en_463 (77 + 3 * j) = .inr (9, [.ref (ad_463 (78 + 3 * j)), .ref (ad_463 (79 + 3 * j)), .int 0]) := fun j hj => (Nat.lt_or_ge j 1).elim (fun h => hwo_463 j h) (fun h => by have e0 : j = 1 := (by omega); subst e0; exact ew_463)
  have hwl_465 : ∀ j, j < 2 → en_463 (78 + 3 * j) = .inl (cy 0, 12, .inl (fun _ => 0)) := fun j hj => (Nat.lt_or_ge j 1).elim (fun h => hwl_463 j h) (fun h => by have e0 : j = 1 := (by omega); subst e0; exact ewa_463)
  have hwr_466 : ∀ j, j < 2 → en_463 (79 + 3 * j) = .inl (cy 1, 9, .inr (.inl (fun _ => 0))) := fun j hj => (Nat.lt_or_ge j 1).elim (fun h => hwr_463 j h) (fun h => by have e0 : j = 1 := (by omega); subst e0; exact ewb_463)
  clear et_462 heta_462 hex1a_462 hex12a_462 hex70a_462 e74_462 he74a_462 e75_462 he75a_462 ew76_462 hew76a_462 hew77a_462 hsn_462 hwo_462 hwl_462 hwr_462 e80_462 he80a_462 hwo_463 hwl_463 hwr_463
  refine W.widen (k := 82) (n := 693) (Nat.le_refl _) (Nat.le_refl _) ?_
  refine hp_astq hx hb hK hh (q := 74) (v := 80) he74a_463 (List.mem_range.mpr (by decide)) he80a_463 (List.mem_range.mpr (by decide)) e74_463 ew80_463 rfl rfl (vp_in_iff.mpr (by decide)) dX11_init_93 (fun H locs en_467 hen_467 hh => ?_)
  have et_467 : en_467 0 = .inr (10, [.ref q_440, .ref q_443, .ref q_446, .ref q_449, .ref q_451, .ref q_453, .int 0, .int 0]) := by rw [hen_467, va_up_ne _ _ (by decide)]; exact et_463
  have e75_467 : en_467 75 = .inl (cy 6, 4, .inr (.inr (.inr (.inr (fun _ => none))))) := by rw [hen_467, va_up_ne _ _ (by decide)]; exact e75_463
  have ew76_467 : en_467 76 = .inr (8, [.int 0]) := by rw [hen_467, va_up_ne _ _ (by decide)]; exact ew76_463
  have ew80_467 : en_467 80 = .inr (9, [.ref (ad_463 81), .ref (ad_463 82), .int 0]) := by rw [hen_467, va_up_ne _ _ (by decide)]; exact ew80_463
  have hsn_467 : ∀ j, j < 73 → en_467 (1 + 1 * j) = eK (1 + 1 * j) := fun j hj => by rw [hen_467, va_up_ne _ _ (fne 1 1 74 hj (by decide))]; exact hsn_463 j hj
  have hwo_467 : ∀ j, j < 2 → en_467 (77 + 3 * j) = .inr (9, [.ref (ad_463 (78 + 3 * j)), .ref (ad_463 (79 + 3 * j)), .int 0]) := fun j hj => by rw [hen_467, va_up_ne _ _ (fne2 77 3 74 (by decide))]; exact hwo_464 j hj
  have hwl_467 : ∀ j, j < 2 → en_467 (78 + 3 * j) = .inl (cy 0, 12, .inl (fun _ => 0)) := fun j hj => by rw [hen_467, va_up_ne _ _ (fne2 78 3 74 (by decide))]; exact hwl_465 j hj
  have hwr_467 : ∀ j, j < 2 → en_467 (79 + 3 * j) = .inl (cy 1, 9, .inr (.inl (fun _ => 0))) := fun j hj => by rw [hen_467, va_up_ne _ _ (fne2 79 3 74 (by decide))]; exact hwr_466 j hj
  have e74_467 : en_467 74 = .inl (cy 5, 10, .inr (.inr (.inr (.inr (va_up (va_up (fun _ => none) (0 : Int32).toNatClampNeg (some q_456)) (1 : Int32).toNatClampNeg (some q_462)))))) := by rw [hen_467]; exact va_up_self _ _ _
  clear et_463 e74_463 e75_463 ew76_463 hsn_463 hwo_464 hwl_465 hwr_466 ew80_467
  refine lv_iinc (v := 2) (lv' := [(1, .int 2), (0, .ref (ad 0))]) hx hb dX11_init_94 hl (k := 0) rfl (by decide) (by decide) rfl (fun ls hl => ?_)
  refine lv_goto (tgt := 75) hx hb dX11_init_97 (by decide) ?_
  refine lv_iload_n hx hb dX11_init_75 rfl (lv_at hl 0 rfl) ?_
  refine lv_bipush (v := 10) hx hb dX11_init_76 (by decide) ?_
  refine lv_icmp_ge (tgt := 100) hx hb dX11_init_78 (by decide) (fun c_0 => absurd c_0 (by decide)) (fun _ => ?_)
  refine lv_aload_n hx hb dX11_init_81 rfl (lv_at hl 1 rfl) ?_
  refine hp_get hx hb hts ix11 hown hK hh (q := 0) heta_463 (List.mem_range.mpr (by decide)) et_467 rfl 3 (by decide) (hts _ tw_248) (fun _ h9 => h9) rfl dX11_init_82 ?_
  refine lv_iload_n hx hb dX11_init_85 rfl (lv_at hl 0 rfl) ?_
  refine hq_new (ci := 9) (fs := [.null, .null, .int 0]) hx hb hts ix10 tyX10 tyX10_ok hown (hts _ tw_191) (hts _ tw_206) (hts _ tw_7) hK hh hA rfl (fun j hj => by rcases (show j = 0 ∨ j = 1 ∨ j = 2 by omega) with rfl | rfl | rfl <;> rfl) (Nat.le_of_ble_eq_true rfl) (Nat.le_of_ble_eq_true rfl) dX11_init_86 (fun q_468 H ad_468 en_468 had_468 hen_468 hh => ?_)
  have hh : Hp D A A s.heap H _ (List.range 84) ad_468 en_468 := hh
  have et_468 : en_468 0 = .inr (10, [.ref q_440, .ref q_443, .ref q_446, .ref q_449, .ref q_451, .ref q_453, .int 0, .int 0]) := by rw [hen_468, va_up_ne _ _ (by decide)]; exact et_467
  have heta_468 : ad_468 0 = (ad 0) := by rw [had_468, va_up_ne _ _ (by decide)]; exact heta_463
  have hex1a_468 : ad_468 1 = q_440 := by rw [had_468, va_up_ne _ _ (by decide)]; exact hex1a_463
  have hex12a_468 : ad_468 12 = q_443 := by rw [had_468, va_up_ne _ _ (by decide)]; exact hex12a_463
  have hex70a_468 : ad_468 70 = q_446 := by rw [had_468, va_up_ne _ _ (by decide)]; exact hex70a_463
  have e74_468 : en_468 74 = .inl (cy 5, 10, .inr (.inr (.inr (.inr (va_up (va_up (fun _ => none) (0 : Int32).toNatClampNeg (some q_456)) (1 : Int32).toNatClampNeg (some q_462)))))) := by rw [hen_468, va_up_ne _ _ (by decide)]; exact e74_467
  have he74a_468 : ad_468 74 = q_449 := by rw [had_468, va_up_ne _ _ (by decide)]; exact he74a_463
  have e75_468 : en_468 75 = .inl (cy 6, 4, .inr (.inr (.inr (.inr (fun _ => none))))) := by rw [hen_468, va_up_ne _ _ (by decide)]; exact e75_467
  have he75a_468 : ad_468 75 = q_451 := by rw [had_468, va_up_ne _ _ (by decide)]; exact he75a_463
  have ew76_468 : en_468 76 = .inr (8, [.int 0]) := by rw [hen_468, va_up_ne _ _ (by decide)]; exact ew76_467
  have hew76a_468 : ad_468 76 = q_453 := by rw [had_468, va_up_ne _ _ (by decide)]; exact hew76a_463
  have hew77a_468 : ad_468 77 = q_456 := by rw [had_468, va_up_ne _ _ (by decide)]; exact hew77a_463
  have hew80a_468 : ad_468 80 = q_462 := by rw [had_468, va_up_ne _ _ (by decide)]; exact he80a_463
  have hsn_468 : ∀ j, j < 73 → en_468 (1 + 1 * j) = eK (1 + 1 * j) := fun j hj => by rw [hen_468, va_up_ne _ _ (fne 1 1 83 hj (by decide))]; exact hsn_467 j hj
  have hwo_468 : ∀ j, j < 2 → en_468 (77 + 3 * j) = .inr (9, [.ref (ad_468 (78 + 3 * j)), .ref (ad_468 (79 + 3 * j)), .int 0]) := fun j hj => by rw [hen_468, va_up_ne _ _ (fne 77 3 83 hj (by decide)), had_468, va_up_ne _ _ (fne 78 3 83 hj (by decide)), va_up_ne _ _ (fne 79 3 83 hj (by decide))]; exact hwo_467 j hj
  have hwl_468 : ∀ j, j < 2 → en_468 (78 + 3 * j) = .inl (cy 0, 12, .inl (fun _ => 0)) := fun j hj => by rw [hen_468, va_up_ne _ _ (fne 78 3 83 hj (by decide))]; exact hwl_467 j hj
  have hwr_468 : ∀ j, j < 2 → en_468 (79 + 3 * j) = .inl (cy 1, 9, .inr (.inl (fun _ => 0))) := fun j hj => by rw [hen_468, va_up_ne _ _ (fne 79 3 83 hj (by decide))]; exact hwr_467 j hj
  have e83_468 : en_468 83 = .inr (9, [.null, .null, .int 0]) := by rw [hen_468]; exact va_up_self _ _ _
  have he83a_468 : ad_468 83 = q_468 := by rw [had_468]; exact va_up_self _ _ _
  clear heta_463 hex1a_463 hex12a_463 hex70a_463 he74a_463 he75a_463 hew76a_463 hew77a_463 he80a_463 et_467 e75_467 ew76_467 hsn_467 hwo_467 hwl_467 hwr_467 e74_467
  refine W.widen (k := 83) (n := 696) (Nat.le_refl _) (Nat.le_refl _) ?_
  refine lv_dup hx hb dX11_init_89 rfl ?_
  refine W.eq (g2 := F0 m 90 ls [.ref (ad_468 83), .ref q_468, .int 2, .ref q_449]) (by rw [he83a_468]) ?_
  refine hq_callC (va_runIN (As := []) (rest := [.ref q_468, .int 2, .ref q_449]) ⟨hx, hb, hml, hown, hts⟩ (c_X10_init l D cy _ ad_468 en_468 84 83 (by decide) e83_468) (kw_X10_init hts hX.2.2.2.2.2.2.2.2.1 ⟨by decide, by decide⟩) (preC_of hh hK hX) rfl rfl hl.1 rfl (lv_room (Nat.le_of_ble_eq_true rfl)) dX11_init_90 ⟨Nat.le_of_ble_eq_true rfl, Nat.le_of_ble_eq_true rfl⟩) hh hA (fun H locs ad_469 en_469 hw_469 hh => ?_)
  have hh : Hp D A A s.heap H _ (List.range 86) ad_469 en_469 := hh
  obtain ⟨hda_469, hue_469, ew_469, ewa_469, ewb_469⟩ := hw_469
  dsimp only at hda_469 hue_469 ew_469 ewa_469 ewb_469
  have et_469 : en_469 0 = .inr (10, [.ref q_440, .ref q_443, .ref q_446, .ref q_449, .ref q_451, .ref q_453, .int 0, .int 0]) := by rw [hue_469 _ (by decide) (by decide)]; exact et_468
  have heta_469 : ad_469 0 = (ad 0) := by rw [hda_469 _ (by decide)]; exact heta_468
  have hex1a_469 : ad_469 1 = q_440 := by rw [hda_469 _ (by decide)]; exact hex1a_468
  have hex12a_469 : ad_469 12 = q_443 := by rw [hda_469 _ (by decide)]; exact hex12a_468
  have hex70a_469 : ad_469 70 = q_446 := by rw [hda_469 _ (by decide)]; exact hex70a_468
  have e74_469 : en_469 74 = .inl (cy 5, 10, .inr (.inr (.inr (.inr (va_up (va_up (fun _ => none) (0 : Int32).toNatClampNeg (some q_456)) (1 : Int32).toNatClampNeg (some q_462)))))) := by rw [hue_469 _ (by decide) (by decide)]; exact e74_468
  have he74a_469 : ad_469 74 = q_449 := by rw [hda_469 _ (by decide)]; exact he74a_468
  have e75_469 : en_469 75 = .inl (cy 6, 4, .inr (.inr (.inr (.inr (fun _ => none))))) := by rw [hue_469 _ (by decide) (by decide)]; exact e75_468
  have he75a_469 : ad_469 75 = q_451 := by rw [hda_469 _ (by decide)]; exact he75a_468
  have ew76_469 : en_469 76 = .inr (8, [.int 0]) := by rw [hue_469 _ (by decide) (by decide)]; exact ew76_468
  have hew76a_469 : ad_469 76 = q_453 := by rw [hda_469 _ (by decide)]; exact hew76a_468
  have hew77a_469 : ad_469 77 = q_456 := by rw [hda_469 _ (by decide)]; exact hew77a_468
  have hew80a_469 : ad_469 80 = q_462 := by rw [hda_469 _ (by decide)]; exact hew80a_468
  have he83a_469 : ad_469 83 = q_468 := by rw [hda_469 _ (by decide)]; exact he83a_468
  have hsn_469 : ∀ j, j < 73 → en_469 (1 + 1 * j) = eK (1 + 1 * j) := fun j hj => by rw [hue_469 _ (flt 1 1 84 hj (by decide)) (fne 1 1 83 hj (by decide))]; exact hsn_468 j hj
  have hwo_469 : ∀ j, j < 2 → en_469 (77 + 3 * j) = .inr (9, [.ref (ad_469 (78 + 3 * j)), .ref (ad_469 (79 + 3 * j)), .int 0]) := fun j hj => by rw [hue_469 _ (flt 77 3 84 hj (by decide)) (fne 77 3 83 hj (by decide)), hda_469 _ (flt 78 3 84 hj (by decide)), hda_469 _ (flt 79 3 84 hj (by decide))]; exact hwo_468 j hj
  have hwl_469 : ∀ j, j < 2 → en_469 (78 + 3 * j) = .inl (cy 0, 12, .inl (fun _ => 0)) := fun j hj => by rw [hue_469 _ (flt 78 3 84 hj (by decide)) (fne 78 3 83 hj (by decide))]; exact hwl_468 j hj
  have hwr_469 : ∀ j, j < 2 → en_469 (79 + 3 * j) = .inl (cy 1, 9, .inr (.inl (fun _ => 0))) := fun j hj => by rw [hue_469 _ (flt 79 3 84 hj (by decide)) (fne 79 3 83 hj (by decide))]; exact hwr_468 j hj
  have ew83_469 := ew_469
  have hwo_470 : ∀ j, j < 3 → en_469 (77 + 3 * j) = .inr (9, [.ref (ad_469 (78 + 3 * j)), .ref (ad_469 (79 + 3 * j)), .int 0]) := fun j hj => (Nat.lt_or_ge j 2).elim (fun h => hwo_469 j h) (fun h => by have e0 : j = 2 := (by omega); subst e0; exact ew_469)
  have hwl_471 : ∀ j, j < 3 → en_469 (78 + 3 * j) = .inl (cy 0, 12, .inl (fun _ => 0)) := fun j hj => (Nat.lt_or_ge j 2).elim (fun h => hwl_469 j h) (fun h => by have e0 : j = 2 := (by omega); subst e0; exact ewa_469)
  have hwr_472 : ∀ j, j < 3 → en_469 (79 + 3 * j) = .inl (cy 1, 9, .inr (.inl (fun _ => 0))) := fun j hj => (Nat.lt_or_ge j 2).elim (fun h => hwr_469 j h) (fun h => by have e0 : j = 2 := (by omega); subst e0; exact ewb_469)
  clear et_468 heta_468 hex1a_468 hex12a_468 hex70a_468 e74_468 he74a_468 e75_468 he75a_468 ew76_468 hew76a_468 hew77a_468 hew80a_468 hsn_468 hwo_468 hwl_468 hwr_468 e83_468 he83a_468 hwo_469 hwl_469 hwr_469
  refine W.widen (k := 85) (n := 717) (Nat.le_refl _) (Nat.le_refl _) ?_
  refine hp_astq hx hb hK hh (q := 74) (v := 83) he74a_469 (List.mem_range.mpr (by decide)) he83a_469 (List.mem_range.mpr (by decide)) e74_469 ew83_469 rfl rfl (vp_in_iff.mpr (by decide)) dX11_init_93 (fun H locs en_473 hen_473 hh => ?_)
  have et_473 : en_473 0 = .inr (10, [.ref q_440, .ref q_443, .ref q_446, .ref q_449, .ref q_451, .ref q_453, .int 0, .int 0]) := by rw [hen_473, va_up_ne _ _ (by decide)]; exact et_469
  have e75_473 : en_473 75 = .inl (cy 6, 4, .inr (.inr (.inr (.inr (fun _ => none))))) := by rw [hen_473, va_up_ne _ _ (by decide)]; exact e75_469
  have ew76_473 : en_473 76 = .inr (8, [.int 0]) := by rw [hen_473, va_up_ne _ _ (by decide)]; exact ew76_469
  have ew83_473 : en_473 83 = .inr (9, [.ref (ad_469 84), .ref (ad_469 85), .int 0]) := by rw [hen_473, va_up_ne _ _ (by decide)]; exact ew83_469
  have hsn_473 : ∀ j, j < 73 → en_473 (1 + 1 * j) = eK (1 + 1 * j) := fun j hj => by rw [hen_473, va_up_ne _ _ (fne 1 1 74 hj (by decide))]; exact hsn_469 j hj
  have hwo_473 : ∀ j, j < 3 → en_473 (77 + 3 * j) = .inr (9, [.ref (ad_469 (78 + 3 * j)), .ref (ad_469 (79 + 3 * j)), .int 0]) := fun j hj => by rw [hen_473, va_up_ne _ _ (fne2 77 3 74 (by decide))]; exact hwo_470 j hj
  have hwl_473 : ∀ j, j < 3 → en_473 (78 + 3 * j) = .inl (cy 0, 12, .inl (fun _ => 0)) := fun j hj => by rw [hen_473, va_up_ne _ _ (fne2 78 3 74 (by decide))]; exact hwl_471 j hj
  have hwr_473 : ∀ j, j < 3 → en_473 (79 + 3 * j) = .inl (cy 1, 9, .inr (.inl (fun _ => 0))) := fun j hj => by rw [hen_473, va_up_ne _ _ (fne2 79 3 74 (by decide))]; exact hwr_472 j hj
  have e74_473 : en_473 74 = .inl (cy 5, 10, .inr (.inr (.inr (.inr (va_up (va_up (va_up (fun _ => none) (0 : Int32).toNatClampNeg (some q_456)) (1 : Int32).toNatClampNeg (some q_462)) (2 : Int32).toNatClampNeg (some q_468)))))) := by rw [hen_473]; exact va_up_self _ _ _
  clear et_469 e74_469 e75_469 ew76_469 hsn_469 hwo_470 hwl_471 hwr_472 ew83_473
  refine lv_iinc (v := 3) (lv' := [(1, .int 3), (0, .ref (ad 0))]) hx hb dX11_init_94 hl (k := 0) rfl (by decide) (by decide) rfl (fun ls hl => ?_)
  refine lv_goto (tgt := 75) hx hb dX11_init_97 (by decide) ?_
  refine lv_iload_n hx hb dX11_init_75 rfl (lv_at hl 0 rfl) ?_
  refine lv_bipush (v := 10) hx hb dX11_init_76 (by decide) ?_
  refine lv_icmp_ge (tgt := 100) hx hb dX11_init_78 (by decide) (fun c_0 => absurd c_0 (by decide)) (fun _ => ?_)
  refine lv_aload_n hx hb dX11_init_81 rfl (lv_at hl 1 rfl) ?_
  refine hp_get hx hb hts ix11 hown hK hh (q := 0) heta_469 (List.mem_range.mpr (by decide)) et_473 rfl 3 (by decide) (hts _ tw_248) (fun _ h9 => h9) rfl dX11_init_82 ?_
  refine lv_iload_n hx hb dX11_init_85 rfl (lv_at hl 0 rfl) ?_
  refine hq_new (ci := 9) (fs := [.null, .null, .int 0]) hx hb hts ix10 tyX10 tyX10_ok hown (hts _ tw_191) (hts _ tw_206) (hts _ tw_7) hK hh hA rfl (fun j hj => by rcases (show j = 0 ∨ j = 1 ∨ j = 2 by omega) with rfl | rfl | rfl <;> rfl) (Nat.le_of_ble_eq_true rfl) (Nat.le_of_ble_eq_true rfl) dX11_init_86 (fun q_474 H ad_474 en_474 had_474 hen_474 hh => ?_)
  have hh : Hp D A A s.heap H _ (List.range 87) ad_474 en_474 := hh
  have et_474 : en_474 0 = .inr (10, [.ref q_440, .ref q_443, .ref q_446, .ref q_449, .ref q_451, .ref q_453, .int 0, .int 0]) := by rw [hen_474, va_up_ne _ _ (by decide)]; exact et_473
  have heta_474 : ad_474 0 = (ad 0) := by rw [had_474, va_up_ne _ _ (by decide)]; exact heta_469
  have hex1a_474 : ad_474 1 = q_440 := by rw [had_474, va_up_ne _ _ (by decide)]; exact hex1a_469
  have hex12a_474 : ad_474 12 = q_443 := by rw [had_474, va_up_ne _ _ (by decide)]; exact hex12a_469
  have hex70a_474 : ad_474 70 = q_446 := by rw [had_474, va_up_ne _ _ (by decide)]; exact hex70a_469
  have e74_474 : en_474 74 = .inl (cy 5, 10, .inr (.inr (.inr (.inr (va_up (va_up (va_up (fun _ => none) (0 : Int32).toNatClampNeg (some q_456)) (1 : Int32).toNatClampNeg (some q_462)) (2 : Int32).toNatClampNeg (some q_468)))))) := by rw [hen_474, va_up_ne _ _ (by decide)]; exact e74_473
  have he74a_474 : ad_474 74 = q_449 := by rw [had_474, va_up_ne _ _ (by decide)]; exact he74a_469
  have e75_474 : en_474 75 = .inl (cy 6, 4, .inr (.inr (.inr (.inr (fun _ => none))))) := by rw [hen_474, va_up_ne _ _ (by decide)]; exact e75_473
  have he75a_474 : ad_474 75 = q_451 := by rw [had_474, va_up_ne _ _ (by decide)]; exact he75a_469
  have ew76_474 : en_474 76 = .inr (8, [.int 0]) := by rw [hen_474, va_up_ne _ _ (by decide)]; exact ew76_473
  have hew76a_474 : ad_474 76 = q_453 := by rw [had_474, va_up_ne _ _ (by decide)]; exact hew76a_469
  have hew77a_474 : ad_474 77 = q_456 := by rw [had_474, va_up_ne _ _ (by decide)]; exact hew77a_469
  have hew80a_474 : ad_474 80 = q_462 := by rw [had_474, va_up_ne _ _ (by decide)]; exact hew80a_469
  have hew83a_474 : ad_474 83 = q_468 := by rw [had_474, va_up_ne _ _ (by decide)]; exact he83a_469
  have hsn_474 : ∀ j, j < 73 → en_474 (1 + 1 * j) = eK (1 + 1 * j) := fun j hj => by rw [hen_474, va_up_ne _ _ (fne 1 1 86 hj (by decide))]; exact hsn_473 j hj
  have hwo_474 : ∀ j, j < 3 → en_474 (77 + 3 * j) = .inr (9, [.ref (ad_474 (78 + 3 * j)), .ref (ad_474 (79 + 3 * j)), .int 0]) := fun j hj => by rw [hen_474, va_up_ne _ _ (fne 77 3 86 hj (by decide)), had_474, va_up_ne _ _ (fne 78 3 86 hj (by decide)), va_up_ne _ _ (fne 79 3 86 hj (by decide))]; exact hwo_473 j hj
  have hwl_474 : ∀ j, j < 3 → en_474 (78 + 3 * j) = .inl (cy 0, 12, .inl (fun _ => 0)) := fun j hj => by rw [hen_474, va_up_ne _ _ (fne 78 3 86 hj (by decide))]; exact hwl_473 j hj
  have hwr_474 : ∀ j, j < 3 → en_474 (79 + 3 * j) = .inl (cy 1, 9, .inr (.inl (fun _ => 0))) := fun j hj => by rw [hen_474, va_up_ne _ _ (fne 79 3 86 hj (by decide))]; exact hwr_473 j hj
  have e86_474 : en_474 86 = .inr (9, [.null, .null, .int 0]) := by rw [hen_474]; exact va_up_self _ _ _
  have he86a_474 : ad_474 86 = q_474 := by rw [had_474]; exact va_up_self _ _ _
  clear heta_469 hex1a_469 hex12a_469 hex70a_469 he74a_469 he75a_469 hew76a_469 hew77a_469 hew80a_469 he83a_469 et_473 e75_473 ew76_473 hsn_473 hwo_473 hwl_473 hwr_473 e74_473
  refine W.widen (k := 86) (n := 720) (Nat.le_refl _) (Nat.le_refl _) ?_
  refine lv_dup hx hb dX11_init_89 rfl ?_
  refine W.eq (g2 := F0 m 90 ls [.ref (ad_474 86), .ref q_474, .int 3, .ref q_449]) (by rw [he86a_474]) ?_
  refine hq_callC (va_runIN (As := []) (rest := [.ref q_474, .int 3, .ref q_449]) ⟨hx, hb, hml, hown, hts⟩ (c_X10_init l D cy _ ad_474 en_474 87 86 (by decide) e86_474) (kw_X10_init hts hX.2.2.2.2.2.2.2.2.1 ⟨by decide, by decide⟩) (preC_of hh hK hX) rfl rfl hl.1 rfl (lv_room (Nat.le_of_ble_eq_true rfl)) dX11_init_90 ⟨Nat.le_of_ble_eq_true rfl, Nat.le_of_ble_eq_true rfl⟩) hh hA (fun H locs ad_475 en_475 hw_475 hh => ?_)
  have hh : Hp D A A s.heap H _ (List.range 89) ad_475 en_475 := hh
  obtain ⟨hda_475, hue_475, ew_475, ewa_475, ewb_475⟩ := hw_475
  dsimp only at hda_475 hue_475 ew_475 ewa_475 ewb_475
  have et_475 : en_475 0 = .inr (10, [.ref q_440, .ref q_443, .ref q_446, .ref q_449, .ref q_451, .ref q_453, .int 0, .int 0]) := by rw [hue_475 _ (by decide) (by decide)]; exact et_474
  have heta_475 : ad_475 0 = (ad 0) := by rw [hda_475 _ (by decide)]; exact heta_474
  have hex1a_475 : ad_475 1 = q_440 := by rw [hda_475 _ (by decide)]; exact hex1a_474
  have hex12a_475 : ad_475 12 = q_443 := by rw [hda_475 _ (by decide)]; exact hex12a_474
  have hex70a_475 : ad_475 70 = q_446 := by rw [hda_475 _ (by decide)]; exact hex70a_474
  have e74_475 : en_475 74 = .inl (cy 5, 10, .inr (.inr (.inr (.inr (va_up (va_up (va_up (fun _ => none) (0 : Int32).toNatClampNeg (some q_456)) (1 : Int32).toNatClampNeg (some q_462)) (2 : Int32).toNatClampNeg (some q_468)))))) := by rw [hue_475 _ (by decide) (by decide)]; exact e74_474
  have he74a_475 : ad_475 74 = q_449 := by rw [hda_475 _ (by decide)]; exact he74a_474
  have e75_475 : en_475 75 = .inl (cy 6, 4, .inr (.inr (.inr (.inr (fun _ => none))))) := by rw [hue_475 _ (by decide) (by decide)]; exact e75_474
  have he75a_475 : ad_475 75 = q_451 := by rw [hda_475 _ (by decide)]; exact he75a_474
  have ew76_475 : en_475 76 = .inr (8, [.int 0]) := by rw [hue_475 _ (by decide) (by decide)]; exact ew76_474
  have hew76a_475 : ad_475 76 = q_453 := by rw [hda_475 _ (by decide)]; exact hew76a_474
  have hew77a_475 : ad_475 77 = q_456 := by rw [hda_475 _ (by decide)]; exact hew77a_474
  have hew80a_475 : ad_475 80 = q_462 := by rw [hda_475 _ (by decide)]; exact hew80a_474
  have hew83a_475 : ad_475 83 = q_468 := by rw [hda_475 _ (by decide)]; exact hew83a_474
  have he86a_475 : ad_475 86 = q_474 := by rw [hda_475 _ (by decide)]; exact he86a_474
  have hsn_475 : ∀ j, j < 73 → en_475 (1 + 1 * j) = eK (1 + 1 * j) := fun j hj => by rw [hue_475 _ (flt 1 1 87 hj (by decide)) (fne 1 1 86 hj (by decide))]; exact hsn_474 j hj
  have hwo_475 : ∀ j, j < 3 → en_475 (77 + 3 * j) = .inr (9, [.ref (ad_475 (78 + 3 * j)), .ref (ad_475 (79 + 3 * j)), .int 0]) := fun j hj => by rw [hue_475 _ (flt 77 3 87 hj (by decide)) (fne 77 3 86 hj (by decide)), hda_475 _ (flt 78 3 87 hj (by decide)), hda_475 _ (flt 79 3 87 hj (by decide))]; exact hwo_474 j hj
  have hwl_475 : ∀ j, j < 3 → en_475 (78 + 3 * j) = .inl (cy 0, 12, .inl (fun _ => 0)) := fun j hj => by rw [hue_475 _ (flt 78 3 87 hj (by decide)) (fne 78 3 86 hj (by decide))]; exact hwl_474 j hj
  have hwr_475 : ∀ j, j < 3 → en_475 (79 + 3 * j) = .inl (cy 1, 9, .inr (.inl (fun _ => 0))) := fun j hj => by rw [hue_475 _ (flt 79 3 87 hj (by decide)) (fne 79 3 86 hj (by decide))]; exact hwr_474 j hj
  have ew86_475 := ew_475
  have hwo_476 : ∀ j, j < 4 → en_475 (77 + 3 * j) = .inr (9, [.ref (ad_475 (78 + 3 * j)), .ref (ad_475 (79 + 3 * j)), .int 0]) := fun j hj => (Nat.lt_or_ge j 3).elim (fun h => hwo_475 j h) (fun h => by have e0 : j = 3 := (by omega); subst e0; exact ew_475)
  have hwl_477 : ∀ j, j < 4 → en_475 (78 + 3 * j) = .inl (cy 0, 12, .inl (fun _ => 0)) := fun j hj => (Nat.lt_or_ge j 3).elim (fun h => hwl_475 j h) (fun h => by have e0 : j = 3 := (by omega); subst e0; exact ewa_475)
  have hwr_478 : ∀ j, j < 4 → en_475 (79 + 3 * j) = .inl (cy 1, 9, .inr (.inl (fun _ => 0))) := fun j hj => (Nat.lt_or_ge j 3).elim (fun h => hwr_475 j h) (fun h => by have e0 : j = 3 := (by omega); subst e0; exact ewb_475)
  clear et_474 heta_474 hex1a_474 hex12a_474 hex70a_474 e74_474 he74a_474 e75_474 he75a_474 ew76_474 hew76a_474 hew77a_474 hew80a_474 hew83a_474 hsn_474 hwo_474 hwl_474 hwr_474 e86_474 he86a_474 hwo_475 hwl_475 hwr_475
  refine W.widen (k := 88) (n := 741) (Nat.le_refl _) (Nat.le_refl _) ?_
  refine hp_astq hx hb hK hh (q := 74) (v := 86) he74a_475 (List.mem_range.mpr (by decide)) he86a_475 (List.mem_range.mpr (by decide)) e74_475 ew86_475 rfl rfl (vp_in_iff.mpr (by decide)) dX11_init_93 (fun H locs en_479 hen_479 hh => ?_)
  have et_479 : en_479 0 = .inr (10, [.ref q_440, .ref q_443, .ref q_446, .ref q_449, .ref q_451, .ref q_453, .int 0, .int 0]) := by rw [hen_479, va_up_ne _ _ (by decide)]; exact et_475
  have e75_479 : en_479 75 = .inl (cy 6, 4, .inr (.inr (.inr (.inr (fun _ => none))))) := by rw [hen_479, va_up_ne _ _ (by decide)]; exact e75_475
  have ew76_479 : en_479 76 = .inr (8, [.int 0]) := by rw [hen_479, va_up_ne _ _ (by decide)]; exact ew76_475
  have ew86_479 : en_479 86 = .inr (9, [.ref (ad_475 87), .ref (ad_475 88), .int 0]) := by rw [hen_479, va_up_ne _ _ (by decide)]; exact ew86_475
  have hsn_479 : ∀ j, j < 73 → en_479 (1 + 1 * j) = eK (1 + 1 * j) := fun j hj => by rw [hen_479, va_up_ne _ _ (fne 1 1 74 hj (by decide))]; exact hsn_475 j hj
  have hwo_479 : ∀ j, j < 4 → en_479 (77 + 3 * j) = .inr (9, [.ref (ad_475 (78 + 3 * j)), .ref (ad_475 (79 + 3 * j)), .int 0]) := fun j hj => by rw [hen_479, va_up_ne _ _ (fne2 77 3 74 (by decide))]; exact hwo_476 j hj
  have hwl_479 : ∀ j, j < 4 → en_479 (78 + 3 * j) = .inl (cy 0, 12, .inl (fun _ => 0)) := fun j hj => by rw [hen_479, va_up_ne _ _ (fne2 78 3 74 (by decide))]; exact hwl_477 j hj
  have hwr_479 : ∀ j, j < 4 → en_479 (79 + 3 * j) = .inl (cy 1, 9, .inr (.inl (fun _ => 0))) := fun j hj => by rw [hen_479, va_up_ne _ _ (fne2 79 3 74 (by decide))]; exact hwr_478 j hj
  have e74_479 : en_479 74 = .inl (cy 5, 10, .inr (.inr (.inr (.inr (va_up (va_up (va_up (va_up (fun _ => none) (0 : Int32).toNatClampNeg (some q_456)) (1 : Int32).toNatClampNeg (some q_462)) (2 : Int32).toNatClampNeg (some q_468)) (3 : Int32).toNatClampNeg (some q_474)))))) := by rw [hen_479]; exact va_up_self _ _ _
  clear et_475 e74_475 e75_475 ew76_475 hsn_475 hwo_476 hwl_477 hwr_478 ew86_479
  refine lv_iinc (v := 4) (lv' := [(1, .int 4), (0, .ref (ad 0))]) hx hb dX11_init_94 hl (k := 0) rfl (by decide) (by decide) rfl (fun ls hl => ?_)
  refine lv_goto (tgt := 75) hx hb dX11_init_97 (by decide) ?_
  refine lv_iload_n hx hb dX11_init_75 rfl (lv_at hl 0 rfl) ?_
  refine lv_bipush (v := 10) hx hb dX11_init_76 (by decide) ?_
  refine lv_icmp_ge (tgt := 100) hx hb dX11_init_78 (by decide) (fun c_0 => absurd c_0 (by decide)) (fun _ => ?_)
  refine lv_aload_n hx hb dX11_init_81 rfl (lv_at hl 1 rfl) ?_
  refine hp_get hx hb hts ix11 hown hK hh (q := 0) heta_475 (List.mem_range.mpr (by decide)) et_479 rfl 3 (by decide) (hts _ tw_248) (fun _ h9 => h9) rfl dX11_init_82 ?_
  refine lv_iload_n hx hb dX11_init_85 rfl (lv_at hl 0 rfl) ?_
  refine hq_new (ci := 9) (fs := [.null, .null, .int 0]) hx hb hts ix10 tyX10 tyX10_ok hown (hts _ tw_191) (hts _ tw_206) (hts _ tw_7) hK hh hA rfl (fun j hj => by rcases (show j = 0 ∨ j = 1 ∨ j = 2 by omega) with rfl | rfl | rfl <;> rfl) (Nat.le_of_ble_eq_true rfl) (Nat.le_of_ble_eq_true rfl) dX11_init_86 (fun q_480 H ad_480 en_480 had_480 hen_480 hh => ?_)
  have hh : Hp D A A s.heap H _ (List.range 90) ad_480 en_480 := hh
  have et_480 : en_480 0 = .inr (10, [.ref q_440, .ref q_443, .ref q_446, .ref q_449, .ref q_451, .ref q_453, .int 0, .int 0]) := by rw [hen_480, va_up_ne _ _ (by decide)]; exact et_479
  have heta_480 : ad_480 0 = (ad 0) := by rw [had_480, va_up_ne _ _ (by decide)]; exact heta_475
  have hex1a_480 : ad_480 1 = q_440 := by rw [had_480, va_up_ne _ _ (by decide)]; exact hex1a_475
  have hex12a_480 : ad_480 12 = q_443 := by rw [had_480, va_up_ne _ _ (by decide)]; exact hex12a_475
  have hex70a_480 : ad_480 70 = q_446 := by rw [had_480, va_up_ne _ _ (by decide)]; exact hex70a_475
  have e74_480 : en_480 74 = .inl (cy 5, 10, .inr (.inr (.inr (.inr (va_up (va_up (va_up (va_up (fun _ => none) (0 : Int32).toNatClampNeg (some q_456)) (1 : Int32).toNatClampNeg (some q_462)) (2 : Int32).toNatClampNeg (some q_468)) (3 : Int32).toNatClampNeg (some q_474)))))) := by rw [hen_480, va_up_ne _ _ (by decide)]; exact e74_479
  have he74a_480 : ad_480 74 = q_449 := by rw [had_480, va_up_ne _ _ (by decide)]; exact he74a_475
  have e75_480 : en_480 75 = .inl (cy 6, 4, .inr (.inr (.inr (.inr (fun _ => none))))) := by rw [hen_480, va_up_ne _ _ (by decide)]; exact e75_479
  have he75a_480 : ad_480 75 = q_451 := by rw [had_480, va_up_ne _ _ (by decide)]; exact he75a_475
  have ew76_480 : en_480 76 = .inr (8, [.int 0]) := by rw [hen_480, va_up_ne _ _ (by decide)]; exact ew76_479
  have hew76a_480 : ad_480 76 = q_453 := by rw [had_480, va_up_ne _ _ (by decide)]; exact hew76a_475
  have hew77a_480 : ad_480 77 = q_456 := by rw [had_480, va_up_ne _ _ (by decide)]; exact hew77a_475
  have hew80a_480 : ad_480 80 = q_462 := by rw [had_480, va_up_ne _ _ (by decide)]; exact hew80a_475
  have hew83a_480 : ad_480 83 = q_468 := by rw [had_480, va_up_ne _ _ (by decide)]; exact hew83a_475
  have hew86a_480 : ad_480 86 = q_474 := by rw [had_480, va_up_ne _ _ (by decide)]; exact he86a_475
  have hsn_480 : ∀ j, j < 73 → en_480 (1 + 1 * j) = eK (1 + 1 * j) := fun j hj => by rw [hen_480, va_up_ne _ _ (fne 1 1 89 hj (by decide))]; exact hsn_479 j hj
  have hwo_480 : ∀ j, j < 4 → en_480 (77 + 3 * j) = .inr (9, [.ref (ad_480 (78 + 3 * j)), .ref (ad_480 (79 + 3 * j)), .int 0]) := fun j hj => by rw [hen_480, va_up_ne _ _ (fne 77 3 89 hj (by decide)), had_480, va_up_ne _ _ (fne 78 3 89 hj (by decide)), va_up_ne _ _ (fne 79 3 89 hj (by decide))]; exact hwo_479 j hj
  have hwl_480 : ∀ j, j < 4 → en_480 (78 + 3 * j) = .inl (cy 0, 12, .inl (fun _ => 0)) := fun j hj => by rw [hen_480, va_up_ne _ _ (fne 78 3 89 hj (by decide))]; exact hwl_479 j hj
  have hwr_480 : ∀ j, j < 4 → en_480 (79 + 3 * j) = .inl (cy 1, 9, .inr (.inl (fun _ => 0))) := fun j hj => by rw [hen_480, va_up_ne _ _ (fne 79 3 89 hj (by decide))]; exact hwr_479 j hj
  have e89_480 : en_480 89 = .inr (9, [.null, .null, .int 0]) := by rw [hen_480]; exact va_up_self _ _ _
  have he89a_480 : ad_480 89 = q_480 := by rw [had_480]; exact va_up_self _ _ _
  clear heta_475 hex1a_475 hex12a_475 hex70a_475 he74a_475 he75a_475 hew76a_475 hew77a_475 hew80a_475 hew83a_475 he86a_475 et_479 e75_479 ew76_479 hsn_479 hwo_479 hwl_479 hwr_479 e74_479
  refine W.widen (k := 89) (n := 744) (Nat.le_refl _) (Nat.le_refl _) ?_
  refine lv_dup hx hb dX11_init_89 rfl ?_
  refine W.eq (g2 := F0 m 90 ls [.ref (ad_480 89), .ref q_480, .int 4, .ref q_449]) (by rw [he89a_480]) ?_
  refine hq_callC (va_runIN (As := []) (rest := [.ref q_480, .int 4, .ref q_449]) ⟨hx, hb, hml, hown, hts⟩ (c_X10_init l D cy _ ad_480 en_480 90 89 (by decide) e89_480) (kw_X10_init hts hX.2.2.2.2.2.2.2.2.1 ⟨by decide, by decide⟩) (preC_of hh hK hX) rfl rfl hl.1 rfl (lv_room (Nat.le_of_ble_eq_true rfl)) dX11_init_90 ⟨Nat.le_of_ble_eq_true rfl, Nat.le_of_ble_eq_true rfl⟩) hh hA (fun H locs ad_481 en_481 hw_481 hh => ?_)
  have hh : Hp D A A s.heap H _ (List.range 92) ad_481 en_481 := hh
  obtain ⟨hda_481, hue_481, ew_481, ewa_481, ewb_481⟩ := hw_481
  dsimp only at hda_481 hue_481 ew_481 ewa_481 ewb_481
  have et_481 : en_481 0 = .inr (10, [.ref q_440, .ref q_443, .ref q_446, .ref q_449, .ref q_451, .ref q_453, .int 0, .int 0]) := by rw [hue_481 _ (by decide) (by decide)]; exact et_480
  have heta_481 : ad_481 0 = (ad 0) := by rw [hda_481 _ (by decide)]; exact heta_480
  have hex1a_481 : ad_481 1 = q_440 := by rw [hda_481 _ (by decide)]; exact hex1a_480
  have hex12a_481 : ad_481 12 = q_443 := by rw [hda_481 _ (by decide)]; exact hex12a_480
  have hex70a_481 : ad_481 70 = q_446 := by rw [hda_481 _ (by decide)]; exact hex70a_480
  have e74_481 : en_481 74 = .inl (cy 5, 10, .inr (.inr (.inr (.inr (va_up (va_up (va_up (va_up (fun _ => none) (0 : Int32).toNatClampNeg (some q_456)) (1 : Int32).toNatClampNeg (some q_462)) (2 : Int32).toNatClampNeg (some q_468)) (3 : Int32).toNatClampNeg (some q_474)))))) := by rw [hue_481 _ (by decide) (by decide)]; exact e74_480
  have he74a_481 : ad_481 74 = q_449 := by rw [hda_481 _ (by decide)]; exact he74a_480
  have e75_481 : en_481 75 = .inl (cy 6, 4, .inr (.inr (.inr (.inr (fun _ => none))))) := by rw [hue_481 _ (by decide) (by decide)]; exact e75_480
  have he75a_481 : ad_481 75 = q_451 := by rw [hda_481 _ (by decide)]; exact he75a_480
  have ew76_481 : en_481 76 = .inr (8, [.int 0]) := by rw [hue_481 _ (by decide) (by decide)]; exact ew76_480
  have hew76a_481 : ad_481 76 = q_453 := by rw [hda_481 _ (by decide)]; exact hew76a_480
  have hew77a_481 : ad_481 77 = q_456 := by rw [hda_481 _ (by decide)]; exact hew77a_480
  have hew80a_481 : ad_481 80 = q_462 := by rw [hda_481 _ (by decide)]; exact hew80a_480
  have hew83a_481 : ad_481 83 = q_468 := by rw [hda_481 _ (by decide)]; exact hew83a_480
  have hew86a_481 : ad_481 86 = q_474 := by rw [hda_481 _ (by decide)]; exact hew86a_480
  have he89a_481 : ad_481 89 = q_480 := by rw [hda_481 _ (by decide)]; exact he89a_480
  have hsn_481 : ∀ j, j < 73 → en_481 (1 + 1 * j) = eK (1 + 1 * j) := fun j hj => by rw [hue_481 _ (flt 1 1 90 hj (by decide)) (fne 1 1 89 hj (by decide))]; exact hsn_480 j hj
  have hwo_481 : ∀ j, j < 4 → en_481 (77 + 3 * j) = .inr (9, [.ref (ad_481 (78 + 3 * j)), .ref (ad_481 (79 + 3 * j)), .int 0]) := fun j hj => by rw [hue_481 _ (flt 77 3 90 hj (by decide)) (fne 77 3 89 hj (by decide)), hda_481 _ (flt 78 3 90 hj (by decide)), hda_481 _ (flt 79 3 90 hj (by decide))]; exact hwo_480 j hj
  have hwl_481 : ∀ j, j < 4 → en_481 (78 + 3 * j) = .inl (cy 0, 12, .inl (fun _ => 0)) := fun j hj => by rw [hue_481 _ (flt 78 3 90 hj (by decide)) (fne 78 3 89 hj (by decide))]; exact hwl_480 j hj
  have hwr_481 : ∀ j, j < 4 → en_481 (79 + 3 * j) = .inl (cy 1, 9, .inr (.inl (fun _ => 0))) := fun j hj => by rw [hue_481 _ (flt 79 3 90 hj (by decide)) (fne 79 3 89 hj (by decide))]; exact hwr_480 j hj
  have ew89_481 := ew_481
  have hwo_482 : ∀ j, j < 5 → en_481 (77 + 3 * j) = .inr (9, [.ref (ad_481 (78 + 3 * j)), .ref (ad_481 (79 + 3 * j)), .int 0]) := fun j hj => (Nat.lt_or_ge j 4).elim (fun h => hwo_481 j h) (fun h => by have e0 : j = 4 := (by omega); subst e0; exact ew_481)
  have hwl_483 : ∀ j, j < 5 → en_481 (78 + 3 * j) = .inl (cy 0, 12, .inl (fun _ => 0)) := fun j hj => (Nat.lt_or_ge j 4).elim (fun h => hwl_481 j h) (fun h => by have e0 : j = 4 := (by omega); subst e0; exact ewa_481)
  have hwr_484 : ∀ j, j < 5 → en_481 (79 + 3 * j) = .inl (cy 1, 9, .inr (.inl (fun _ => 0))) := fun j hj => (Nat.lt_or_ge j 4).elim (fun h => hwr_481 j h) (fun h => by have e0 : j = 4 := (by omega); subst e0; exact ewb_481)
  clear et_480 heta_480 hex1a_480 hex12a_480 hex70a_480 e74_480 he74a_480 e75_480 he75a_480 ew76_480 hew76a_480 hew77a_480 hew80a_480 hew83a_480 hew86a_480 hsn_480 hwo_480 hwl_480 hwr_480 e89_480 he89a_480 hwo_481 hwl_481 hwr_481
  refine W.widen (k := 91) (n := 765) (Nat.le_refl _) (Nat.le_refl _) ?_
  refine hp_astq hx hb hK hh (q := 74) (v := 89) he74a_481 (List.mem_range.mpr (by decide)) he89a_481 (List.mem_range.mpr (by decide)) e74_481 ew89_481 rfl rfl (vp_in_iff.mpr (by decide)) dX11_init_93 (fun H locs en_485 hen_485 hh => ?_)
  have et_485 : en_485 0 = .inr (10, [.ref q_440, .ref q_443, .ref q_446, .ref q_449, .ref q_451, .ref q_453, .int 0, .int 0]) := by rw [hen_485, va_up_ne _ _ (by decide)]; exact et_481
  have e75_485 : en_485 75 = .inl (cy 6, 4, .inr (.inr (.inr (.inr (fun _ => none))))) := by rw [hen_485, va_up_ne _ _ (by decide)]; exact e75_481
  have ew76_485 : en_485 76 = .inr (8, [.int 0]) := by rw [hen_485, va_up_ne _ _ (by decide)]; exact ew76_481
  have ew89_485 : en_485 89 = .inr (9, [.ref (ad_481 90), .ref (ad_481 91), .int 0]) := by rw [hen_485, va_up_ne _ _ (by decide)]; exact ew89_481
  have hsn_485 : ∀ j, j < 73 → en_485 (1 + 1 * j) = eK (1 + 1 * j) := fun j hj => by rw [hen_485, va_up_ne _ _ (fne 1 1 74 hj (by decide))]; exact hsn_481 j hj
  have hwo_485 : ∀ j, j < 5 → en_485 (77 + 3 * j) = .inr (9, [.ref (ad_481 (78 + 3 * j)), .ref (ad_481 (79 + 3 * j)), .int 0]) := fun j hj => by rw [hen_485, va_up_ne _ _ (fne2 77 3 74 (by decide))]; exact hwo_482 j hj
  have hwl_485 : ∀ j, j < 5 → en_485 (78 + 3 * j) = .inl (cy 0, 12, .inl (fun _ => 0)) := fun j hj => by rw [hen_485, va_up_ne _ _ (fne2 78 3 74 (by decide))]; exact hwl_483 j hj
  have hwr_485 : ∀ j, j < 5 → en_485 (79 + 3 * j) = .inl (cy 1, 9, .inr (.inl (fun _ => 0))) := fun j hj => by rw [hen_485, va_up_ne _ _ (fne2 79 3 74 (by decide))]; exact hwr_484 j hj
  have e74_485 : en_485 74 = .inl (cy 5, 10, .inr (.inr (.inr (.inr (va_up (va_up (va_up (va_up (va_up (fun _ => none) (0 : Int32).toNatClampNeg (some q_456)) (1 : Int32).toNatClampNeg (some q_462)) (2 : Int32).toNatClampNeg (some q_468)) (3 : Int32).toNatClampNeg (some q_474)) (4 : Int32).toNatClampNeg (some q_480)))))) := by rw [hen_485]; exact va_up_self _ _ _
  clear et_481 e74_481 e75_481 ew76_481 hsn_481 hwo_482 hwl_483 hwr_484 ew89_485
  refine lv_iinc (v := 5) (lv' := [(1, .int 5), (0, .ref (ad 0))]) hx hb dX11_init_94 hl (k := 0) rfl (by decide) (by decide) rfl (fun ls hl => ?_)
  refine lv_goto (tgt := 75) hx hb dX11_init_97 (by decide) ?_
  refine lv_iload_n hx hb dX11_init_75 rfl (lv_at hl 0 rfl) ?_
  refine lv_bipush (v := 10) hx hb dX11_init_76 (by decide) ?_
  refine lv_icmp_ge (tgt := 100) hx hb dX11_init_78 (by decide) (fun c_0 => absurd c_0 (by decide)) (fun _ => ?_)
  refine lv_aload_n hx hb dX11_init_81 rfl (lv_at hl 1 rfl) ?_
  refine hp_get hx hb hts ix11 hown hK hh (q := 0) heta_481 (List.mem_range.mpr (by decide)) et_485 rfl 3 (by decide) (hts _ tw_248) (fun _ h9 => h9) rfl dX11_init_82 ?_
  refine lv_iload_n hx hb dX11_init_85 rfl (lv_at hl 0 rfl) ?_
  refine hq_new (ci := 9) (fs := [.null, .null, .int 0]) hx hb hts ix10 tyX10 tyX10_ok hown (hts _ tw_191) (hts _ tw_206) (hts _ tw_7) hK hh hA rfl (fun j hj => by rcases (show j = 0 ∨ j = 1 ∨ j = 2 by omega) with rfl | rfl | rfl <;> rfl) (Nat.le_of_ble_eq_true rfl) (Nat.le_of_ble_eq_true rfl) dX11_init_86 (fun q_486 H ad_486 en_486 had_486 hen_486 hh => ?_)
  have hh : Hp D A A s.heap H _ (List.range 93) ad_486 en_486 := hh
  have et_486 : en_486 0 = .inr (10, [.ref q_440, .ref q_443, .ref q_446, .ref q_449, .ref q_451, .ref q_453, .int 0, .int 0]) := by rw [hen_486, va_up_ne _ _ (by decide)]; exact et_485
  have heta_486 : ad_486 0 = (ad 0) := by rw [had_486, va_up_ne _ _ (by decide)]; exact heta_481
  have hex1a_486 : ad_486 1 = q_440 := by rw [had_486, va_up_ne _ _ (by decide)]; exact hex1a_481
  have hex12a_486 : ad_486 12 = q_443 := by rw [had_486, va_up_ne _ _ (by decide)]; exact hex12a_481
  have hex70a_486 : ad_486 70 = q_446 := by rw [had_486, va_up_ne _ _ (by decide)]; exact hex70a_481
  have e74_486 : en_486 74 = .inl (cy 5, 10, .inr (.inr (.inr (.inr (va_up (va_up (va_up (va_up (va_up (fun _ => none) (0 : Int32).toNatClampNeg (some q_456)) (1 : Int32).toNatClampNeg (some q_462)) (2 : Int32).toNatClampNeg (some q_468)) (3 : Int32).toNatClampNeg (some q_474)) (4 : Int32).toNatClampNeg (some q_480)))))) := by rw [hen_486, va_up_ne _ _ (by decide)]; exact e74_485
  have he74a_486 : ad_486 74 = q_449 := by rw [had_486, va_up_ne _ _ (by decide)]; exact he74a_481
  have e75_486 : en_486 75 = .inl (cy 6, 4, .inr (.inr (.inr (.inr (fun _ => none))))) := by rw [hen_486, va_up_ne _ _ (by decide)]; exact e75_485
  have he75a_486 : ad_486 75 = q_451 := by rw [had_486, va_up_ne _ _ (by decide)]; exact he75a_481
  have ew76_486 : en_486 76 = .inr (8, [.int 0]) := by rw [hen_486, va_up_ne _ _ (by decide)]; exact ew76_485
  have hew76a_486 : ad_486 76 = q_453 := by rw [had_486, va_up_ne _ _ (by decide)]; exact hew76a_481
  have hew77a_486 : ad_486 77 = q_456 := by rw [had_486, va_up_ne _ _ (by decide)]; exact hew77a_481
  have hew80a_486 : ad_486 80 = q_462 := by rw [had_486, va_up_ne _ _ (by decide)]; exact hew80a_481
  have hew83a_486 : ad_486 83 = q_468 := by rw [had_486, va_up_ne _ _ (by decide)]; exact hew83a_481
  have hew86a_486 : ad_486 86 = q_474 := by rw [had_486, va_up_ne _ _ (by decide)]; exact hew86a_481
  have hew89a_486 : ad_486 89 = q_480 := by rw [had_486, va_up_ne _ _ (by decide)]; exact he89a_481
  have hsn_486 : ∀ j, j < 73 → en_486 (1 + 1 * j) = eK (1 + 1 * j) := fun j hj => by rw [hen_486, va_up_ne _ _ (fne 1 1 92 hj (by decide))]; exact hsn_485 j hj
  have hwo_486 : ∀ j, j < 5 → en_486 (77 + 3 * j) = .inr (9, [.ref (ad_486 (78 + 3 * j)), .ref (ad_486 (79 + 3 * j)), .int 0]) := fun j hj => by rw [hen_486, va_up_ne _ _ (fne 77 3 92 hj (by decide)), had_486, va_up_ne _ _ (fne 78 3 92 hj (by decide)), va_up_ne _ _ (fne 79 3 92 hj (by decide))]; exact hwo_485 j hj
  have hwl_486 : ∀ j, j < 5 → en_486 (78 + 3 * j) = .inl (cy 0, 12, .inl (fun _ => 0)) := fun j hj => by rw [hen_486, va_up_ne _ _ (fne 78 3 92 hj (by decide))]; exact hwl_485 j hj
  have hwr_486 : ∀ j, j < 5 → en_486 (79 + 3 * j) = .inl (cy 1, 9, .inr (.inl (fun _ => 0))) := fun j hj => by rw [hen_486, va_up_ne _ _ (fne 79 3 92 hj (by decide))]; exact hwr_485 j hj
  have e92_486 : en_486 92 = .inr (9, [.null, .null, .int 0]) := by rw [hen_486]; exact va_up_self _ _ _
  have he92a_486 : ad_486 92 = q_486 := by rw [had_486]; exact va_up_self _ _ _
  clear heta_481 hex1a_481 hex12a_481 hex70a_481 he74a_481 he75a_481 hew76a_481 hew77a_481 hew80a_481 hew83a_481 hew86a_481 he89a_481 et_485 e75_485 ew76_485 hsn_485 hwo_485 hwl_485 hwr_485 e74_485
  refine W.widen (k := 92) (n := 768) (Nat.le_refl _) (Nat.le_refl _) ?_
  refine lv_dup hx hb dX11_init_89 rfl ?_
  refine W.eq (g2 := F0 m 90 ls [.ref (ad_486 92), .ref q_486, .int 5, .ref q_449]) (by rw [he92a_486]) ?_
  refine hq_callC (va_runIN (As := []) (rest := [.ref q_486, .int 5, .ref q_449]) ⟨hx, hb, hml, hown, hts⟩ (c_X10_init l D cy _ ad_486 en_486 93 92 (by decide) e92_486) (kw_X10_init hts hX.2.2.2.2.2.2.2.2.1 ⟨by decide, by decide⟩) (preC_of hh hK hX) rfl rfl hl.1 rfl (lv_room (Nat.le_of_ble_eq_true rfl)) dX11_init_90 ⟨Nat.le_of_ble_eq_true rfl, Nat.le_of_ble_eq_true rfl⟩) hh hA (fun H locs ad_487 en_487 hw_487 hh => ?_)
  have hh : Hp D A A s.heap H _ (List.range 95) ad_487 en_487 := hh
  obtain ⟨hda_487, hue_487, ew_487, ewa_487, ewb_487⟩ := hw_487
  dsimp only at hda_487 hue_487 ew_487 ewa_487 ewb_487
  have et_487 : en_487 0 = .inr (10, [.ref q_440, .ref q_443, .ref q_446, .ref q_449, .ref q_451, .ref q_453, .int 0, .int 0]) := by rw [hue_487 _ (by decide) (by decide)]; exact et_486
  have heta_487 : ad_487 0 = (ad 0) := by rw [hda_487 _ (by decide)]; exact heta_486
  have hex1a_487 : ad_487 1 = q_440 := by rw [hda_487 _ (by decide)]; exact hex1a_486
  have hex12a_487 : ad_487 12 = q_443 := by rw [hda_487 _ (by decide)]; exact hex12a_486
  have hex70a_487 : ad_487 70 = q_446 := by rw [hda_487 _ (by decide)]; exact hex70a_486
  have e74_487 : en_487 74 = .inl (cy 5, 10, .inr (.inr (.inr (.inr (va_up (va_up (va_up (va_up (va_up (fun _ => none) (0 : Int32).toNatClampNeg (some q_456)) (1 : Int32).toNatClampNeg (some q_462)) (2 : Int32).toNatClampNeg (some q_468)) (3 : Int32).toNatClampNeg (some q_474)) (4 : Int32).toNatClampNeg (some q_480)))))) := by rw [hue_487 _ (by decide) (by decide)]; exact e74_486
  have he74a_487 : ad_487 74 = q_449 := by rw [hda_487 _ (by decide)]; exact he74a_486
  have e75_487 : en_487 75 = .inl (cy 6, 4, .inr (.inr (.inr (.inr (fun _ => none))))) := by rw [hue_487 _ (by decide) (by decide)]; exact e75_486
  have he75a_487 : ad_487 75 = q_451 := by rw [hda_487 _ (by decide)]; exact he75a_486
  have ew76_487 : en_487 76 = .inr (8, [.int 0]) := by rw [hue_487 _ (by decide) (by decide)]; exact ew76_486
  have hew76a_487 : ad_487 76 = q_453 := by rw [hda_487 _ (by decide)]; exact hew76a_486
  have hew77a_487 : ad_487 77 = q_456 := by rw [hda_487 _ (by decide)]; exact hew77a_486
  have hew80a_487 : ad_487 80 = q_462 := by rw [hda_487 _ (by decide)]; exact hew80a_486
  have hew83a_487 : ad_487 83 = q_468 := by rw [hda_487 _ (by decide)]; exact hew83a_486
  have hew86a_487 : ad_487 86 = q_474 := by rw [hda_487 _ (by decide)]; exact hew86a_486
  have hew89a_487 : ad_487 89 = q_480 := by rw [hda_487 _ (by decide)]; exact hew89a_486
  have he92a_487 : ad_487 92 = q_486 := by rw [hda_487 _ (by decide)]; exact he92a_486
  have hsn_487 : ∀ j, j < 73 → en_487 (1 + 1 * j) = eK (1 + 1 * j) := fun j hj => by rw [hue_487 _ (flt 1 1 93 hj (by decide)) (fne 1 1 92 hj (by decide))]; exact hsn_486 j hj
  have hwo_487 : ∀ j, j < 5 → en_487 (77 + 3 * j) = .inr (9, [.ref (ad_487 (78 + 3 * j)), .ref (ad_487 (79 + 3 * j)), .int 0]) := fun j hj => by rw [hue_487 _ (flt 77 3 93 hj (by decide)) (fne 77 3 92 hj (by decide)), hda_487 _ (flt 78 3 93 hj (by decide)), hda_487 _ (flt 79 3 93 hj (by decide))]; exact hwo_486 j hj
  have hwl_487 : ∀ j, j < 5 → en_487 (78 + 3 * j) = .inl (cy 0, 12, .inl (fun _ => 0)) := fun j hj => by rw [hue_487 _ (flt 78 3 93 hj (by decide)) (fne 78 3 92 hj (by decide))]; exact hwl_486 j hj
  have hwr_487 : ∀ j, j < 5 → en_487 (79 + 3 * j) = .inl (cy 1, 9, .inr (.inl (fun _ => 0))) := fun j hj => by rw [hue_487 _ (flt 79 3 93 hj (by decide)) (fne 79 3 92 hj (by decide))]; exact hwr_486 j hj
  have ew92_487 := ew_487
  have hwo_488 : ∀ j, j < 6 → en_487 (77 + 3 * j) = .inr (9, [.ref (ad_487 (78 + 3 * j)), .ref (ad_487 (79 + 3 * j)), .int 0]) := fun j hj => (Nat.lt_or_ge j 5).elim (fun h => hwo_487 j h) (fun h => by have e0 : j = 5 := (by omega); subst e0; exact ew_487)
  have hwl_489 : ∀ j, j < 6 → en_487 (78 + 3 * j) = .inl (cy 0, 12, .inl (fun _ => 0)) := fun j hj => (Nat.lt_or_ge j 5).elim (fun h => hwl_487 j h) (fun h => by have e0 : j = 5 := (by omega); subst e0; exact ewa_487)
  have hwr_490 : ∀ j, j < 6 → en_487 (79 + 3 * j) = .inl (cy 1, 9, .inr (.inl (fun _ => 0))) := fun j hj => (Nat.lt_or_ge j 5).elim (fun h => hwr_487 j h) (fun h => by have e0 : j = 5 := (by omega); subst e0; exact ewb_487)
  clear et_486 heta_486 hex1a_486 hex12a_486 hex70a_486 e74_486 he74a_486 e75_486 he75a_486 ew76_486 hew76a_486 hew77a_486 hew80a_486 hew83a_486 hew86a_486 hew89a_486 hsn_486 hwo_486 hwl_486 hwr_486 e92_486 he92a_486 hwo_487 hwl_487 hwr_487
  refine W.widen (k := 94) (n := 789) (Nat.le_refl _) (Nat.le_refl _) ?_
  refine hp_astq hx hb hK hh (q := 74) (v := 92) he74a_487 (List.mem_range.mpr (by decide)) he92a_487 (List.mem_range.mpr (by decide)) e74_487 ew92_487 rfl rfl (vp_in_iff.mpr (by decide)) dX11_init_93 (fun H locs en_491 hen_491 hh => ?_)
  have et_491 : en_491 0 = .inr (10, [.ref q_440, .ref q_443, .ref q_446, .ref q_449, .ref q_451, .ref q_453, .int 0, .int 0]) := by rw [hen_491, va_up_ne _ _ (by decide)]; exact et_487
  have e75_491 : en_491 75 = .inl (cy 6, 4, .inr (.inr (.inr (.inr (fun _ => none))))) := by rw [hen_491, va_up_ne _ _ (by decide)]; exact e75_487
  have ew76_491 : en_491 76 = .inr (8, [.int 0]) := by rw [hen_491, va_up_ne _ _ (by decide)]; exact ew76_487
  have ew92_491 : en_491 92 = .inr (9, [.ref (ad_487 93), .ref (ad_487 94), .int 0]) := by rw [hen_491, va_up_ne _ _ (by decide)]; exact ew92_487
  have hsn_491 : ∀ j, j < 73 → en_491 (1 + 1 * j) = eK (1 + 1 * j) := fun j hj => by rw [hen_491, va_up_ne _ _ (fne 1 1 74 hj (by decide))]; exact hsn_487 j hj
  have hwo_491 : ∀ j, j < 6 → en_491 (77 + 3 * j) = .inr (9, [.ref (ad_487 (78 + 3 * j)), .ref (ad_487 (79 + 3 * j)), .int 0]) := fun j hj => by rw [hen_491, va_up_ne _ _ (fne2 77 3 74 (by decide))]; exact hwo_488 j hj
  have hwl_491 : ∀ j, j < 6 → en_491 (78 + 3 * j) = .inl (cy 0, 12, .inl (fun _ => 0)) := fun j hj => by rw [hen_491, va_up_ne _ _ (fne2 78 3 74 (by decide))]; exact hwl_489 j hj
  have hwr_491 : ∀ j, j < 6 → en_491 (79 + 3 * j) = .inl (cy 1, 9, .inr (.inl (fun _ => 0))) := fun j hj => by rw [hen_491, va_up_ne _ _ (fne2 79 3 74 (by decide))]; exact hwr_490 j hj
  have e74_491 : en_491 74 = .inl (cy 5, 10, .inr (.inr (.inr (.inr (va_up (va_up (va_up (va_up (va_up (va_up (fun _ => none) (0 : Int32).toNatClampNeg (some q_456)) (1 : Int32).toNatClampNeg (some q_462)) (2 : Int32).toNatClampNeg (some q_468)) (3 : Int32).toNatClampNeg (some q_474)) (4 : Int32).toNatClampNeg (some q_480)) (5 : Int32).toNatClampNeg (some q_486)))))) := by rw [hen_491]; exact va_up_self _ _ _
  clear et_487 e74_487 e75_487 ew76_487 hsn_487 hwo_488 hwl_489 hwr_490 ew92_491
  refine lv_iinc (v := 6) (lv' := [(1, .int 6), (0, .ref (ad 0))]) hx hb dX11_init_94 hl (k := 0) rfl (by decide) (by decide) rfl (fun ls hl => ?_)
  refine lv_goto (tgt := 75) hx hb dX11_init_97 (by decide) ?_
  refine lv_iload_n hx hb dX11_init_75 rfl (lv_at hl 0 rfl) ?_
  refine lv_bipush (v := 10) hx hb dX11_init_76 (by decide) ?_
  refine lv_icmp_ge (tgt := 100) hx hb dX11_init_78 (by decide) (fun c_0 => absurd c_0 (by decide)) (fun _ => ?_)
  refine lv_aload_n hx hb dX11_init_81 rfl (lv_at hl 1 rfl) ?_
  refine hp_get hx hb hts ix11 hown hK hh (q := 0) heta_487 (List.mem_range.mpr (by decide)) et_491 rfl 3 (by decide) (hts _ tw_248) (fun _ h9 => h9) rfl dX11_init_82 ?_
  refine lv_iload_n hx hb dX11_init_85 rfl (lv_at hl 0 rfl) ?_
  refine hq_new (ci := 9) (fs := [.null, .null, .int 0]) hx hb hts ix10 tyX10 tyX10_ok hown (hts _ tw_191) (hts _ tw_206) (hts _ tw_7) hK hh hA rfl (fun j hj => by rcases (show j = 0 ∨ j = 1 ∨ j = 2 by omega) with rfl | rfl | rfl <;> rfl) (Nat.le_of_ble_eq_true rfl) (Nat.le_of_ble_eq_true rfl) dX11_init_86 (fun q_492 H ad_492 en_492 had_492 hen_492 hh => ?_)
  have hh : Hp D A A s.heap H _ (List.range 96) ad_492 en_492 := hh
  have et_492 : en_492 0 = .inr (10, [.ref q_440, .ref q_443, .ref q_446, .ref q_449, .ref q_451, .ref q_453, .int 0, .int 0]) := by rw [hen_492, va_up_ne _ _ (by decide)]; exact et_491
  have heta_492 : ad_492 0 = (ad 0) := by rw [had_492, va_up_ne _ _ (by decide)]; exact heta_487
  have hex1a_492 : ad_492 1 = q_440 := by rw [had_492, va_up_ne _ _ (by decide)]; exact hex1a_487
  have hex12a_492 : ad_492 12 = q_443 := by rw [had_492, va_up_ne _ _ (by decide)]; exact hex12a_487
  have hex70a_492 : ad_492 70 = q_446 := by rw [had_492, va_up_ne _ _ (by decide)]; exact hex70a_487
  have e74_492 : en_492 74 = .inl (cy 5, 10, .inr (.inr (.inr (.inr (va_up (va_up (va_up (va_up (va_up (va_up (fun _ => none) (0 : Int32).toNatClampNeg (some q_456)) (1 : Int32).toNatClampNeg (some q_462)) (2 : Int32).toNatClampNeg (some q_468)) (3 : Int32).toNatClampNeg (some q_474)) (4 : Int32).toNatClampNeg (some q_480)) (5 : Int32).toNatClampNeg (some q_486)))))) := by rw [hen_492, va_up_ne _ _ (by decide)]; exact e74_491
  have he74a_492 : ad_492 74 = q_449 := by rw [had_492, va_up_ne _ _ (by decide)]; exact he74a_487
  have e75_492 : en_492 75 = .inl (cy 6, 4, .inr (.inr (.inr (.inr (fun _ => none))))) := by rw [hen_492, va_up_ne _ _ (by decide)]; exact e75_491
  have he75a_492 : ad_492 75 = q_451 := by rw [had_492, va_up_ne _ _ (by decide)]; exact he75a_487
  have ew76_492 : en_492 76 = .inr (8, [.int 0]) := by rw [hen_492, va_up_ne _ _ (by decide)]; exact ew76_491
  have hew76a_492 : ad_492 76 = q_453 := by rw [had_492, va_up_ne _ _ (by decide)]; exact hew76a_487
  have hew77a_492 : ad_492 77 = q_456 := by rw [had_492, va_up_ne _ _ (by decide)]; exact hew77a_487
  have hew80a_492 : ad_492 80 = q_462 := by rw [had_492, va_up_ne _ _ (by decide)]; exact hew80a_487
  have hew83a_492 : ad_492 83 = q_468 := by rw [had_492, va_up_ne _ _ (by decide)]; exact hew83a_487
  have hew86a_492 : ad_492 86 = q_474 := by rw [had_492, va_up_ne _ _ (by decide)]; exact hew86a_487
  have hew89a_492 : ad_492 89 = q_480 := by rw [had_492, va_up_ne _ _ (by decide)]; exact hew89a_487
  have hew92a_492 : ad_492 92 = q_486 := by rw [had_492, va_up_ne _ _ (by decide)]; exact he92a_487
  have hsn_492 : ∀ j, j < 73 → en_492 (1 + 1 * j) = eK (1 + 1 * j) := fun j hj => by rw [hen_492, va_up_ne _ _ (fne 1 1 95 hj (by decide))]; exact hsn_491 j hj
  have hwo_492 : ∀ j, j < 6 → en_492 (77 + 3 * j) = .inr (9, [.ref (ad_492 (78 + 3 * j)), .ref (ad_492 (79 + 3 * j)), .int 0]) := fun j hj => by rw [hen_492, va_up_ne _ _ (fne 77 3 95 hj (by decide)), had_492, va_up_ne _ _ (fne 78 3 95 hj (by decide)), va_up_ne _ _ (fne 79 3 95 hj (by decide))]; exact hwo_491 j hj
  have hwl_492 : ∀ j, j < 6 → en_492 (78 + 3 * j) = .inl (cy 0, 12, .inl (fun _ => 0)) := fun j hj => by rw [hen_492, va_up_ne _ _ (fne 78 3 95 hj (by decide))]; exact hwl_491 j hj
  have hwr_492 : ∀ j, j < 6 → en_492 (79 + 3 * j) = .inl (cy 1, 9, .inr (.inl (fun _ => 0))) := fun j hj => by rw [hen_492, va_up_ne _ _ (fne 79 3 95 hj (by decide))]; exact hwr_491 j hj
  have e95_492 : en_492 95 = .inr (9, [.null, .null, .int 0]) := by rw [hen_492]; exact va_up_self _ _ _
  have he95a_492 : ad_492 95 = q_492 := by rw [had_492]; exact va_up_self _ _ _
  clear heta_487 hex1a_487 hex12a_487 hex70a_487 he74a_487 he75a_487 hew76a_487 hew77a_487 hew80a_487 hew83a_487 hew86a_487 hew89a_487 he92a_487 et_491 e75_491 ew76_491 hsn_491 hwo_491 hwl_491 hwr_491 e74_491
  refine W.widen (k := 95) (n := 792) (Nat.le_refl _) (Nat.le_refl _) ?_
  refine lv_dup hx hb dX11_init_89 rfl ?_
  refine W.eq (g2 := F0 m 90 ls [.ref (ad_492 95), .ref q_492, .int 6, .ref q_449]) (by rw [he95a_492]) ?_
  refine hq_callC (va_runIN (As := []) (rest := [.ref q_492, .int 6, .ref q_449]) ⟨hx, hb, hml, hown, hts⟩ (c_X10_init l D cy _ ad_492 en_492 96 95 (by decide) e95_492) (kw_X10_init hts hX.2.2.2.2.2.2.2.2.1 ⟨by decide, by decide⟩) (preC_of hh hK hX) rfl rfl hl.1 rfl (lv_room (Nat.le_of_ble_eq_true rfl)) dX11_init_90 ⟨Nat.le_of_ble_eq_true rfl, Nat.le_of_ble_eq_true rfl⟩) hh hA (fun H locs ad_493 en_493 hw_493 hh => ?_)
  have hh : Hp D A A s.heap H _ (List.range 98) ad_493 en_493 := hh
  obtain ⟨hda_493, hue_493, ew_493, ewa_493, ewb_493⟩ := hw_493
  dsimp only at hda_493 hue_493 ew_493 ewa_493 ewb_493
  have et_493 : en_493 0 = .inr (10, [.ref q_440, .ref q_443, .ref q_446, .ref q_449, .ref q_451, .ref q_453, .int 0, .int 0]) := by rw [hue_493 _ (by decide) (by decide)]; exact et_492
  have heta_493 : ad_493 0 = (ad 0) := by rw [hda_493 _ (by decide)]; exact heta_492
  have hex1a_493 : ad_493 1 = q_440 := by rw [hda_493 _ (by decide)]; exact hex1a_492
  have hex12a_493 : ad_493 12 = q_443 := by rw [hda_493 _ (by decide)]; exact hex12a_492
  have hex70a_493 : ad_493 70 = q_446 := by rw [hda_493 _ (by decide)]; exact hex70a_492
  have e74_493 : en_493 74 = .inl (cy 5, 10, .inr (.inr (.inr (.inr (va_up (va_up (va_up (va_up (va_up (va_up (fun _ => none) (0 : Int32).toNatClampNeg (some q_456)) (1 : Int32).toNatClampNeg (some q_462)) (2 : Int32).toNatClampNeg (some q_468)) (3 : Int32).toNatClampNeg (some q_474)) (4 : Int32).toNatClampNeg (some q_480)) (5 : Int32).toNatClampNeg (some q_486)))))) := by rw [hue_493 _ (by decide) (by decide)]; exact e74_492
  have he74a_493 : ad_493 74 = q_449 := by rw [hda_493 _ (by decide)]; exact he74a_492
  have e75_493 : en_493 75 = .inl (cy 6, 4, .inr (.inr (.inr (.inr (fun _ => none))))) := by rw [hue_493 _ (by decide) (by decide)]; exact e75_492
  have he75a_493 : ad_493 75 = q_451 := by rw [hda_493 _ (by decide)]; exact he75a_492
  have ew76_493 : en_493 76 = .inr (8, [.int 0]) := by rw [hue_493 _ (by decide) (by decide)]; exact ew76_492
  have hew76a_493 : ad_493 76 = q_453 := by rw [hda_493 _ (by decide)]; exact hew76a_492
  have hew77a_493 : ad_493 77 = q_456 := by rw [hda_493 _ (by decide)]; exact hew77a_492
  have hew80a_493 : ad_493 80 = q_462 := by rw [hda_493 _ (by decide)]; exact hew80a_492
  have hew83a_493 : ad_493 83 = q_468 := by rw [hda_493 _ (by decide)]; exact hew83a_492
  have hew86a_493 : ad_493 86 = q_474 := by rw [hda_493 _ (by decide)]; exact hew86a_492
  have hew89a_493 : ad_493 89 = q_480 := by rw [hda_493 _ (by decide)]; exact hew89a_492
  have hew92a_493 : ad_493 92 = q_486 := by rw [hda_493 _ (by decide)]; exact hew92a_492
  have he95a_493 : ad_493 95 = q_492 := by rw [hda_493 _ (by decide)]; exact he95a_492
  have hsn_493 : ∀ j, j < 73 → en_493 (1 + 1 * j) = eK (1 + 1 * j) := fun j hj => by rw [hue_493 _ (flt 1 1 96 hj (by decide)) (fne 1 1 95 hj (by decide))]; exact hsn_492 j hj
  have hwo_493 : ∀ j, j < 6 → en_493 (77 + 3 * j) = .inr (9, [.ref (ad_493 (78 + 3 * j)), .ref (ad_493 (79 + 3 * j)), .int 0]) := fun j hj => by rw [hue_493 _ (flt 77 3 96 hj (by decide)) (fne 77 3 95 hj (by decide)), hda_493 _ (flt 78 3 96 hj (by decide)), hda_493 _ (flt 79 3 96 hj (by decide))]; exact hwo_492 j hj
  have hwl_493 : ∀ j, j < 6 → en_493 (78 + 3 * j) = .inl (cy 0, 12, .inl (fun _ => 0)) := fun j hj => by rw [hue_493 _ (flt 78 3 96 hj (by decide)) (fne 78 3 95 hj (by decide))]; exact hwl_492 j hj
  have hwr_493 : ∀ j, j < 6 → en_493 (79 + 3 * j) = .inl (cy 1, 9, .inr (.inl (fun _ => 0))) := fun j hj => by rw [hue_493 _ (flt 79 3 96 hj (by decide)) (fne 79 3 95 hj (by decide))]; exact hwr_492 j hj
  have ew95_493 := ew_493
  have hwo_494 : ∀ j, j < 7 → en_493 (77 + 3 * j) = .inr (9, [.ref (ad_493 (78 + 3 * j)), .ref (ad_493 (79 + 3 * j)), .int 0]) := fun j hj => (Nat.lt_or_ge j 6).elim (fun h => hwo_493 j h) (fun h => by have e0 : j = 6 := (by omega); subst e0; exact ew_493)
  have hwl_495 : ∀ j, j < 7 → en_493 (78 + 3 * j) = .inl (cy 0, 12, .inl (fun _ => 0)) := fun j hj => (Nat.lt_or_ge j 6).elim (fun h => hwl_493 j h) (fun h => by have e0 : j = 6 := (by omega); subst e0; exact ewa_493)
  have hwr_496 : ∀ j, j < 7 → en_493 (79 + 3 * j) = .inl (cy 1, 9, .inr (.inl (fun _ => 0))) := fun j hj => (Nat.lt_or_ge j 6).elim (fun h => hwr_493 j h) (fun h => by have e0 : j = 6 := (by omega); subst e0; exact ewb_493)
  clear et_492 heta_492 hex1a_492 hex12a_492 hex70a_492 e74_492 he74a_492 e75_492 he75a_492 ew76_492 hew76a_492 hew77a_492 hew80a_492 hew83a_492 hew86a_492 hew89a_492 hew92a_492 hsn_492 hwo_492 hwl_492 hwr_492 e95_492 he95a_492 hwo_493 hwl_493 hwr_493
  refine W.widen (k := 97) (n := 813) (Nat.le_refl _) (Nat.le_refl _) ?_
  refine hp_astq hx hb hK hh (q := 74) (v := 95) he74a_493 (List.mem_range.mpr (by decide)) he95a_493 (List.mem_range.mpr (by decide)) e74_493 ew95_493 rfl rfl (vp_in_iff.mpr (by decide)) dX11_init_93 (fun H locs en_497 hen_497 hh => ?_)
  have et_497 : en_497 0 = .inr (10, [.ref q_440, .ref q_443, .ref q_446, .ref q_449, .ref q_451, .ref q_453, .int 0, .int 0]) := by rw [hen_497, va_up_ne _ _ (by decide)]; exact et_493
  have e75_497 : en_497 75 = .inl (cy 6, 4, .inr (.inr (.inr (.inr (fun _ => none))))) := by rw [hen_497, va_up_ne _ _ (by decide)]; exact e75_493
  have ew76_497 : en_497 76 = .inr (8, [.int 0]) := by rw [hen_497, va_up_ne _ _ (by decide)]; exact ew76_493
  have ew95_497 : en_497 95 = .inr (9, [.ref (ad_493 96), .ref (ad_493 97), .int 0]) := by rw [hen_497, va_up_ne _ _ (by decide)]; exact ew95_493
  have hsn_497 : ∀ j, j < 73 → en_497 (1 + 1 * j) = eK (1 + 1 * j) := fun j hj => by rw [hen_497, va_up_ne _ _ (fne 1 1 74 hj (by decide))]; exact hsn_493 j hj
  have hwo_497 : ∀ j, j < 7 → en_497 (77 + 3 * j) = .inr (9, [.ref (ad_493 (78 + 3 * j)), .ref (ad_493 (79 + 3 * j)), .int 0]) := fun j hj => by rw [hen_497, va_up_ne _ _ (fne2 77 3 74 (by decide))]; exact hwo_494 j hj
  have hwl_497 : ∀ j, j < 7 → en_497 (78 + 3 * j) = .inl (cy 0, 12, .inl (fun _ => 0)) := fun j hj => by rw [hen_497, va_up_ne _ _ (fne2 78 3 74 (by decide))]; exact hwl_495 j hj
  have hwr_497 : ∀ j, j < 7 → en_497 (79 + 3 * j) = .inl (cy 1, 9, .inr (.inl (fun _ => 0))) := fun j hj => by rw [hen_497, va_up_ne _ _ (fne2 79 3 74 (by decide))]; exact hwr_496 j hj
  have e74_497 : en_497 74 = .inl (cy 5, 10, .inr (.inr (.inr (.inr (va_up (va_up (va_up (va_up (va_up (va_up (va_up (fun _ => none) (0 : Int32).toNatClampNeg (some q_456)) (1 : Int32).toNatClampNeg (some q_462)) (2 : Int32).toNatClampNeg (some q_468)) (3 : Int32).toNatClampNeg (some q_474)) (4 : Int32).toNatClampNeg (some q_480)) (5 : Int32).toNatClampNeg (some q_486)) (6 : Int32).toNatClampNeg (some q_492)))))) := by rw [hen_497]; exact va_up_self _ _ _
  clear et_493 e74_493 e75_493 ew76_493 hsn_493 hwo_494 hwl_495 hwr_496 ew95_497
  refine lv_iinc (v := 7) (lv' := [(1, .int 7), (0, .ref (ad 0))]) hx hb dX11_init_94 hl (k := 0) rfl (by decide) (by decide) rfl (fun ls hl => ?_)
  refine lv_goto (tgt := 75) hx hb dX11_init_97 (by decide) ?_
  refine lv_iload_n hx hb dX11_init_75 rfl (lv_at hl 0 rfl) ?_
  refine lv_bipush (v := 10) hx hb dX11_init_76 (by decide) ?_
  refine lv_icmp_ge (tgt := 100) hx hb dX11_init_78 (by decide) (fun c_0 => absurd c_0 (by decide)) (fun _ => ?_)
  refine lv_aload_n hx hb dX11_init_81 rfl (lv_at hl 1 rfl) ?_
  refine hp_get hx hb hts ix11 hown hK hh (q := 0) heta_493 (List.mem_range.mpr (by decide)) et_497 rfl 3 (by decide) (hts _ tw_248) (fun _ h9 => h9) rfl dX11_init_82 ?_
  refine lv_iload_n hx hb dX11_init_85 rfl (lv_at hl 0 rfl) ?_
  refine hq_new (ci := 9) (fs := [.null, .null, .int 0]) hx hb hts ix10 tyX10 tyX10_ok hown (hts _ tw_191) (hts _ tw_206) (hts _ tw_7) hK hh hA rfl (fun j hj => by rcases (show j = 0 ∨ j = 1 ∨ j = 2 by omega) with rfl | rfl | rfl <;> rfl) (Nat.le_of_ble_eq_true rfl) (Nat.le_of_ble_eq_true rfl) dX11_init_86 (fun q_498 H ad_498 en_498 had_498 hen_498 hh => ?_)
  have hh : Hp D A A s.heap H _ (List.range 99) ad_498 en_498 := hh
  have et_498 : en_498 0 = .inr (10, [.ref q_440, .ref q_443, .ref q_446, .ref q_449, .ref q_451, .ref q_453, .int 0, .int 0]) := by rw [hen_498, va_up_ne _ _ (by decide)]; exact et_497
  have heta_498 : ad_498 0 = (ad 0) := by rw [had_498, va_up_ne _ _ (by decide)]; exact heta_493
  have hex1a_498 : ad_498 1 = q_440 := by rw [had_498, va_up_ne _ _ (by decide)]; exact hex1a_493
  have hex12a_498 : ad_498 12 = q_443 := by rw [had_498, va_up_ne _ _ (by decide)]; exact hex12a_493
  have hex70a_498 : ad_498 70 = q_446 := by rw [had_498, va_up_ne _ _ (by decide)]; exact hex70a_493
  have e74_498 : en_498 74 = .inl (cy 5, 10, .inr (.inr (.inr (.inr (va_up (va_up (va_up (va_up (va_up (va_up (va_up (fun _ => none) (0 : Int32).toNatClampNeg (some q_456)) (1 : Int32).toNatClampNeg (some q_462)) (2 : Int32).toNatClampNeg (some q_468)) (3 : Int32).toNatClampNeg (some q_474)) (4 : Int32).toNatClampNeg (some q_480)) (5 : Int32).toNatClampNeg (some q_486)) (6 : Int32).toNatClampNeg (some q_492)))))) := by rw [hen_498, va_up_ne _ _ (by decide)]; exact e74_497
  have he74a_498 : ad_498 74 = q_449 := by rw [had_498, va_up_ne _ _ (by decide)]; exact he74a_493
  have e75_498 : en_498 75 = .inl (cy 6, 4, .inr (.inr (.inr (.inr (fun _ => none))))) := by rw [hen_498, va_up_ne _ _ (by decide)]; exact e75_497
  have he75a_498 : ad_498 75 = q_451 := by rw [had_498, va_up_ne _ _ (by decide)]; exact he75a_493
  have ew76_498 : en_498 76 = .inr (8, [.int 0]) := by rw [hen_498, va_up_ne _ _ (by decide)]; exact ew76_497
  have hew76a_498 : ad_498 76 = q_453 := by rw [had_498, va_up_ne _ _ (by decide)]; exact hew76a_493
  have hew77a_498 : ad_498 77 = q_456 := by rw [had_498, va_up_ne _ _ (by decide)]; exact hew77a_493
  have hew80a_498 : ad_498 80 = q_462 := by rw [had_498, va_up_ne _ _ (by decide)]; exact hew80a_493
  have hew83a_498 : ad_498 83 = q_468 := by rw [had_498, va_up_ne _ _ (by decide)]; exact hew83a_493
  have hew86a_498 : ad_498 86 = q_474 := by rw [had_498, va_up_ne _ _ (by decide)]; exact hew86a_493
  have hew89a_498 : ad_498 89 = q_480 := by rw [had_498, va_up_ne _ _ (by decide)]; exact hew89a_493
  have hew92a_498 : ad_498 92 = q_486 := by rw [had_498, va_up_ne _ _ (by decide)]; exact hew92a_493
  have hew95a_498 : ad_498 95 = q_492 := by rw [had_498, va_up_ne _ _ (by decide)]; exact he95a_493
  have hsn_498 : ∀ j, j < 73 → en_498 (1 + 1 * j) = eK (1 + 1 * j) := fun j hj => by rw [hen_498, va_up_ne _ _ (fne 1 1 98 hj (by decide))]; exact hsn_497 j hj
  have hwo_498 : ∀ j, j < 7 → en_498 (77 + 3 * j) = .inr (9, [.ref (ad_498 (78 + 3 * j)), .ref (ad_498 (79 + 3 * j)), .int 0]) := fun j hj => by rw [hen_498, va_up_ne _ _ (fne 77 3 98 hj (by decide)), had_498, va_up_ne _ _ (fne 78 3 98 hj (by decide)), va_up_ne _ _ (fne 79 3 98 hj (by decide))]; exact hwo_497 j hj
  have hwl_498 : ∀ j, j < 7 → en_498 (78 + 3 * j) = .inl (cy 0, 12, .inl (fun _ => 0)) := fun j hj => by rw [hen_498, va_up_ne _ _ (fne 78 3 98 hj (by decide))]; exact hwl_497 j hj
  have hwr_498 : ∀ j, j < 7 → en_498 (79 + 3 * j) = .inl (cy 1, 9, .inr (.inl (fun _ => 0))) := fun j hj => by rw [hen_498, va_up_ne _ _ (fne 79 3 98 hj (by decide))]; exact hwr_497 j hj
  have e98_498 : en_498 98 = .inr (9, [.null, .null, .int 0]) := by rw [hen_498]; exact va_up_self _ _ _
  have he98a_498 : ad_498 98 = q_498 := by rw [had_498]; exact va_up_self _ _ _
  clear heta_493 hex1a_493 hex12a_493 hex70a_493 he74a_493 he75a_493 hew76a_493 hew77a_493 hew80a_493 hew83a_493 hew86a_493 hew89a_493 hew92a_493 he95a_493 et_497 e75_497 ew76_497 hsn_497 hwo_497 hwl_497 hwr_497 e74_497
  refine W.widen (k := 98) (n := 816) (Nat.le_refl _) (Nat.le_refl _) ?_
  refine lv_dup hx hb dX11_init_89 rfl ?_
  refine W.eq (g2 := F0 m 90 ls [.ref (ad_498 98), .ref q_498, .int 7, .ref q_449]) (by rw [he98a_498]) ?_
  refine hq_callC (va_runIN (As := []) (rest := [.ref q_498, .int 7, .ref q_449]) ⟨hx, hb, hml, hown, hts⟩ (c_X10_init l D cy _ ad_498 en_498 99 98 (by decide) e98_498) (kw_X10_init hts hX.2.2.2.2.2.2.2.2.1 ⟨by decide, by decide⟩) (preC_of hh hK hX) rfl rfl hl.1 rfl (lv_room (Nat.le_of_ble_eq_true rfl)) dX11_init_90 ⟨Nat.le_of_ble_eq_true rfl, Nat.le_of_ble_eq_true rfl⟩) hh hA (fun H locs ad_499 en_499 hw_499 hh => ?_)
  have hh : Hp D A A s.heap H _ (List.range 101) ad_499 en_499 := hh
  obtain ⟨hda_499, hue_499, ew_499, ewa_499, ewb_499⟩ := hw_499
  dsimp only at hda_499 hue_499 ew_499 ewa_499 ewb_499
  have et_499 : en_499 0 = .inr (10, [.ref q_440, .ref q_443, .ref q_446, .ref q_449, .ref q_451, .ref q_453, .int 0, .int 0]) := by rw [hue_499 _ (by decide) (by decide)]; exact et_498
  have heta_499 : ad_499 0 = (ad 0) := by rw [hda_499 _ (by decide)]; exact heta_498
  have hex1a_499 : ad_499 1 = q_440 := by rw [hda_499 _ (by decide)]; exact hex1a_498
  have hex12a_499 : ad_499 12 = q_443 := by rw [hda_499 _ (by decide)]; exact hex12a_498
  have hex70a_499 : ad_499 70 = q_446 := by rw [hda_499 _ (by decide)]; exact hex70a_498
  have e74_499 : en_499 74 = .inl (cy 5, 10, .inr (.inr (.inr (.inr (va_up (va_up (va_up (va_up (va_up (va_up (va_up (fun _ => none) (0 : Int32).toNatClampNeg (some q_456)) (1 : Int32).toNatClampNeg (some q_462)) (2 : Int32).toNatClampNeg (some q_468)) (3 : Int32).toNatClampNeg (some q_474)) (4 : Int32).toNatClampNeg (some q_480)) (5 : Int32).toNatClampNeg (some q_486)) (6 : Int32).toNatClampNeg (some q_492)))))) := by rw [hue_499 _ (by decide) (by decide)]; exact e74_498
  have he74a_499 : ad_499 74 = q_449 := by rw [hda_499 _ (by decide)]; exact he74a_498
  have e75_499 : en_499 75 = .inl (cy 6, 4, .inr (.inr (.inr (.inr (fun _ => none))))) := by rw [hue_499 _ (by decide) (by decide)]; exact e75_498
  have he75a_499 : ad_499 75 = q_451 := by rw [hda_499 _ (by decide)]; exact he75a_498
  have ew76_499 : en_499 76 = .inr (8, [.int 0]) := by rw [hue_499 _ (by decide) (by decide)]; exact ew76_498
  have hew76a_499 : ad_499 76 = q_453 := by rw [hda_499 _ (by decide)]; exact hew76a_498
  have hew77a_499 : ad_499 77 = q_456 := by rw [hda_499 _ (by decide)]; exact hew77a_498
  have hew80a_499 : ad_499 80 = q_462 := by rw [hda_499 _ (by decide)]; exact hew80a_498
  have hew83a_499 : ad_499 83 = q_468 := by rw [hda_499 _ (by decide)]; exact hew83a_498
  have hew86a_499 : ad_499 86 = q_474 := by rw [hda_499 _ (by decide)]; exact hew86a_498
  have hew89a_499 : ad_499 89 = q_480 := by rw [hda_499 _ (by decide)]; exact hew89a_498
  have hew92a_499 : ad_499 92 = q_486 := by rw [hda_499 _ (by decide)]; exact hew92a_498
  have hew95a_499 : ad_499 95 = q_492 := by rw [hda_499 _ (by decide)]; exact hew95a_498
  have he98a_499 : ad_499 98 = q_498 := by rw [hda_499 _ (by decide)]; exact he98a_498
  have hsn_499 : ∀ j, j < 73 → en_499 (1 + 1 * j) = eK (1 + 1 * j) := fun j hj => by rw [hue_499 _ (flt 1 1 99 hj (by decide)) (fne 1 1 98 hj (by decide))]; exact hsn_498 j hj
  have hwo_499 : ∀ j, j < 7 → en_499 (77 + 3 * j) = .inr (9, [.ref (ad_499 (78 + 3 * j)), .ref (ad_499 (79 + 3 * j)), .int 0]) := fun j hj => by rw [hue_499 _ (flt 77 3 99 hj (by decide)) (fne 77 3 98 hj (by decide)), hda_499 _ (flt 78 3 99 hj (by decide)), hda_499 _ (flt 79 3 99 hj (by decide))]; exact hwo_498 j hj
  have hwl_499 : ∀ j, j < 7 → en_499 (78 + 3 * j) = .inl (cy 0, 12, .inl (fun _ => 0)) := fun j hj => by rw [hue_499 _ (flt 78 3 99 hj (by decide)) (fne 78 3 98 hj (by decide))]; exact hwl_498 j hj
  have hwr_499 : ∀ j, j < 7 → en_499 (79 + 3 * j) = .inl (cy 1, 9, .inr (.inl (fun _ => 0))) := fun j hj => by rw [hue_499 _ (flt 79 3 99 hj (by decide)) (fne 79 3 98 hj (by decide))]; exact hwr_498 j hj
  have ew98_499 := ew_499
  have hwo_500 : ∀ j, j < 8 → en_499 (77 + 3 * j) = .inr (9, [.ref (ad_499 (78 + 3 * j)), .ref (ad_499 (79 + 3 * j)), .int 0]) := fun j hj => (Nat.lt_or_ge j 7).elim (fun h => hwo_499 j h) (fun h => by have e0 : j = 7 := (by omega); subst e0; exact ew_499)
  have hwl_501 : ∀ j, j < 8 → en_499 (78 + 3 * j) = .inl (cy 0, 12, .inl (fun _ => 0)) := fun j hj => (Nat.lt_or_ge j 7).elim (fun h => hwl_499 j h) (fun h => by have e0 : j = 7 := (by omega); subst e0; exact ewa_499)
  have hwr_502 : ∀ j, j < 8 → en_499 (79 + 3 * j) = .inl (cy 1, 9, .inr (.inl (fun _ => 0))) := fun j hj => (Nat.lt_or_ge j 7).elim (fun h => hwr_499 j h) (fun h => by have e0 : j = 7 := (by omega); subst e0; exact ewb_499)
  clear et_498 heta_498 hex1a_498 hex12a_498 hex70a_498 e74_498 he74a_498 e75_498 he75a_498 ew76_498 hew76a_498 hew77a_498 hew80a_498 hew83a_498 hew86a_498 hew89a_498 hew92a_498 hew95a_498 hsn_498 hwo_498 hwl_498 hwr_498 e98_498 he98a_498 hwo_499 hwl_499 hwr_499
  refine W.widen (k := 100) (n := 837) (Nat.le_refl _) (Nat.le_refl _) ?_
  refine hp_astq hx hb hK hh (q := 74) (v := 98) he74a_499 (List.mem_range.mpr (by decide)) he98a_499 (List.mem_range.mpr (by decide)) e74_499 ew98_499 rfl rfl (vp_in_iff.mpr (by decide)) dX11_init_93 (fun H locs en_503 hen_503 hh => ?_)
  have et_503 : en_503 0 = .inr (10, [.ref q_440, .ref q_443, .ref q_446, .ref q_449, .ref q_451, .ref q_453, .int 0, .int 0]) := by rw [hen_503, va_up_ne _ _ (by decide)]; exact et_499
  have e75_503 : en_503 75 = .inl (cy 6, 4, .inr (.inr (.inr (.inr (fun _ => none))))) := by rw [hen_503, va_up_ne _ _ (by decide)]; exact e75_499
  have ew76_503 : en_503 76 = .inr (8, [.int 0]) := by rw [hen_503, va_up_ne _ _ (by decide)]; exact ew76_499
  have ew98_503 : en_503 98 = .inr (9, [.ref (ad_499 99), .ref (ad_499 100), .int 0]) := by rw [hen_503, va_up_ne _ _ (by decide)]; exact ew98_499
  have hsn_503 : ∀ j, j < 73 → en_503 (1 + 1 * j) = eK (1 + 1 * j) := fun j hj => by rw [hen_503, va_up_ne _ _ (fne 1 1 74 hj (by decide))]; exact hsn_499 j hj
  have hwo_503 : ∀ j, j < 8 → en_503 (77 + 3 * j) = .inr (9, [.ref (ad_499 (78 + 3 * j)), .ref (ad_499 (79 + 3 * j)), .int 0]) := fun j hj => by rw [hen_503, va_up_ne _ _ (fne2 77 3 74 (by decide))]; exact hwo_500 j hj
  have hwl_503 : ∀ j, j < 8 → en_503 (78 + 3 * j) = .inl (cy 0, 12, .inl (fun _ => 0)) := fun j hj => by rw [hen_503, va_up_ne _ _ (fne2 78 3 74 (by decide))]; exact hwl_501 j hj
  have hwr_503 : ∀ j, j < 8 → en_503 (79 + 3 * j) = .inl (cy 1, 9, .inr (.inl (fun _ => 0))) := fun j hj => by rw [hen_503, va_up_ne _ _ (fne2 79 3 74 (by decide))]; exact hwr_502 j hj
  have e74_503 : en_503 74 = .inl (cy 5, 10, .inr (.inr (.inr (.inr (va_up (va_up (va_up (va_up (va_up (va_up (va_up (va_up (fun _ => none) (0 : Int32).toNatClampNeg (some q_456)) (1 : Int32).toNatClampNeg (some q_462)) (2 : Int32).toNatClampNeg (some q_468)) (3 : Int32).toNatClampNeg (some q_474)) (4 : Int32).toNatClampNeg (some q_480)) (5 : Int32).toNatClampNeg (some q_486)) (6 : Int32).toNatClampNeg (some q_492)) (7 : Int32).toNatClampNeg (some q_498)))))) := by rw [hen_503]; exact va_up_self _ _ _
  clear et_499 e74_499 e75_499 ew76_499 hsn_499 hwo_500 hwl_501 hwr_502 ew98_503
  refine lv_iinc (v := 8) (lv' := [(1, .int 8), (0, .ref (ad 0))]) hx hb dX11_init_94 hl (k := 0) rfl (by decide) (by decide) rfl (fun ls hl => ?_)
  refine lv_goto (tgt := 75) hx hb dX11_init_97 (by decide) ?_
  refine lv_iload_n hx hb dX11_init_75 rfl (lv_at hl 0 rfl) ?_
  refine lv_bipush (v := 10) hx hb dX11_init_76 (by decide) ?_
  refine lv_icmp_ge (tgt := 100) hx hb dX11_init_78 (by decide) (fun c_0 => absurd c_0 (by decide)) (fun _ => ?_)
  refine lv_aload_n hx hb dX11_init_81 rfl (lv_at hl 1 rfl) ?_
  refine hp_get hx hb hts ix11 hown hK hh (q := 0) heta_499 (List.mem_range.mpr (by decide)) et_503 rfl 3 (by decide) (hts _ tw_248) (fun _ h9 => h9) rfl dX11_init_82 ?_
  refine lv_iload_n hx hb dX11_init_85 rfl (lv_at hl 0 rfl) ?_
  refine hq_new (ci := 9) (fs := [.null, .null, .int 0]) hx hb hts ix10 tyX10 tyX10_ok hown (hts _ tw_191) (hts _ tw_206) (hts _ tw_7) hK hh hA rfl (fun j hj => by rcases (show j = 0 ∨ j = 1 ∨ j = 2 by omega) with rfl | rfl | rfl <;> rfl) (Nat.le_of_ble_eq_true rfl) (Nat.le_of_ble_eq_true rfl) dX11_init_86 (fun q_504 H ad_504 en_504 had_504 hen_504 hh => ?_)
  have hh : Hp D A A s.heap H _ (List.range 102) ad_504 en_504 := hh
  have et_504 : en_504 0 = .inr (10, [.ref q_440, .ref q_443, .ref q_446, .ref q_449, .ref q_451, .ref q_453, .int 0, .int 0]) := by rw [hen_504, va_up_ne _ _ (by decide)]; exact et_503
  have heta_504 : ad_504 0 = (ad 0) := by rw [had_504, va_up_ne _ _ (by decide)]; exact heta_499
  have hex1a_504 : ad_504 1 = q_440 := by rw [had_504, va_up_ne _ _ (by decide)]; exact hex1a_499
  have hex12a_504 : ad_504 12 = q_443 := by rw [had_504, va_up_ne _ _ (by decide)]; exact hex12a_499
  have hex70a_504 : ad_504 70 = q_446 := by rw [had_504, va_up_ne _ _ (by decide)]; exact hex70a_499
  have e74_504 : en_504 74 = .inl (cy 5, 10, .inr (.inr (.inr (.inr (va_up (va_up (va_up (va_up (va_up (va_up (va_up (va_up (fun _ => none) (0 : Int32).toNatClampNeg (some q_456)) (1 : Int32).toNatClampNeg (some q_462)) (2 : Int32).toNatClampNeg (some q_468)) (3 : Int32).toNatClampNeg (some q_474)) (4 : Int32).toNatClampNeg (some q_480)) (5 : Int32).toNatClampNeg (some q_486)) (6 : Int32).toNatClampNeg (some q_492)) (7 : Int32).toNatClampNeg (some q_498)))))) := by rw [hen_504, va_up_ne _ _ (by decide)]; exact e74_503
  have he74a_504 : ad_504 74 = q_449 := by rw [had_504, va_up_ne _ _ (by decide)]; exact he74a_499
  have e75_504 : en_504 75 = .inl (cy 6, 4, .inr (.inr (.inr (.inr (fun _ => none))))) := by rw [hen_504, va_up_ne _ _ (by decide)]; exact e75_503
  have he75a_504 : ad_504 75 = q_451 := by rw [had_504, va_up_ne _ _ (by decide)]; exact he75a_499
  have ew76_504 : en_504 76 = .inr (8, [.int 0]) := by rw [hen_504, va_up_ne _ _ (by decide)]; exact ew76_503
  have hew76a_504 : ad_504 76 = q_453 := by rw [had_504, va_up_ne _ _ (by decide)]; exact hew76a_499
  have hew77a_504 : ad_504 77 = q_456 := by rw [had_504, va_up_ne _ _ (by decide)]; exact hew77a_499
  have hew80a_504 : ad_504 80 = q_462 := by rw [had_504, va_up_ne _ _ (by decide)]; exact hew80a_499
  have hew83a_504 : ad_504 83 = q_468 := by rw [had_504, va_up_ne _ _ (by decide)]; exact hew83a_499
  have hew86a_504 : ad_504 86 = q_474 := by rw [had_504, va_up_ne _ _ (by decide)]; exact hew86a_499
  have hew89a_504 : ad_504 89 = q_480 := by rw [had_504, va_up_ne _ _ (by decide)]; exact hew89a_499
  have hew92a_504 : ad_504 92 = q_486 := by rw [had_504, va_up_ne _ _ (by decide)]; exact hew92a_499
  have hew95a_504 : ad_504 95 = q_492 := by rw [had_504, va_up_ne _ _ (by decide)]; exact hew95a_499
  have hew98a_504 : ad_504 98 = q_498 := by rw [had_504, va_up_ne _ _ (by decide)]; exact he98a_499
  have hsn_504 : ∀ j, j < 73 → en_504 (1 + 1 * j) = eK (1 + 1 * j) := fun j hj => by rw [hen_504, va_up_ne _ _ (fne 1 1 101 hj (by decide))]; exact hsn_503 j hj
  have hwo_504 : ∀ j, j < 8 → en_504 (77 + 3 * j) = .inr (9, [.ref (ad_504 (78 + 3 * j)), .ref (ad_504 (79 + 3 * j)), .int 0]) := fun j hj => by rw [hen_504, va_up_ne _ _ (fne 77 3 101 hj (by decide)), had_504, va_up_ne _ _ (fne 78 3 101 hj (by decide)), va_up_ne _ _ (fne 79 3 101 hj (by decide))]; exact hwo_503 j hj
  have hwl_504 : ∀ j, j < 8 → en_504 (78 + 3 * j) = .inl (cy 0, 12, .inl (fun _ => 0)) := fun j hj => by rw [hen_504, va_up_ne _ _ (fne 78 3 101 hj (by decide))]; exact hwl_503 j hj
  have hwr_504 : ∀ j, j < 8 → en_504 (79 + 3 * j) = .inl (cy 1, 9, .inr (.inl (fun _ => 0))) := fun j hj => by rw [hen_504, va_up_ne _ _ (fne 79 3 101 hj (by decide))]; exact hwr_503 j hj
  have e101_504 : en_504 101 = .inr (9, [.null, .null, .int 0]) := by rw [hen_504]; exact va_up_self _ _ _
  have he101a_504 : ad_504 101 = q_504 := by rw [had_504]; exact va_up_self _ _ _
  clear heta_499 hex1a_499 hex12a_499 hex70a_499 he74a_499 he75a_499 hew76a_499 hew77a_499 hew80a_499 hew83a_499 hew86a_499 hew89a_499 hew92a_499 hew95a_499 he98a_499 et_503 e75_503 ew76_503 hsn_503 hwo_503 hwl_503 hwr_503 e74_503
  refine W.widen (k := 101) (n := 840) (Nat.le_refl _) (Nat.le_refl _) ?_
  refine lv_dup hx hb dX11_init_89 rfl ?_
  refine W.eq (g2 := F0 m 90 ls [.ref (ad_504 101), .ref q_504, .int 8, .ref q_449]) (by rw [he101a_504]) ?_
  refine hq_callC (va_runIN (As := []) (rest := [.ref q_504, .int 8, .ref q_449]) ⟨hx, hb, hml, hown, hts⟩ (c_X10_init l D cy _ ad_504 en_504 102 101 (by decide) e101_504) (kw_X10_init hts hX.2.2.2.2.2.2.2.2.1 ⟨by decide, by decide⟩) (preC_of hh hK hX) rfl rfl hl.1 rfl (lv_room (Nat.le_of_ble_eq_true rfl)) dX11_init_90 ⟨Nat.le_of_ble_eq_true rfl, Nat.le_of_ble_eq_true rfl⟩) hh hA (fun H locs ad_505 en_505 hw_505 hh => ?_)
  have hh : Hp D A A s.heap H _ (List.range 104) ad_505 en_505 := hh
  obtain ⟨hda_505, hue_505, ew_505, ewa_505, ewb_505⟩ := hw_505
  dsimp only at hda_505 hue_505 ew_505 ewa_505 ewb_505
  have et_505 : en_505 0 = .inr (10, [.ref q_440, .ref q_443, .ref q_446, .ref q_449, .ref q_451, .ref q_453, .int 0, .int 0]) := by rw [hue_505 _ (by decide) (by decide)]; exact et_504
  have heta_505 : ad_505 0 = (ad 0) := by rw [hda_505 _ (by decide)]; exact heta_504
  have hex1a_505 : ad_505 1 = q_440 := by rw [hda_505 _ (by decide)]; exact hex1a_504
  have hex12a_505 : ad_505 12 = q_443 := by rw [hda_505 _ (by decide)]; exact hex12a_504
  have hex70a_505 : ad_505 70 = q_446 := by rw [hda_505 _ (by decide)]; exact hex70a_504
  have e74_505 : en_505 74 = .inl (cy 5, 10, .inr (.inr (.inr (.inr (va_up (va_up (va_up (va_up (va_up (va_up (va_up (va_up (fun _ => none) (0 : Int32).toNatClampNeg (some q_456)) (1 : Int32).toNatClampNeg (some q_462)) (2 : Int32).toNatClampNeg (some q_468)) (3 : Int32).toNatClampNeg (some q_474)) (4 : Int32).toNatClampNeg (some q_480)) (5 : Int32).toNatClampNeg (some q_486)) (6 : Int32).toNatClampNeg (some q_492)) (7 : Int32).toNatClampNeg (some q_498)))))) := by rw [hue_505 _ (by decide) (by decide)]; exact e74_504
  have he74a_505 : ad_505 74 = q_449 := by rw [hda_505 _ (by decide)]; exact he74a_504
  have e75_505 : en_505 75 = .inl (cy 6, 4, .inr (.inr (.inr (.inr (fun _ => none))))) := by rw [hue_505 _ (by decide) (by decide)]; exact e75_504
  have he75a_505 : ad_505 75 = q_451 := by rw [hda_505 _ (by decide)]; exact he75a_504
  have ew76_505 : en_505 76 = .inr (8, [.int 0]) := by rw [hue_505 _ (by decide) (by decide)]; exact ew76_504
  have hew76a_505 : ad_505 76 = q_453 := by rw [hda_505 _ (by decide)]; exact hew76a_504
  have hew77a_505 : ad_505 77 = q_456 := by rw [hda_505 _ (by decide)]; exact hew77a_504
  have hew80a_505 : ad_505 80 = q_462 := by rw [hda_505 _ (by decide)]; exact hew80a_504
  have hew83a_505 : ad_505 83 = q_468 := by rw [hda_505 _ (by decide)]; exact hew83a_504
  have hew86a_505 : ad_505 86 = q_474 := by rw [hda_505 _ (by decide)]; exact hew86a_504
  have hew89a_505 : ad_505 89 = q_480 := by rw [hda_505 _ (by decide)]; exact hew89a_504
  have hew92a_505 : ad_505 92 = q_486 := by rw [hda_505 _ (by decide)]; exact hew92a_504
  have hew95a_505 : ad_505 95 = q_492 := by rw [hda_505 _ (by decide)]; exact hew95a_504
  have hew98a_505 : ad_505 98 = q_498 := by rw [hda_505 _ (by decide)]; exact hew98a_504
  have he101a_505 : ad_505 101 = q_504 := by rw [hda_505 _ (by decide)]; exact he101a_504
  have hsn_505 : ∀ j, j < 73 → en_505 (1 + 1 * j) = eK (1 + 1 * j) := fun j hj => by rw [hue_505 _ (flt 1 1 102 hj (by decide)) (fne 1 1 101 hj (by decide))]; exact hsn_504 j hj
  have hwo_505 : ∀ j, j < 8 → en_505 (77 + 3 * j) = .inr (9, [.ref (ad_505 (78 + 3 * j)), .ref (ad_505 (79 + 3 * j)), .int 0]) := fun j hj => by rw [hue_505 _ (flt 77 3 102 hj (by decide)) (fne 77 3 101 hj (by decide)), hda_505 _ (flt 78 3 102 hj (by decide)), hda_505 _ (flt 79 3 102 hj (by decide))]; exact hwo_504 j hj
  have hwl_505 : ∀ j, j < 8 → en_505 (78 + 3 * j) = .inl (cy 0, 12, .inl (fun _ => 0)) := fun j hj => by rw [hue_505 _ (flt 78 3 102 hj (by decide)) (fne 78 3 101 hj (by decide))]; exact hwl_504 j hj
  have hwr_505 : ∀ j, j < 8 → en_505 (79 + 3 * j) = .inl (cy 1, 9, .inr (.inl (fun _ => 0))) := fun j hj => by rw [hue_505 _ (flt 79 3 102 hj (by decide)) (fne 79 3 101 hj (by decide))]; exact hwr_504 j hj
  have ew101_505 := ew_505
  have hwo_506 : ∀ j, j < 9 → en_505 (77 + 3 * j) = .inr (9, [.ref (ad_505 (78 + 3 * j)), .ref (ad_505 (79 + 3 * j)), .int 0]) := fun j hj => (Nat.lt_or_ge j 8).elim (fun h => hwo_505 j h) (fun h => by have e0 : j = 8 := (by omega); subst e0; exact ew_505)
  have hwl_507 : ∀ j, j < 9 → en_505 (78 + 3 * j) = .inl (cy 0, 12, .inl (fun _ => 0)) := fun j hj => (Nat.lt_or_ge j 8).elim (fun h => hwl_505 j h) (fun h => by have e0 : j = 8 := (by omega); subst e0; exact ewa_505)
  have hwr_508 : ∀ j, j < 9 → en_505 (79 + 3 * j) = .inl (cy 1, 9, .inr (.inl (fun _ => 0))) := fun j hj => (Nat.lt_or_ge j 8).elim (fun h => hwr_505 j h) (fun h => by have e0 : j = 8 := (by omega); subst e0; exact ewb_505)
  clear et_504 heta_504 hex1a_504 hex12a_504 hex70a_504 e74_504 he74a_504 e75_504 he75a_504 ew76_504 hew76a_504 hew77a_504 hew80a_504 hew83a_504 hew86a_504 hew89a_504 hew92a_504 hew95a_504 hew98a_504 hsn_504 hwo_504 hwl_504 hwr_504 e101_504 he101a_504 hwo_505 hwl_505 hwr_505
  refine W.widen (k := 103) (n := 861) (Nat.le_refl _) (Nat.le_refl _) ?_
  refine hp_astq hx hb hK hh (q := 74) (v := 101) he74a_505 (List.mem_range.mpr (by decide)) he101a_505 (List.mem_range.mpr (by decide)) e74_505 ew101_505 rfl rfl (vp_in_iff.mpr (by decide)) dX11_init_93 (fun H locs en_509 hen_509 hh => ?_)
  have et_509 : en_509 0 = .inr (10, [.ref q_440, .ref q_443, .ref q_446, .ref q_449, .ref q_451, .ref q_453, .int 0, .int 0]) := by rw [hen_509, va_up_ne _ _ (by decide)]; exact et_505
  have e75_509 : en_509 75 = .inl (cy 6, 4, .inr (.inr (.inr (.inr (fun _ => none))))) := by rw [hen_509, va_up_ne _ _ (by decide)]; exact e75_505
  have ew76_509 : en_509 76 = .inr (8, [.int 0]) := by rw [hen_509, va_up_ne _ _ (by decide)]; exact ew76_505
  have ew101_509 : en_509 101 = .inr (9, [.ref (ad_505 102), .ref (ad_505 103), .int 0]) := by rw [hen_509, va_up_ne _ _ (by decide)]; exact ew101_505
  have hsn_509 : ∀ j, j < 73 → en_509 (1 + 1 * j) = eK (1 + 1 * j) := fun j hj => by rw [hen_509, va_up_ne _ _ (fne 1 1 74 hj (by decide))]; exact hsn_505 j hj
  have hwo_509 : ∀ j, j < 9 → en_509 (77 + 3 * j) = .inr (9, [.ref (ad_505 (78 + 3 * j)), .ref (ad_505 (79 + 3 * j)), .int 0]) := fun j hj => by rw [hen_509, va_up_ne _ _ (fne2 77 3 74 (by decide))]; exact hwo_506 j hj
  have hwl_509 : ∀ j, j < 9 → en_509 (78 + 3 * j) = .inl (cy 0, 12, .inl (fun _ => 0)) := fun j hj => by rw [hen_509, va_up_ne _ _ (fne2 78 3 74 (by decide))]; exact hwl_507 j hj
  have hwr_509 : ∀ j, j < 9 → en_509 (79 + 3 * j) = .inl (cy 1, 9, .inr (.inl (fun _ => 0))) := fun j hj => by rw [hen_509, va_up_ne _ _ (fne2 79 3 74 (by decide))]; exact hwr_508 j hj
  have e74_509 : en_509 74 = .inl (cy 5, 10, .inr (.inr (.inr (.inr (va_up (va_up (va_up (va_up (va_up (va_up (va_up (va_up (va_up (fun _ => none) (0 : Int32).toNatClampNeg (some q_456)) (1 : Int32).toNatClampNeg (some q_462)) (2 : Int32).toNatClampNeg (some q_468)) (3 : Int32).toNatClampNeg (some q_474)) (4 : Int32).toNatClampNeg (some q_480)) (5 : Int32).toNatClampNeg (some q_486)) (6 : Int32).toNatClampNeg (some q_492)) (7 : Int32).toNatClampNeg (some q_498)) (8 : Int32).toNatClampNeg (some q_504)))))) := by rw [hen_509]; exact va_up_self _ _ _
  clear et_505 e74_505 e75_505 ew76_505 hsn_505 hwo_506 hwl_507 hwr_508 ew101_509
  refine lv_iinc (v := 9) (lv' := [(1, .int 9), (0, .ref (ad 0))]) hx hb dX11_init_94 hl (k := 0) rfl (by decide) (by decide) rfl (fun ls hl => ?_)
  refine lv_goto (tgt := 75) hx hb dX11_init_97 (by decide) ?_
  refine lv_iload_n hx hb dX11_init_75 rfl (lv_at hl 0 rfl) ?_
  refine lv_bipush (v := 10) hx hb dX11_init_76 (by decide) ?_
  refine lv_icmp_ge (tgt := 100) hx hb dX11_init_78 (by decide) (fun c_0 => absurd c_0 (by decide)) (fun _ => ?_)
  refine lv_aload_n hx hb dX11_init_81 rfl (lv_at hl 1 rfl) ?_
  refine hp_get hx hb hts ix11 hown hK hh (q := 0) heta_505 (List.mem_range.mpr (by decide)) et_509 rfl 3 (by decide) (hts _ tw_248) (fun _ h9 => h9) rfl dX11_init_82 ?_
  refine lv_iload_n hx hb dX11_init_85 rfl (lv_at hl 0 rfl) ?_
  refine hq_new (ci := 9) (fs := [.null, .null, .int 0]) hx hb hts ix10 tyX10 tyX10_ok hown (hts _ tw_191) (hts _ tw_206) (hts _ tw_7) hK hh hA rfl (fun j hj => by rcases (show j = 0 ∨ j = 1 ∨ j = 2 by omega) with rfl | rfl | rfl <;> rfl) (Nat.le_of_ble_eq_true rfl) (Nat.le_of_ble_eq_true rfl) dX11_init_86 (fun q_510 H ad_510 en_510 had_510 hen_510 hh => ?_)
  have hh : Hp D A A s.heap H _ (List.range 105) ad_510 en_510 := hh
  have et_510 : en_510 0 = .inr (10, [.ref q_440, .ref q_443, .ref q_446, .ref q_449, .ref q_451, .ref q_453, .int 0, .int 0]) := by rw [hen_510, va_up_ne _ _ (by decide)]; exact et_509
  have heta_510 : ad_510 0 = (ad 0) := by rw [had_510, va_up_ne _ _ (by decide)]; exact heta_505
  have hex1a_510 : ad_510 1 = q_440 := by rw [had_510, va_up_ne _ _ (by decide)]; exact hex1a_505
  have hex12a_510 : ad_510 12 = q_443 := by rw [had_510, va_up_ne _ _ (by decide)]; exact hex12a_505
  have hex70a_510 : ad_510 70 = q_446 := by rw [had_510, va_up_ne _ _ (by decide)]; exact hex70a_505
  have e74_510 : en_510 74 = .inl (cy 5, 10, .inr (.inr (.inr (.inr (va_up (va_up (va_up (va_up (va_up (va_up (va_up (va_up (va_up (fun _ => none) (0 : Int32).toNatClampNeg (some q_456)) (1 : Int32).toNatClampNeg (some q_462)) (2 : Int32).toNatClampNeg (some q_468)) (3 : Int32).toNatClampNeg (some q_474)) (4 : Int32).toNatClampNeg (some q_480)) (5 : Int32).toNatClampNeg (some q_486)) (6 : Int32).toNatClampNeg (some q_492)) (7 : Int32).toNatClampNeg (some q_498)) (8 : Int32).toNatClampNeg (some q_504)))))) := by rw [hen_510, va_up_ne _ _ (by decide)]; exact e74_509
  have he74a_510 : ad_510 74 = q_449 := by rw [had_510, va_up_ne _ _ (by decide)]; exact he74a_505
  have e75_510 : en_510 75 = .inl (cy 6, 4, .inr (.inr (.inr (.inr (fun _ => none))))) := by rw [hen_510, va_up_ne _ _ (by decide)]; exact e75_509
  have he75a_510 : ad_510 75 = q_451 := by rw [had_510, va_up_ne _ _ (by decide)]; exact he75a_505
  have ew76_510 : en_510 76 = .inr (8, [.int 0]) := by rw [hen_510, va_up_ne _ _ (by decide)]; exact ew76_509
  have hew76a_510 : ad_510 76 = q_453 := by rw [had_510, va_up_ne _ _ (by decide)]; exact hew76a_505
  have hew77a_510 : ad_510 77 = q_456 := by rw [had_510, va_up_ne _ _ (by decide)]; exact hew77a_505
  have hew80a_510 : ad_510 80 = q_462 := by rw [had_510, va_up_ne _ _ (by decide)]; exact hew80a_505
  have hew83a_510 : ad_510 83 = q_468 := by rw [had_510, va_up_ne _ _ (by decide)]; exact hew83a_505
  have hew86a_510 : ad_510 86 = q_474 := by rw [had_510, va_up_ne _ _ (by decide)]; exact hew86a_505
  have hew89a_510 : ad_510 89 = q_480 := by rw [had_510, va_up_ne _ _ (by decide)]; exact hew89a_505
  have hew92a_510 : ad_510 92 = q_486 := by rw [had_510, va_up_ne _ _ (by decide)]; exact hew92a_505
  have hew95a_510 : ad_510 95 = q_492 := by rw [had_510, va_up_ne _ _ (by decide)]; exact hew95a_505
  have hew98a_510 : ad_510 98 = q_498 := by rw [had_510, va_up_ne _ _ (by decide)]; exact hew98a_505
  have hew101a_510 : ad_510 101 = q_504 := by rw [had_510, va_up_ne _ _ (by decide)]; exact he101a_505
  have hsn_510 : ∀ j, j < 73 → en_510 (1 + 1 * j) = eK (1 + 1 * j) := fun j hj => by rw [hen_510, va_up_ne _ _ (fne 1 1 104 hj (by decide))]; exact hsn_509 j hj
  have hwo_510 : ∀ j, j < 9 → en_510 (77 + 3 * j) = .inr (9, [.ref (ad_510 (78 + 3 * j)), .ref (ad_510 (79 + 3 * j)), .int 0]) := fun j hj => by rw [hen_510, va_up_ne _ _ (fne 77 3 104 hj (by decide)), had_510, va_up_ne _ _ (fne 78 3 104 hj (by decide)), va_up_ne _ _ (fne 79 3 104 hj (by decide))]; exact hwo_509 j hj
  have hwl_510 : ∀ j, j < 9 → en_510 (78 + 3 * j) = .inl (cy 0, 12, .inl (fun _ => 0)) := fun j hj => by rw [hen_510, va_up_ne _ _ (fne 78 3 104 hj (by decide))]; exact hwl_509 j hj
  have hwr_510 : ∀ j, j < 9 → en_510 (79 + 3 * j) = .inl (cy 1, 9, .inr (.inl (fun _ => 0))) := fun j hj => by rw [hen_510, va_up_ne _ _ (fne 79 3 104 hj (by decide))]; exact hwr_509 j hj
  have e104_510 : en_510 104 = .inr (9, [.null, .null, .int 0]) := by rw [hen_510]; exact va_up_self _ _ _
  have he104a_510 : ad_510 104 = q_510 := by rw [had_510]; exact va_up_self _ _ _
  clear heta_505 hex1a_505 hex12a_505 hex70a_505 he74a_505 he75a_505 hew76a_505 hew77a_505 hew80a_505 hew83a_505 hew86a_505 hew89a_505 hew92a_505 hew95a_505 hew98a_505 he101a_505 et_509 e75_509 ew76_509 hsn_509 hwo_509 hwl_509 hwr_509 e74_509
  refine W.widen (k := 104) (n := 864) (Nat.le_refl _) (Nat.le_refl _) ?_
  refine lv_dup hx hb dX11_init_89 rfl ?_
  refine W.eq (g2 := F0 m 90 ls [.ref (ad_510 104), .ref q_510, .int 9, .ref q_449]) (by rw [he104a_510]) ?_
  refine hq_callC (va_runIN (As := []) (rest := [.ref q_510, .int 9, .ref q_449]) ⟨hx, hb, hml, hown, hts⟩ (c_X10_init l D cy _ ad_510 en_510 105 104 (by decide) e104_510) (kw_X10_init hts hX.2.2.2.2.2.2.2.2.1 ⟨by decide, by decide⟩) (preC_of hh hK hX) rfl rfl hl.1 rfl (lv_room (Nat.le_of_ble_eq_true rfl)) dX11_init_90 ⟨Nat.le_of_ble_eq_true rfl, Nat.le_of_ble_eq_true rfl⟩) hh hA (fun H locs ad_511 en_511 hw_511 hh => ?_)
  have hh : Hp D A A s.heap H _ (List.range 107) ad_511 en_511 := hh
  obtain ⟨hda_511, hue_511, ew_511, ewa_511, ewb_511⟩ := hw_511
  dsimp only at hda_511 hue_511 ew_511 ewa_511 ewb_511
  have et_511 : en_511 0 = .inr (10, [.ref q_440, .ref q_443, .ref q_446, .ref q_449, .ref q_451, .ref q_453, .int 0, .int 0]) := by rw [hue_511 _ (by decide) (by decide)]; exact et_510
  have heta_511 : ad_511 0 = (ad 0) := by rw [hda_511 _ (by decide)]; exact heta_510
  have hex1a_511 : ad_511 1 = q_440 := by rw [hda_511 _ (by decide)]; exact hex1a_510
  have hex12a_511 : ad_511 12 = q_443 := by rw [hda_511 _ (by decide)]; exact hex12a_510
  have hex70a_511 : ad_511 70 = q_446 := by rw [hda_511 _ (by decide)]; exact hex70a_510
  have e74_511 : en_511 74 = .inl (cy 5, 10, .inr (.inr (.inr (.inr (va_up (va_up (va_up (va_up (va_up (va_up (va_up (va_up (va_up (fun _ => none) (0 : Int32).toNatClampNeg (some q_456)) (1 : Int32).toNatClampNeg (some q_462)) (2 : Int32).toNatClampNeg (some q_468)) (3 : Int32).toNatClampNeg (some q_474)) (4 : Int32).toNatClampNeg (some q_480)) (5 : Int32).toNatClampNeg (some q_486)) (6 : Int32).toNatClampNeg (some q_492)) (7 : Int32).toNatClampNeg (some q_498)) (8 : Int32).toNatClampNeg (some q_504)))))) := by rw [hue_511 _ (by decide) (by decide)]; exact e74_510
  have he74a_511 : ad_511 74 = q_449 := by rw [hda_511 _ (by decide)]; exact he74a_510
  have e75_511 : en_511 75 = .inl (cy 6, 4, .inr (.inr (.inr (.inr (fun _ => none))))) := by rw [hue_511 _ (by decide) (by decide)]; exact e75_510
  have he75a_511 : ad_511 75 = q_451 := by rw [hda_511 _ (by decide)]; exact he75a_510
  have ew76_511 : en_511 76 = .inr (8, [.int 0]) := by rw [hue_511 _ (by decide) (by decide)]; exact ew76_510
  have hew76a_511 : ad_511 76 = q_453 := by rw [hda_511 _ (by decide)]; exact hew76a_510
  have hew77a_511 : ad_511 77 = q_456 := by rw [hda_511 _ (by decide)]; exact hew77a_510
  have hew80a_511 : ad_511 80 = q_462 := by rw [hda_511 _ (by decide)]; exact hew80a_510
  have hew83a_511 : ad_511 83 = q_468 := by rw [hda_511 _ (by decide)]; exact hew83a_510
  have hew86a_511 : ad_511 86 = q_474 := by rw [hda_511 _ (by decide)]; exact hew86a_510
  have hew89a_511 : ad_511 89 = q_480 := by rw [hda_511 _ (by decide)]; exact hew89a_510
  have hew92a_511 : ad_511 92 = q_486 := by rw [hda_511 _ (by decide)]; exact hew92a_510
  have hew95a_511 : ad_511 95 = q_492 := by rw [hda_511 _ (by decide)]; exact hew95a_510
  have hew98a_511 : ad_511 98 = q_498 := by rw [hda_511 _ (by decide)]; exact hew98a_510
  have hew101a_511 : ad_511 101 = q_504 := by rw [hda_511 _ (by decide)]; exact hew101a_510
  have he104a_511 : ad_511 104 = q_510 := by rw [hda_511 _ (by decide)]; exact he104a_510
  have hsn_511 : ∀ j, j < 73 → en_511 (1 + 1 * j) = eK (1 + 1 * j) := fun j hj => by rw [hue_511 _ (flt 1 1 105 hj (by decide)) (fne 1 1 104 hj (by decide))]; exact hsn_510 j hj
  have hwo_511 : ∀ j, j < 9 → en_511 (77 + 3 * j) = .inr (9, [.ref (ad_511 (78 + 3 * j)), .ref (ad_511 (79 + 3 * j)), .int 0]) := fun j hj => by rw [hue_511 _ (flt 77 3 105 hj (by decide)) (fne 77 3 104 hj (by decide)), hda_511 _ (flt 78 3 105 hj (by decide)), hda_511 _ (flt 79 3 105 hj (by decide))]; exact hwo_510 j hj
  have hwl_511 : ∀ j, j < 9 → en_511 (78 + 3 * j) = .inl (cy 0, 12, .inl (fun _ => 0)) := fun j hj => by rw [hue_511 _ (flt 78 3 105 hj (by decide)) (fne 78 3 104 hj (by decide))]; exact hwl_510 j hj
  have hwr_511 : ∀ j, j < 9 → en_511 (79 + 3 * j) = .inl (cy 1, 9, .inr (.inl (fun _ => 0))) := fun j hj => by rw [hue_511 _ (flt 79 3 105 hj (by decide)) (fne 79 3 104 hj (by decide))]; exact hwr_510 j hj
  have ew104_511 := ew_511
  have hwo_512 : ∀ j, j < 10 → en_511 (77 + 3 * j) = .inr (9, [.ref (ad_511 (78 + 3 * j)), .ref (ad_511 (79 + 3 * j)), .int 0]) := fun j hj => (Nat.lt_or_ge j 9).elim (fun h => hwo_511 j h) (fun h => by have e0 : j = 9 := (by omega); subst e0; exact ew_511)
  have hwl_513 : ∀ j, j < 10 → en_511 (78 + 3 * j) = .inl (cy 0, 12, .inl (fun _ => 0)) := fun j hj => (Nat.lt_or_ge j 9).elim (fun h => hwl_511 j h) (fun h => by have e0 : j = 9 := (by omega); subst e0; exact ewa_511)
  have hwr_514 : ∀ j, j < 10 → en_511 (79 + 3 * j) = .inl (cy 1, 9, .inr (.inl (fun _ => 0))) := fun j hj => (Nat.lt_or_ge j 9).elim (fun h => hwr_511 j h) (fun h => by have e0 : j = 9 := (by omega); subst e0; exact ewb_511)
  clear et_510 heta_510 hex1a_510 hex12a_510 hex70a_510 e74_510 he74a_510 e75_510 he75a_510 ew76_510 hew76a_510 hew77a_510 hew80a_510 hew83a_510 hew86a_510 hew89a_510 hew92a_510 hew95a_510 hew98a_510 hew101a_510 hsn_510 hwo_510 hwl_510 hwr_510 e104_510 he104a_510 hwo_511 hwl_511 hwr_511
  refine W.widen (k := 106) (n := 885) (Nat.le_refl _) (Nat.le_refl _) ?_
  refine hp_astq hx hb hK hh (q := 74) (v := 104) he74a_511 (List.mem_range.mpr (by decide)) he104a_511 (List.mem_range.mpr (by decide)) e74_511 ew104_511 rfl rfl (vp_in_iff.mpr (by decide)) dX11_init_93 (fun H locs en_515 hen_515 hh => ?_)
  have et_515 : en_515 0 = .inr (10, [.ref q_440, .ref q_443, .ref q_446, .ref q_449, .ref q_451, .ref q_453, .int 0, .int 0]) := by rw [hen_515, va_up_ne _ _ (by decide)]; exact et_511
  have e75_515 : en_515 75 = .inl (cy 6, 4, .inr (.inr (.inr (.inr (fun _ => none))))) := by rw [hen_515, va_up_ne _ _ (by decide)]; exact e75_511
  have ew76_515 : en_515 76 = .inr (8, [.int 0]) := by rw [hen_515, va_up_ne _ _ (by decide)]; exact ew76_511
  have ew104_515 : en_515 104 = .inr (9, [.ref (ad_511 105), .ref (ad_511 106), .int 0]) := by rw [hen_515, va_up_ne _ _ (by decide)]; exact ew104_511
  have hsn_515 : ∀ j, j < 73 → en_515 (1 + 1 * j) = eK (1 + 1 * j) := fun j hj => by rw [hen_515, va_up_ne _ _ (fne 1 1 74 hj (by decide))]; exact hsn_511 j hj
  have hwo_515 : ∀ j, j < 10 → en_515 (77 + 3 * j) = .inr (9, [.ref (ad_511 (78 + 3 * j)), .ref (ad_511 (79 + 3 * j)), .int 0]) := fun j hj => by rw [hen_515, va_up_ne _ _ (fne2 77 3 74 (by decide))]; exact hwo_512 j hj
  have hwl_515 : ∀ j, j < 10 → en_515 (78 + 3 * j) = .inl (cy 0, 12, .inl (fun _ => 0)) := fun j hj => by rw [hen_515, va_up_ne _ _ (fne2 78 3 74 (by decide))]; exact hwl_513 j hj
  have hwr_515 : ∀ j, j < 10 → en_515 (79 + 3 * j) = .inl (cy 1, 9, .inr (.inl (fun _ => 0))) := fun j hj => by rw [hen_515, va_up_ne _ _ (fne2 79 3 74 (by decide))]; exact hwr_514 j hj
  have e74_515 : en_515 74 = .inl (cy 5, 10, .inr (.inr (.inr (.inr (va_up (va_up (va_up (va_up (va_up (va_up (va_up (va_up (va_up (va_up (fun _ => none) (0 : Int32).toNatClampNeg (some q_456)) (1 : Int32).toNatClampNeg (some q_462)) (2 : Int32).toNatClampNeg (some q_468)) (3 : Int32).toNatClampNeg (some q_474)) (4 : Int32).toNatClampNeg (some q_480)) (5 : Int32).toNatClampNeg (some q_486)) (6 : Int32).toNatClampNeg (some q_492)) (7 : Int32).toNatClampNeg (some q_498)) (8 : Int32).toNatClampNeg (some q_504)) (9 : Int32).toNatClampNeg (some q_510)))))) := by rw [hen_515]; exact va_up_self _ _ _
  clear et_511 e74_511 e75_511 ew76_511 hsn_511 hwo_512 hwl_513 hwr_514 ew104_515
  refine lv_iinc (v := 10) (lv' := [(1, .int 10), (0, .ref (ad 0))]) hx hb dX11_init_94 hl (k := 0) rfl (by decide) (by decide) rfl (fun ls hl => ?_)
  refine lv_goto (tgt := 75) hx hb dX11_init_97 (by decide) ?_
  refine lv_iload_n hx hb dX11_init_75 rfl (lv_at hl 0 rfl) ?_
  refine lv_bipush (v := 10) hx hb dX11_init_76 (by decide) ?_
  refine lv_icmp_ge (tgt := 100) hx hb dX11_init_78 (by decide) (fun _ => ?_) (fun c_0 => absurd c_0 (by decide))
  refine lv_iconst (v := 0) hx hb dX11_init_100 (by decide) ?_
  refine lv_istore_n (lv' := [(1, .int 0), (0, .ref (ad 0))]) hx hb dX11_init_101 rfl hl (by decide) rfl (fun ls hl => ?_)
  refine lv_iload_n hx hb dX11_init_102 rfl (lv_at hl 0 rfl) ?_
  refine lv_iconst (v := 4) hx hb dX11_init_103 (by decide) ?_
  refine lv_icmp_ge (tgt := 126) hx hb dX11_init_104 (by decide) (fun c_0 => absurd c_0 (by decide)) (fun _ => ?_)
  refine lv_aload_n hx hb dX11_init_107 rfl (lv_at hl 1 rfl) ?_
  refine hp_get hx hb hts ix11 hown hK hh (q := 0) heta_511 (List.mem_range.mpr (by decide)) et_515 rfl 4 (by decide) (hts _ tw_249) (fun _ h9 => h9) rfl dX11_init_108 ?_
  refine lv_iload_n hx hb dX11_init_111 rfl (lv_at hl 0 rfl) ?_
  refine hq_new (ci := 3) (fs := [.null, .int 0, .int 0, .int 0]) hx hb hts ix3 tyX3 tyX3_ok hown (hts _ tw_193) (hts _ tw_224) (hts _ tw_8) hK hh hA rfl (fun j hj => by rcases (show j = 0 ∨ j = 1 ∨ j = 2 ∨ j = 3 by omega) with rfl | rfl | rfl | rfl <;> rfl) (Nat.le_of_ble_eq_true rfl) (Nat.le_of_ble_eq_true rfl) dX11_init_112 (fun q_516 H ad_516 en_516 had_516 hen_516 hh => ?_)
  have hh : Hp D A A s.heap H _ (List.range 108) ad_516 en_516 := hh
  have et_516 : en_516 0 = .inr (10, [.ref q_440, .ref q_443, .ref q_446, .ref q_449, .ref q_451, .ref q_453, .int 0, .int 0]) := by rw [hen_516, va_up_ne _ _ (by decide)]; exact et_515
  have heta_516 : ad_516 0 = (ad 0) := by rw [had_516, va_up_ne _ _ (by decide)]; exact heta_511
  have hex1a_516 : ad_516 1 = q_440 := by rw [had_516, va_up_ne _ _ (by decide)]; exact hex1a_511
  have hex12a_516 : ad_516 12 = q_443 := by rw [had_516, va_up_ne _ _ (by decide)]; exact hex12a_511
  have hex70a_516 : ad_516 70 = q_446 := by rw [had_516, va_up_ne _ _ (by decide)]; exact hex70a_511
  have e74_516 : en_516 74 = .inl (cy 5, 10, .inr (.inr (.inr (.inr (va_up (va_up (va_up (va_up (va_up (va_up (va_up (va_up (va_up (va_up (fun _ => none) (0 : Int32).toNatClampNeg (some q_456)) (1 : Int32).toNatClampNeg (some q_462)) (2 : Int32).toNatClampNeg (some q_468)) (3 : Int32).toNatClampNeg (some q_474)) (4 : Int32).toNatClampNeg (some q_480)) (5 : Int32).toNatClampNeg (some q_486)) (6 : Int32).toNatClampNeg (some q_492)) (7 : Int32).toNatClampNeg (some q_498)) (8 : Int32).toNatClampNeg (some q_504)) (9 : Int32).toNatClampNeg (some q_510)))))) := by rw [hen_516, va_up_ne _ _ (by decide)]; exact e74_515
  have he74a_516 : ad_516 74 = q_449 := by rw [had_516, va_up_ne _ _ (by decide)]; exact he74a_511
  have e75_516 : en_516 75 = .inl (cy 6, 4, .inr (.inr (.inr (.inr (fun _ => none))))) := by rw [hen_516, va_up_ne _ _ (by decide)]; exact e75_515
  have he75a_516 : ad_516 75 = q_451 := by rw [had_516, va_up_ne _ _ (by decide)]; exact he75a_511
  have ew76_516 : en_516 76 = .inr (8, [.int 0]) := by rw [hen_516, va_up_ne _ _ (by decide)]; exact ew76_515
  have hew76a_516 : ad_516 76 = q_453 := by rw [had_516, va_up_ne _ _ (by decide)]; exact hew76a_511
  have hew77a_516 : ad_516 77 = q_456 := by rw [had_516, va_up_ne _ _ (by decide)]; exact hew77a_511
  have hew80a_516 : ad_516 80 = q_462 := by rw [had_516, va_up_ne _ _ (by decide)]; exact hew80a_511
  have hew83a_516 : ad_516 83 = q_468 := by rw [had_516, va_up_ne _ _ (by decide)]; exact hew83a_511
  have hew86a_516 : ad_516 86 = q_474 := by rw [had_516, va_up_ne _ _ (by decide)]; exact hew86a_511
  have hew89a_516 : ad_516 89 = q_480 := by rw [had_516, va_up_ne _ _ (by decide)]; exact hew89a_511
  have hew92a_516 : ad_516 92 = q_486 := by rw [had_516, va_up_ne _ _ (by decide)]; exact hew92a_511
  have hew95a_516 : ad_516 95 = q_492 := by rw [had_516, va_up_ne _ _ (by decide)]; exact hew95a_511
  have hew98a_516 : ad_516 98 = q_498 := by rw [had_516, va_up_ne _ _ (by decide)]; exact hew98a_511
  have hew101a_516 : ad_516 101 = q_504 := by rw [had_516, va_up_ne _ _ (by decide)]; exact hew101a_511
  have hew104a_516 : ad_516 104 = q_510 := by rw [had_516, va_up_ne _ _ (by decide)]; exact he104a_511
  have hsn_516 : ∀ j, j < 73 → en_516 (1 + 1 * j) = eK (1 + 1 * j) := fun j hj => by rw [hen_516, va_up_ne _ _ (fne 1 1 107 hj (by decide))]; exact hsn_515 j hj
  have hwo_516 : ∀ j, j < 10 → en_516 (77 + 3 * j) = .inr (9, [.ref (ad_516 (78 + 3 * j)), .ref (ad_516 (79 + 3 * j)), .int 0]) := fun j hj => by rw [hen_516, va_up_ne _ _ (fne 77 3 107 hj (by decide)), had_516, va_up_ne _ _ (fne 78 3 107 hj (by decide)), va_up_ne _ _ (fne 79 3 107 hj (by decide))]; exact hwo_515 j hj
  have hwl_516 : ∀ j, j < 10 → en_516 (78 + 3 * j) = .inl (cy 0, 12, .inl (fun _ => 0)) := fun j hj => by rw [hen_516, va_up_ne _ _ (fne 78 3 107 hj (by decide))]; exact hwl_515 j hj
  have hwr_516 : ∀ j, j < 10 → en_516 (79 + 3 * j) = .inl (cy 1, 9, .inr (.inl (fun _ => 0))) := fun j hj => by rw [hen_516, va_up_ne _ _ (fne 79 3 107 hj (by decide))]; exact hwr_515 j hj
  have e107_516 : en_516 107 = .inr (3, [.null, .int 0, .int 0, .int 0]) := by rw [hen_516]; exact va_up_self _ _ _
  have he107a_516 : ad_516 107 = q_516 := by rw [had_516]; exact va_up_self _ _ _
  clear heta_511 hex1a_511 hex12a_511 hex70a_511 he74a_511 he75a_511 hew76a_511 hew77a_511 hew80a_511 hew83a_511 hew86a_511 hew89a_511 hew92a_511 hew95a_511 hew98a_511 hew101a_511 he104a_511 et_515 e75_515 ew76_515 hsn_515 hwo_515 hwl_515 hwr_515 e74_515
  refine W.widen (k := 107) (n := 889) (Nat.le_refl _) (Nat.le_refl _) ?_
  refine lv_dup hx hb dX11_init_115 rfl ?_
  refine W.eq (g2 := F0 m 116 ls [.ref (ad_516 107), .ref q_516, .int 0, .ref q_451]) (by rw [he107a_516]) ?_
  refine hq_callC (va_runIN (As := []) (rest := [.ref q_516, .int 0, .ref q_451]) ⟨hx, hb, hml, hown, hts⟩ (c_X3_init l D cy _ ad_516 en_516 108 107 (by decide) e107_516) (kw_X3_init hts hX.2.2.2.2.2.2.2.2.2.1 ⟨by decide, by decide⟩) (preC_of hh hK hX) rfl rfl hl.1 rfl (lv_room (Nat.le_of_ble_eq_true rfl)) dX11_init_116 ⟨Nat.le_of_ble_eq_true rfl, Nat.le_of_ble_eq_true rfl⟩) hh hA (fun H locs ad_517 en_517 hw_517 hh => ?_)
  have hh : Hp D A A s.heap H _ (List.range 109) ad_517 en_517 := hh
  obtain ⟨hda_517, hue_517, ew_517, ewa_517⟩ := hw_517
  dsimp only at hda_517 hue_517 ew_517 ewa_517
  have et_517 : en_517 0 = .inr (10, [.ref q_440, .ref q_443, .ref q_446, .ref q_449, .ref q_451, .ref q_453, .int 0, .int 0]) := by rw [hue_517 _ (by decide) (by decide)]; exact et_516
  have heta_517 : ad_517 0 = (ad 0) := by rw [hda_517 _ (by decide)]; exact heta_516
  have hex1a_517 : ad_517 1 = q_440 := by rw [hda_517 _ (by decide)]; exact hex1a_516
  have hex12a_517 : ad_517 12 = q_443 := by rw [hda_517 _ (by decide)]; exact hex12a_516
  have hex70a_517 : ad_517 70 = q_446 := by rw [hda_517 _ (by decide)]; exact hex70a_516
  have e74_517 : en_517 74 = .inl (cy 5, 10, .inr (.inr (.inr (.inr (va_up (va_up (va_up (va_up (va_up (va_up (va_up (va_up (va_up (va_up (fun _ => none) (0 : Int32).toNatClampNeg (some q_456)) (1 : Int32).toNatClampNeg (some q_462)) (2 : Int32).toNatClampNeg (some q_468)) (3 : Int32).toNatClampNeg (some q_474)) (4 : Int32).toNatClampNeg (some q_480)) (5 : Int32).toNatClampNeg (some q_486)) (6 : Int32).toNatClampNeg (some q_492)) (7 : Int32).toNatClampNeg (some q_498)) (8 : Int32).toNatClampNeg (some q_504)) (9 : Int32).toNatClampNeg (some q_510)))))) := by rw [hue_517 _ (by decide) (by decide)]; exact e74_516
  have he74a_517 : ad_517 74 = q_449 := by rw [hda_517 _ (by decide)]; exact he74a_516
  have e75_517 : en_517 75 = .inl (cy 6, 4, .inr (.inr (.inr (.inr (fun _ => none))))) := by rw [hue_517 _ (by decide) (by decide)]; exact e75_516
  have he75a_517 : ad_517 75 = q_451 := by rw [hda_517 _ (by decide)]; exact he75a_516
  have ew76_517 : en_517 76 = .inr (8, [.int 0]) := by rw [hue_517 _ (by decide) (by decide)]; exact ew76_516
  have hew76a_517 : ad_517 76 = q_453 := by rw [hda_517 _ (by decide)]; exact hew76a_516
  have hew77a_517 : ad_517 77 = q_456 := by rw [hda_517 _ (by decide)]; exact hew77a_516
  have hew80a_517 : ad_517 80 = q_462 := by rw [hda_517 _ (by decide)]; exact hew80a_516
  have hew83a_517 : ad_517 83 = q_468 := by rw [hda_517 _ (by decide)]; exact hew83a_516
  have hew86a_517 : ad_517 86 = q_474 := by rw [hda_517 _ (by decide)]; exact hew86a_516
  have hew89a_517 : ad_517 89 = q_480 := by rw [hda_517 _ (by decide)]; exact hew89a_516
  have hew92a_517 : ad_517 92 = q_486 := by rw [hda_517 _ (by decide)]; exact hew92a_516
  have hew95a_517 : ad_517 95 = q_492 := by rw [hda_517 _ (by decide)]; exact hew95a_516
  have hew98a_517 : ad_517 98 = q_498 := by rw [hda_517 _ (by decide)]; exact hew98a_516
  have hew101a_517 : ad_517 101 = q_504 := by rw [hda_517 _ (by decide)]; exact hew101a_516
  have hew104a_517 : ad_517 104 = q_510 := by rw [hda_517 _ (by decide)]; exact hew104a_516
  have he107a_517 : ad_517 107 = q_516 := by rw [hda_517 _ (by decide)]; exact he107a_516
  have hsn_517 : ∀ j, j < 73 → en_517 (1 + 1 * j) = eK (1 + 1 * j) := fun j hj => by rw [hue_517 _ (flt 1 1 108 hj (by decide)) (fne 1 1 107 hj (by decide))]; exact hsn_516 j hj
  have hwo_517 : ∀ j, j < 10 → en_517 (77 + 3 * j) = .inr (9, [.ref (ad_517 (78 + 3 * j)), .ref (ad_517 (79 + 3 * j)), .int 0]) := fun j hj => by rw [hue_517 _ (flt 77 3 108 hj (by decide)) (fne 77 3 107 hj (by decide)), hda_517 _ (flt 78 3 108 hj (by decide)), hda_517 _ (flt 79 3 108 hj (by decide))]; exact hwo_516 j hj
  have hwl_517 : ∀ j, j < 10 → en_517 (78 + 3 * j) = .inl (cy 0, 12, .inl (fun _ => 0)) := fun j hj => by rw [hue_517 _ (flt 78 3 108 hj (by decide)) (fne 78 3 107 hj (by decide))]; exact hwl_516 j hj
  have hwr_517 : ∀ j, j < 10 → en_517 (79 + 3 * j) = .inl (cy 1, 9, .inr (.inl (fun _ => 0))) := fun j hj => by rw [hue_517 _ (flt 79 3 108 hj (by decide)) (fne 79 3 107 hj (by decide))]; exact hwr_516 j hj
  have ew107_517 := ew_517
  have hs_518 : ∀ j, j < 1 → en_517 (107 + 2 * j) = .inr (3, [.ref (ad_517 (108 + 2 * j)), .int 0, .int 0, .int 0]) := fun j hj => by have e0 : j = 0 := (by omega); subst e0; exact ew_517
  have hc_519 : ∀ j, j < 1 → en_517 (108 + 2 * j) = .inl (cy 0, 40, .inl (fun _ => 0)) := fun j hj => by have e0 : j = 0 := (by omega); subst e0; exact ewa_517
  clear et_516 heta_516 hex1a_516 hex12a_516 hex70a_516 e74_516 he74a_516 e75_516 he75a_516 ew76_516 hew76a_516 hew77a_516 hew80a_516 hew83a_516 hew86a_516 hew89a_516 hew92a_516 hew95a_516 hew98a_516 hew101a_516 hew104a_516 hsn_516 hwo_516 hwl_516 hwr_516 e107_516 he107a_516
  refine W.widen (k := 108) (n := 929) (Nat.le_refl _) (Nat.le_refl _) ?_
  refine hp_astq hx hb hK hh (q := 75) (v := 107) he75a_517 (List.mem_range.mpr (by decide)) he107a_517 (List.mem_range.mpr (by decide)) e75_517 ew107_517 rfl rfl (vp_in_iff.mpr (by decide)) dX11_init_119 (fun H locs en_520 hen_520 hh => ?_)
  have et_520 : en_520 0 = .inr (10, [.ref q_440, .ref q_443, .ref q_446, .ref q_449, .ref q_451, .ref q_453, .int 0, .int 0]) := by rw [hen_520, va_up_ne _ _ (by decide)]; exact et_517
  have e74_520 : en_520 74 = .inl (cy 5, 10, .inr (.inr (.inr (.inr (va_up (va_up (va_up (va_up (va_up (va_up (va_up (va_up (va_up (va_up (fun _ => none) (0 : Int32).toNatClampNeg (some q_456)) (1 : Int32).toNatClampNeg (some q_462)) (2 : Int32).toNatClampNeg (some q_468)) (3 : Int32).toNatClampNeg (some q_474)) (4 : Int32).toNatClampNeg (some q_480)) (5 : Int32).toNatClampNeg (some q_486)) (6 : Int32).toNatClampNeg (some q_492)) (7 : Int32).toNatClampNeg (some q_498)) (8 : Int32).toNatClampNeg (some q_504)) (9 : Int32).toNatClampNeg (some q_510)))))) := by rw [hen_520, va_up_ne _ _ (by decide)]; exact e74_517
  have ew76_520 : en_520 76 = .inr (8, [.int 0]) := by rw [hen_520, va_up_ne _ _ (by decide)]; exact ew76_517
  have ew107_520 : en_520 107 = .inr (3, [.ref (ad_517 108), .int 0, .int 0, .int 0]) := by rw [hen_520, va_up_ne _ _ (by decide)]; exact ew107_517
  have hsn_520 : ∀ j, j < 73 → en_520 (1 + 1 * j) = eK (1 + 1 * j) := fun j hj => by rw [hen_520, va_up_ne _ _ (fne 1 1 75 hj (by decide))]; exact hsn_517 j hj
  have hwo_520 : ∀ j, j < 10 → en_520 (77 + 3 * j) = .inr (9, [.ref (ad_517 (78 + 3 * j)), .ref (ad_517 (79 + 3 * j)), .int 0]) := fun j hj => by rw [hen_520, va_up_ne _ _ (fne2 77 3 75 (by decide))]; exact hwo_517 j hj
  have hwl_520 : ∀ j, j < 10 → en_520 (78 + 3 * j) = .inl (cy 0, 12, .inl (fun _ => 0)) := fun j hj => by rw [hen_520, va_up_ne _ _ (fne2 78 3 75 (by decide))]; exact hwl_517 j hj
  have hwr_520 : ∀ j, j < 10 → en_520 (79 + 3 * j) = .inl (cy 1, 9, .inr (.inl (fun _ => 0))) := fun j hj => by rw [hen_520, va_up_ne _ _ (fne2 79 3 75 (by decide))]; exact hwr_517 j hj
  have hs_520 : ∀ j, j < 1 → en_520 (107 + 2 * j) = .inr (3, [.ref (ad_517 (108 + 2 * j)), .int 0, .int 0, .int 0]) := fun j hj => by rw [hen_520, va_up_ne _ _ (fne2 107 2 75 (by decide))]; exact hs_518 j hj
  have hc_520 : ∀ j, j < 1 → en_520 (108 + 2 * j) = .inl (cy 0, 40, .inl (fun _ => 0)) := fun j hj => by rw [hen_520, va_up_ne _ _ (fne2 108 2 75 (by decide))]; exact hc_519 j hj
  have e75_520 : en_520 75 = .inl (cy 6, 4, .inr (.inr (.inr (.inr (va_up (fun _ => none) (0 : Int32).toNatClampNeg (some q_516)))))) := by rw [hen_520]; exact va_up_self _ _ _
  clear et_517 e74_517 e75_517 ew76_517 hsn_517 hwo_517 hwl_517 hwr_517 hs_518 hc_519 ew107_520
  refine lv_iinc (v := 1) (lv' := [(1, .int 1), (0, .ref (ad 0))]) hx hb dX11_init_120 hl (k := 0) rfl (by decide) (by decide) rfl (fun ls hl => ?_)
  refine lv_goto (tgt := 102) hx hb dX11_init_123 (by decide) ?_
  refine lv_iload_n hx hb dX11_init_102 rfl (lv_at hl 0 rfl) ?_
  refine lv_iconst (v := 4) hx hb dX11_init_103 (by decide) ?_
  refine lv_icmp_ge (tgt := 126) hx hb dX11_init_104 (by decide) (fun c_0 => absurd c_0 (by decide)) (fun _ => ?_)
  refine lv_aload_n hx hb dX11_init_107 rfl (lv_at hl 1 rfl) ?_
  refine hp_get hx hb hts ix11 hown hK hh (q := 0) heta_517 (List.mem_range.mpr (by decide)) et_520 rfl 4 (by decide) (hts _ tw_249) (fun _ h9 => h9) rfl dX11_init_108 ?_
  refine lv_iload_n hx hb dX11_init_111 rfl (lv_at hl 0 rfl) ?_
  refine hq_new (ci := 3) (fs := [.null, .int 0, .int 0, .int 0]) hx hb hts ix3 tyX3 tyX3_ok hown (hts _ tw_193) (hts _ tw_224) (hts _ tw_8) hK hh hA rfl (fun j hj => by rcases (show j = 0 ∨ j = 1 ∨ j = 2 ∨ j = 3 by omega) with rfl | rfl | rfl | rfl <;> rfl) (Nat.le_of_ble_eq_true rfl) (Nat.le_of_ble_eq_true rfl) dX11_init_112 (fun q_521 H ad_521 en_521 had_521 hen_521 hh => ?_)
  have hh : Hp D A A s.heap H _ (List.range 110) ad_521 en_521 := hh
  have et_521 : en_521 0 = .inr (10, [.ref q_440, .ref q_443, .ref q_446, .ref q_449, .ref q_451, .ref q_453, .int 0, .int 0]) := by rw [hen_521, va_up_ne _ _ (by decide)]; exact et_520
  have heta_521 : ad_521 0 = (ad 0) := by rw [had_521, va_up_ne _ _ (by decide)]; exact heta_517
  have hex1a_521 : ad_521 1 = q_440 := by rw [had_521, va_up_ne _ _ (by decide)]; exact hex1a_517
  have hex12a_521 : ad_521 12 = q_443 := by rw [had_521, va_up_ne _ _ (by decide)]; exact hex12a_517
  have hex70a_521 : ad_521 70 = q_446 := by rw [had_521, va_up_ne _ _ (by decide)]; exact hex70a_517
  have e74_521 : en_521 74 = .inl (cy 5, 10, .inr (.inr (.inr (.inr (va_up (va_up (va_up (va_up (va_up (va_up (va_up (va_up (va_up (va_up (fun _ => none) (0 : Int32).toNatClampNeg (some q_456)) (1 : Int32).toNatClampNeg (some q_462)) (2 : Int32).toNatClampNeg (some q_468)) (3 : Int32).toNatClampNeg (some q_474)) (4 : Int32).toNatClampNeg (some q_480)) (5 : Int32).toNatClampNeg (some q_486)) (6 : Int32).toNatClampNeg (some q_492)) (7 : Int32).toNatClampNeg (some q_498)) (8 : Int32).toNatClampNeg (some q_504)) (9 : Int32).toNatClampNeg (some q_510)))))) := by rw [hen_521, va_up_ne _ _ (by decide)]; exact e74_520
  have he74a_521 : ad_521 74 = q_449 := by rw [had_521, va_up_ne _ _ (by decide)]; exact he74a_517
  have e75_521 : en_521 75 = .inl (cy 6, 4, .inr (.inr (.inr (.inr (va_up (fun _ => none) (0 : Int32).toNatClampNeg (some q_516)))))) := by rw [hen_521, va_up_ne _ _ (by decide)]; exact e75_520
  have he75a_521 : ad_521 75 = q_451 := by rw [had_521, va_up_ne _ _ (by decide)]; exact he75a_517
  have ew76_521 : en_521 76 = .inr (8, [.int 0]) := by rw [hen_521, va_up_ne _ _ (by decide)]; exact ew76_520
  have hew76a_521 : ad_521 76 = q_453 := by rw [had_521, va_up_ne _ _ (by decide)]; exact hew76a_517
  have hew77a_521 : ad_521 77 = q_456 := by rw [had_521, va_up_ne _ _ (by decide)]; exact hew77a_517
  have hew80a_521 : ad_521 80 = q_462 := by rw [had_521, va_up_ne _ _ (by decide)]; exact hew80a_517
  have hew83a_521 : ad_521 83 = q_468 := by rw [had_521, va_up_ne _ _ (by decide)]; exact hew83a_517
  have hew86a_521 : ad_521 86 = q_474 := by rw [had_521, va_up_ne _ _ (by decide)]; exact hew86a_517
  have hew89a_521 : ad_521 89 = q_480 := by rw [had_521, va_up_ne _ _ (by decide)]; exact hew89a_517
  have hew92a_521 : ad_521 92 = q_486 := by rw [had_521, va_up_ne _ _ (by decide)]; exact hew92a_517
  have hew95a_521 : ad_521 95 = q_492 := by rw [had_521, va_up_ne _ _ (by decide)]; exact hew95a_517
  have hew98a_521 : ad_521 98 = q_498 := by rw [had_521, va_up_ne _ _ (by decide)]; exact hew98a_517
  have hew101a_521 : ad_521 101 = q_504 := by rw [had_521, va_up_ne _ _ (by decide)]; exact hew101a_517
  have hew104a_521 : ad_521 104 = q_510 := by rw [had_521, va_up_ne _ _ (by decide)]; exact hew104a_517
  have hew107a_521 : ad_521 107 = q_516 := by rw [had_521, va_up_ne _ _ (by decide)]; exact he107a_517
  have hsn_521 : ∀ j, j < 73 → en_521 (1 + 1 * j) = eK (1 + 1 * j) := fun j hj => by rw [hen_521, va_up_ne _ _ (fne 1 1 109 hj (by decide))]; exact hsn_520 j hj
  have hwo_521 : ∀ j, j < 10 → en_521 (77 + 3 * j) = .inr (9, [.ref (ad_521 (78 + 3 * j)), .ref (ad_521 (79 + 3 * j)), .int 0]) := fun j hj => by rw [hen_521, va_up_ne _ _ (fne 77 3 109 hj (by decide)), had_521, va_up_ne _ _ (fne 78 3 109 hj (by decide)), va_up_ne _ _ (fne 79 3 109 hj (by decide))]; exact hwo_520 j hj
  have hwl_521 : ∀ j, j < 10 → en_521 (78 + 3 * j) = .inl (cy 0, 12, .inl (fun _ => 0)) := fun j hj => by rw [hen_521, va_up_ne _ _ (fne 78 3 109 hj (by decide))]; exact hwl_520 j hj
  have hwr_521 : ∀ j, j < 10 → en_521 (79 + 3 * j) = .inl (cy 1, 9, .inr (.inl (fun _ => 0))) := fun j hj => by rw [hen_521, va_up_ne _ _ (fne 79 3 109 hj (by decide))]; exact hwr_520 j hj
  have hs_521 : ∀ j, j < 1 → en_521 (107 + 2 * j) = .inr (3, [.ref (ad_521 (108 + 2 * j)), .int 0, .int 0, .int 0]) := fun j hj => by rw [hen_521, va_up_ne _ _ (fne 107 2 109 hj (by decide)), had_521, va_up_ne _ _ (fne 108 2 109 hj (by decide))]; exact hs_520 j hj
  have hc_521 : ∀ j, j < 1 → en_521 (108 + 2 * j) = .inl (cy 0, 40, .inl (fun _ => 0)) := fun j hj => by rw [hen_521, va_up_ne _ _ (fne 108 2 109 hj (by decide))]; exact hc_520 j hj
  have e109_521 : en_521 109 = .inr (3, [.null, .int 0, .int 0, .int 0]) := by rw [hen_521]; exact va_up_self _ _ _
  have he109a_521 : ad_521 109 = q_521 := by rw [had_521]; exact va_up_self _ _ _
  clear heta_517 hex1a_517 hex12a_517 hex70a_517 he74a_517 he75a_517 hew76a_517 hew77a_517 hew80a_517 hew83a_517 hew86a_517 hew89a_517 hew92a_517 hew95a_517 hew98a_517 hew101a_517 hew104a_517 he107a_517 et_520 e74_520 ew76_520 hsn_520 hwo_520 hwl_520 hwr_520 hs_520 hc_520 e75_520
  refine W.widen (k := 109) (n := 933) (Nat.le_refl _) (Nat.le_refl _) ?_
  refine lv_dup hx hb dX11_init_115 rfl ?_
  refine W.eq (g2 := F0 m 116 ls [.ref (ad_521 109), .ref q_521, .int 1, .ref q_451]) (by rw [he109a_521]) ?_
  refine hq_callC (va_runIN (As := []) (rest := [.ref q_521, .int 1, .ref q_451]) ⟨hx, hb, hml, hown, hts⟩ (c_X3_init l D cy _ ad_521 en_521 110 109 (by decide) e109_521) (kw_X3_init hts hX.2.2.2.2.2.2.2.2.2.1 ⟨by decide, by decide⟩) (preC_of hh hK hX) rfl rfl hl.1 rfl (lv_room (Nat.le_of_ble_eq_true rfl)) dX11_init_116 ⟨Nat.le_of_ble_eq_true rfl, Nat.le_of_ble_eq_true rfl⟩) hh hA (fun H locs ad_522 en_522 hw_522 hh => ?_)
  have hh : Hp D A A s.heap H _ (List.range 111) ad_522 en_522 := hh
  obtain ⟨hda_522, hue_522, ew_522, ewa_522⟩ := hw_522
  dsimp only at hda_522 hue_522 ew_522 ewa_522
  have et_522 : en_522 0 = .inr (10, [.ref q_440, .ref q_443, .ref q_446, .ref q_449, .ref q_451, .ref q_453, .int 0, .int 0]) := by rw [hue_522 _ (by decide) (by decide)]; exact et_521
  have heta_522 : ad_522 0 = (ad 0) := by rw [hda_522 _ (by decide)]; exact heta_521
  have hex1a_522 : ad_522 1 = q_440 := by rw [hda_522 _ (by decide)]; exact hex1a_521
  have hex12a_522 : ad_522 12 = q_443 := by rw [hda_522 _ (by decide)]; exact hex12a_521
  have hex70a_522 : ad_522 70 = q_446 := by rw [hda_522 _ (by decide)]; exact hex70a_521
  have e74_522 : en_522 74 = .inl (cy 5, 10, .inr (.inr (.inr (.inr (va_up (va_up (va_up (va_up (va_up (va_up (va_up (va_up (va_up (va_up (fun _ => none) (0 : Int32).toNatClampNeg (some q_456)) (1 : Int32).toNatClampNeg (some q_462)) (2 : Int32).toNatClampNeg (some q_468)) (3 : Int32).toNatClampNeg (some q_474)) (4 : Int32).toNatClampNeg (some q_480)) (5 : Int32).toNatClampNeg (some q_486)) (6 : Int32).toNatClampNeg (some q_492)) (7 : Int32).toNatClampNeg (some q_498)) (8 : Int32).toNatClampNeg (some q_504)) (9 : Int32).toNatClampNeg (some q_510)))))) := by rw [hue_522 _ (by decide) (by decide)]; exact e74_521
  have he74a_522 : ad_522 74 = q_449 := by rw [hda_522 _ (by decide)]; exact he74a_521
  have e75_522 : en_522 75 = .inl (cy 6, 4, .inr (.inr (.inr (.inr (va_up (fun _ => none) (0 : Int32).toNatClampNeg (some q_516)))))) := by rw [hue_522 _ (by decide) (by decide)]; exact e75_521
  have he75a_522 : ad_522 75 = q_451 := by rw [hda_522 _ (by decide)]; exact he75a_521
  have ew76_522 : en_522 76 = .inr (8, [.int 0]) := by rw [hue_522 _ (by decide) (by decide)]; exact ew76_521
  have hew76a_522 : ad_522 76 = q_453 := by rw [hda_522 _ (by decide)]; exact hew76a_521
  have hew77a_522 : ad_522 77 = q_456 := by rw [hda_522 _ (by decide)]; exact hew77a_521
  have hew80a_522 : ad_522 80 = q_462 := by rw [hda_522 _ (by decide)]; exact hew80a_521
  have hew83a_522 : ad_522 83 = q_468 := by rw [hda_522 _ (by decide)]; exact hew83a_521
  have hew86a_522 : ad_522 86 = q_474 := by rw [hda_522 _ (by decide)]; exact hew86a_521
  have hew89a_522 : ad_522 89 = q_480 := by rw [hda_522 _ (by decide)]; exact hew89a_521
  have hew92a_522 : ad_522 92 = q_486 := by rw [hda_522 _ (by decide)]; exact hew92a_521
  have hew95a_522 : ad_522 95 = q_492 := by rw [hda_522 _ (by decide)]; exact hew95a_521
  have hew98a_522 : ad_522 98 = q_498 := by rw [hda_522 _ (by decide)]; exact hew98a_521
  have hew101a_522 : ad_522 101 = q_504 := by rw [hda_522 _ (by decide)]; exact hew101a_521
  have hew104a_522 : ad_522 104 = q_510 := by rw [hda_522 _ (by decide)]; exact hew104a_521
  have hew107a_522 : ad_522 107 = q_516 := by rw [hda_522 _ (by decide)]; exact hew107a_521
  have he109a_522 : ad_522 109 = q_521 := by rw [hda_522 _ (by decide)]; exact he109a_521
  have hsn_522 : ∀ j, j < 73 → en_522 (1 + 1 * j) = eK (1 + 1 * j) := fun j hj => by rw [hue_522 _ (flt 1 1 110 hj (by decide)) (fne 1 1 109 hj (by decide))]; exact hsn_521 j hj
  have hwo_522 : ∀ j, j < 10 → en_522 (77 + 3 * j) = .inr (9, [.ref (ad_522 (78 + 3 * j)), .ref (ad_522 (79 + 3 * j)), .int 0]) := fun j hj => by rw [hue_522 _ (flt 77 3 110 hj (by decide)) (fne 77 3 109 hj (by decide)), hda_522 _ (flt 78 3 110 hj (by decide)), hda_522 _ (flt 79 3 110 hj (by decide))]; exact hwo_521 j hj
  have hwl_522 : ∀ j, j < 10 → en_522 (78 + 3 * j) = .inl (cy 0, 12, .inl (fun _ => 0)) := fun j hj => by rw [hue_522 _ (flt 78 3 110 hj (by decide)) (fne 78 3 109 hj (by decide))]; exact hwl_521 j hj
  have hwr_522 : ∀ j, j < 10 → en_522 (79 + 3 * j) = .inl (cy 1, 9, .inr (.inl (fun _ => 0))) := fun j hj => by rw [hue_522 _ (flt 79 3 110 hj (by decide)) (fne 79 3 109 hj (by decide))]; exact hwr_521 j hj
  have hs_522 : ∀ j, j < 1 → en_522 (107 + 2 * j) = .inr (3, [.ref (ad_522 (108 + 2 * j)), .int 0, .int 0, .int 0]) := fun j hj => by rw [hue_522 _ (flt 107 2 110 hj (by decide)) (fne 107 2 109 hj (by decide)), hda_522 _ (flt 108 2 110 hj (by decide))]; exact hs_521 j hj
  have hc_522 : ∀ j, j < 1 → en_522 (108 + 2 * j) = .inl (cy 0, 40, .inl (fun _ => 0)) := fun j hj => by rw [hue_522 _ (flt 108 2 110 hj (by decide)) (fne 108 2 109 hj (by decide))]; exact hc_521 j hj
  have ew109_522 := ew_522
  have hs_523 : ∀ j, j < 2 → en_522 (107 + 2 * j) = .inr (3, [.ref (ad_522 (108 + 2 * j)), .int 0, .int 0, .int 0]) := fun j hj => (Nat.lt_or_ge j 1).elim (fun h => hs_522 j h) (fun h => by have e0 : j = 1 := (by omega); subst e0; exact ew_522)
  have hc_524 : ∀ j, j < 2 → en_522 (108 + 2 * j) = .inl (cy 0, 40, .inl (fun _ => 0)) := fun j hj => (Nat.lt_or_ge j 1).elim (fun h => hc_522 j h) (fun h => by have e0 : j = 1 := (by omega); subst e0; exact ewa_522)
  clear et_521 heta_521 hex1a_521 hex12a_521 hex70a_521 e74_521 he74a_521 e75_521 he75a_521 ew76_521 hew76a_521 hew77a_521 hew80a_521 hew83a_521 hew86a_521 hew89a_521 hew92a_521 hew95a_521 hew98a_521 hew101a_521 hew104a_521 hew107a_521 hsn_521 hwo_521 hwl_521 hwr_521 hs_521 hc_521 e109_521 he109a_521 hs_522 hc_522
  refine W.widen (k := 110) (n := 973) (Nat.le_refl _) (Nat.le_refl _) ?_
  refine hp_astq hx hb hK hh (q := 75) (v := 109) he75a_522 (List.mem_range.mpr (by decide)) he109a_522 (List.mem_range.mpr (by decide)) e75_522 ew109_522 rfl rfl (vp_in_iff.mpr (by decide)) dX11_init_119 (fun H locs en_525 hen_525 hh => ?_)
  have et_525 : en_525 0 = .inr (10, [.ref q_440, .ref q_443, .ref q_446, .ref q_449, .ref q_451, .ref q_453, .int 0, .int 0]) := by rw [hen_525, va_up_ne _ _ (by decide)]; exact et_522
  have e74_525 : en_525 74 = .inl (cy 5, 10, .inr (.inr (.inr (.inr (va_up (va_up (va_up (va_up (va_up (va_up (va_up (va_up (va_up (va_up (fun _ => none) (0 : Int32).toNatClampNeg (some q_456)) (1 : Int32).toNatClampNeg (some q_462)) (2 : Int32).toNatClampNeg (some q_468)) (3 : Int32).toNatClampNeg (some q_474)) (4 : Int32).toNatClampNeg (some q_480)) (5 : Int32).toNatClampNeg (some q_486)) (6 : Int32).toNatClampNeg (some q_492)) (7 : Int32).toNatClampNeg (some q_498)) (8 : Int32).toNatClampNeg (some q_504)) (9 : Int32).toNatClampNeg (some q_510)))))) := by rw [hen_525, va_up_ne _ _ (by decide)]; exact e74_522
  have ew76_525 : en_525 76 = .inr (8, [.int 0]) := by rw [hen_525, va_up_ne _ _ (by decide)]; exact ew76_522
  have ew109_525 : en_525 109 = .inr (3, [.ref (ad_522 110), .int 0, .int 0, .int 0]) := by rw [hen_525, va_up_ne _ _ (by decide)]; exact ew109_522
  have hsn_525 : ∀ j, j < 73 → en_525 (1 + 1 * j) = eK (1 + 1 * j) := fun j hj => by rw [hen_525, va_up_ne _ _ (fne 1 1 75 hj (by decide))]; exact hsn_522 j hj
  have hwo_525 : ∀ j, j < 10 → en_525 (77 + 3 * j) = .inr (9, [.ref (ad_522 (78 + 3 * j)), .ref (ad_522 (79 + 3 * j)), .int 0]) := fun j hj => by rw [hen_525, va_up_ne _ _ (fne2 77 3 75 (by decide))]; exact hwo_522 j hj
  have hwl_525 : ∀ j, j < 10 → en_525 (78 + 3 * j) = .inl (cy 0, 12, .inl (fun _ => 0)) := fun j hj => by rw [hen_525, va_up_ne _ _ (fne2 78 3 75 (by decide))]; exact hwl_522 j hj
  have hwr_525 : ∀ j, j < 10 → en_525 (79 + 3 * j) = .inl (cy 1, 9, .inr (.inl (fun _ => 0))) := fun j hj => by rw [hen_525, va_up_ne _ _ (fne2 79 3 75 (by decide))]; exact hwr_522 j hj
  have hs_525 : ∀ j, j < 2 → en_525 (107 + 2 * j) = .inr (3, [.ref (ad_522 (108 + 2 * j)), .int 0, .int 0, .int 0]) := fun j hj => by rw [hen_525, va_up_ne _ _ (fne2 107 2 75 (by decide))]; exact hs_523 j hj
  have hc_525 : ∀ j, j < 2 → en_525 (108 + 2 * j) = .inl (cy 0, 40, .inl (fun _ => 0)) := fun j hj => by rw [hen_525, va_up_ne _ _ (fne2 108 2 75 (by decide))]; exact hc_524 j hj
  have e75_525 : en_525 75 = .inl (cy 6, 4, .inr (.inr (.inr (.inr (va_up (va_up (fun _ => none) (0 : Int32).toNatClampNeg (some q_516)) (1 : Int32).toNatClampNeg (some q_521)))))) := by rw [hen_525]; exact va_up_self _ _ _
  clear et_522 e74_522 e75_522 ew76_522 hsn_522 hwo_522 hwl_522 hwr_522 hs_523 hc_524 ew109_525
  refine lv_iinc (v := 2) (lv' := [(1, .int 2), (0, .ref (ad 0))]) hx hb dX11_init_120 hl (k := 0) rfl (by decide) (by decide) rfl (fun ls hl => ?_)
  refine lv_goto (tgt := 102) hx hb dX11_init_123 (by decide) ?_
  refine lv_iload_n hx hb dX11_init_102 rfl (lv_at hl 0 rfl) ?_
  refine lv_iconst (v := 4) hx hb dX11_init_103 (by decide) ?_
  refine lv_icmp_ge (tgt := 126) hx hb dX11_init_104 (by decide) (fun c_0 => absurd c_0 (by decide)) (fun _ => ?_)
  refine lv_aload_n hx hb dX11_init_107 rfl (lv_at hl 1 rfl) ?_
  refine hp_get hx hb hts ix11 hown hK hh (q := 0) heta_522 (List.mem_range.mpr (by decide)) et_525 rfl 4 (by decide) (hts _ tw_249) (fun _ h9 => h9) rfl dX11_init_108 ?_
  refine lv_iload_n hx hb dX11_init_111 rfl (lv_at hl 0 rfl) ?_
  refine hq_new (ci := 3) (fs := [.null, .int 0, .int 0, .int 0]) hx hb hts ix3 tyX3 tyX3_ok hown (hts _ tw_193) (hts _ tw_224) (hts _ tw_8) hK hh hA rfl (fun j hj => by rcases (show j = 0 ∨ j = 1 ∨ j = 2 ∨ j = 3 by omega) with rfl | rfl | rfl | rfl <;> rfl) (Nat.le_of_ble_eq_true rfl) (Nat.le_of_ble_eq_true rfl) dX11_init_112 (fun q_526 H ad_526 en_526 had_526 hen_526 hh => ?_)
  have hh : Hp D A A s.heap H _ (List.range 112) ad_526 en_526 := hh
  have et_526 : en_526 0 = .inr (10, [.ref q_440, .ref q_443, .ref q_446, .ref q_449, .ref q_451, .ref q_453, .int 0, .int 0]) := by rw [hen_526, va_up_ne _ _ (by decide)]; exact et_525
  have heta_526 : ad_526 0 = (ad 0) := by rw [had_526, va_up_ne _ _ (by decide)]; exact heta_522
  have hex1a_526 : ad_526 1 = q_440 := by rw [had_526, va_up_ne _ _ (by decide)]; exact hex1a_522
  have hex12a_526 : ad_526 12 = q_443 := by rw [had_526, va_up_ne _ _ (by decide)]; exact hex12a_522
  have hex70a_526 : ad_526 70 = q_446 := by rw [had_526, va_up_ne _ _ (by decide)]; exact hex70a_522
  have e74_526 : en_526 74 = .inl (cy 5, 10, .inr (.inr (.inr (.inr (va_up (va_up (va_up (va_up (va_up (va_up (va_up (va_up (va_up (va_up (fun _ => none) (0 : Int32).toNatClampNeg (some q_456)) (1 : Int32).toNatClampNeg (some q_462)) (2 : Int32).toNatClampNeg (some q_468)) (3 : Int32).toNatClampNeg (some q_474)) (4 : Int32).toNatClampNeg (some q_480)) (5 : Int32).toNatClampNeg (some q_486)) (6 : Int32).toNatClampNeg (some q_492)) (7 : Int32).toNatClampNeg (some q_498)) (8 : Int32).toNatClampNeg (some q_504)) (9 : Int32).toNatClampNeg (some q_510)))))) := by rw [hen_526, va_up_ne _ _ (by decide)]; exact e74_525
  have he74a_526 : ad_526 74 = q_449 := by rw [had_526, va_up_ne _ _ (by decide)]; exact he74a_522
  have e75_526 : en_526 75 = .inl (cy 6, 4, .inr (.inr (.inr (.inr (va_up (va_up (fun _ => none) (0 : Int32).toNatClampNeg (some q_516)) (1 : Int32).toNatClampNeg (some q_521)))))) := by rw [hen_526, va_up_ne _ _ (by decide)]; exact e75_525
  have he75a_526 : ad_526 75 = q_451 := by rw [had_526, va_up_ne _ _ (by decide)]; exact he75a_522
  have ew76_526 : en_526 76 = .inr (8, [.int 0]) := by rw [hen_526, va_up_ne _ _ (by decide)]; exact ew76_525
  have hew76a_526 : ad_526 76 = q_453 := by rw [had_526, va_up_ne _ _ (by decide)]; exact hew76a_522
  have hew77a_526 : ad_526 77 = q_456 := by rw [had_526, va_up_ne _ _ (by decide)]; exact hew77a_522
  have hew80a_526 : ad_526 80 = q_462 := by rw [had_526, va_up_ne _ _ (by decide)]; exact hew80a_522
  have hew83a_526 : ad_526 83 = q_468 := by rw [had_526, va_up_ne _ _ (by decide)]; exact hew83a_522
  have hew86a_526 : ad_526 86 = q_474 := by rw [had_526, va_up_ne _ _ (by decide)]; exact hew86a_522
  have hew89a_526 : ad_526 89 = q_480 := by rw [had_526, va_up_ne _ _ (by decide)]; exact hew89a_522
  have hew92a_526 : ad_526 92 = q_486 := by rw [had_526, va_up_ne _ _ (by decide)]; exact hew92a_522
  have hew95a_526 : ad_526 95 = q_492 := by rw [had_526, va_up_ne _ _ (by decide)]; exact hew95a_522
  have hew98a_526 : ad_526 98 = q_498 := by rw [had_526, va_up_ne _ _ (by decide)]; exact hew98a_522
  have hew101a_526 : ad_526 101 = q_504 := by rw [had_526, va_up_ne _ _ (by decide)]; exact hew101a_522
  have hew104a_526 : ad_526 104 = q_510 := by rw [had_526, va_up_ne _ _ (by decide)]; exact hew104a_522
  have hew107a_526 : ad_526 107 = q_516 := by rw [had_526, va_up_ne _ _ (by decide)]; exact hew107a_522
  have hew109a_526 : ad_526 109 = q_521 := by rw [had_526, va_up_ne _ _ (by decide)]; exact he109a_522
  have hsn_526 : ∀ j, j < 73 → en_526 (1 + 1 * j) = eK (1 + 1 * j) := fun j hj => by rw [hen_526, va_up_ne _ _ (fne 1 1 111 hj (by decide))]; exact hsn_525 j hj
  have hwo_526 : ∀ j, j < 10 → en_526 (77 + 3 * j) = .inr (9, [.ref (ad_526 (78 + 3 * j)), .ref (ad_526 (79 + 3 * j)), .int 0]) := fun j hj => by rw [hen_526, va_up_ne _ _ (fne 77 3 111 hj (by decide)), had_526, va_up_ne _ _ (fne 78 3 111 hj (by decide)), va_up_ne _ _ (fne 79 3 111 hj (by decide))]; exact hwo_525 j hj
  have hwl_526 : ∀ j, j < 10 → en_526 (78 + 3 * j) = .inl (cy 0, 12, .inl (fun _ => 0)) := fun j hj => by rw [hen_526, va_up_ne _ _ (fne 78 3 111 hj (by decide))]; exact hwl_525 j hj
  have hwr_526 : ∀ j, j < 10 → en_526 (79 + 3 * j) = .inl (cy 1, 9, .inr (.inl (fun _ => 0))) := fun j hj => by rw [hen_526, va_up_ne _ _ (fne 79 3 111 hj (by decide))]; exact hwr_525 j hj
  have hs_526 : ∀ j, j < 2 → en_526 (107 + 2 * j) = .inr (3, [.ref (ad_526 (108 + 2 * j)), .int 0, .int 0, .int 0]) := fun j hj => by rw [hen_526, va_up_ne _ _ (fne 107 2 111 hj (by decide)), had_526, va_up_ne _ _ (fne 108 2 111 hj (by decide))]; exact hs_525 j hj
  have hc_526 : ∀ j, j < 2 → en_526 (108 + 2 * j) = .inl (cy 0, 40, .inl (fun _ => 0)) := fun j hj => by rw [hen_526, va_up_ne _ _ (fne 108 2 111 hj (by decide))]; exact hc_525 j hj
  have e111_526 : en_526 111 = .inr (3, [.null, .int 0, .int 0, .int 0]) := by rw [hen_526]; exact va_up_self _ _ _
  have he111a_526 : ad_526 111 = q_526 := by rw [had_526]; exact va_up_self _ _ _
  clear heta_522 hex1a_522 hex12a_522 hex70a_522 he74a_522 he75a_522 hew76a_522 hew77a_522 hew80a_522 hew83a_522 hew86a_522 hew89a_522 hew92a_522 hew95a_522 hew98a_522 hew101a_522 hew104a_522 hew107a_522 he109a_522 et_525 e74_525 ew76_525 hsn_525 hwo_525 hwl_525 hwr_525 hs_525 hc_525 e75_525
  refine W.widen (k := 111) (n := 977) (Nat.le_refl _) (Nat.le_refl _) ?_
  refine lv_dup hx hb dX11_init_115 rfl ?_
  refine W.eq (g2 := F0 m 116 ls [.ref (ad_526 111), .ref q_526, .int 2, .ref q_451]) (by rw [he111a_526]) ?_
  refine hq_callC (va_runIN (As := []) (rest := [.ref q_526, .int 2, .ref q_451]) ⟨hx, hb, hml, hown, hts⟩ (c_X3_init l D cy _ ad_526 en_526 112 111 (by decide) e111_526) (kw_X3_init hts hX.2.2.2.2.2.2.2.2.2.1 ⟨by decide, by decide⟩) (preC_of hh hK hX) rfl rfl hl.1 rfl (lv_room (Nat.le_of_ble_eq_true rfl)) dX11_init_116 ⟨Nat.le_of_ble_eq_true rfl, Nat.le_of_ble_eq_true rfl⟩) hh hA (fun H locs ad_527 en_527 hw_527 hh => ?_)
  have hh : Hp D A A s.heap H _ (List.range 113) ad_527 en_527 := hh
  obtain ⟨hda_527, hue_527, ew_527, ewa_527⟩ := hw_527
  dsimp only at hda_527 hue_527 ew_527 ewa_527
  have et_527 : en_527 0 = .inr (10, [.ref q_440, .ref q_443, .ref q_446, .ref q_449, .ref q_451, .ref q_453, .int 0, .int 0]) := by rw [hue_527 _ (by decide) (by decide)]; exact et_526
  have heta_527 : ad_527 0 = (ad 0) := by rw [hda_527 _ (by decide)]; exact heta_526
  have hex1a_527 : ad_527 1 = q_440 := by rw [hda_527 _ (by decide)]; exact hex1a_526
  have hex12a_527 : ad_527 12 = q_443 := by rw [hda_527 _ (by decide)]; exact hex12a_526
  have hex70a_527 : ad_527 70 = q_446 := by rw [hda_527 _ (by decide)]; exact hex70a_526
  have e74_527 : en_527 74 = .inl (cy 5, 10, .inr (.inr (.inr (.inr (va_up (va_up (va_up (va_up (va_up (va_up (va_up (va_up (va_up (va_up (fun _ => none) (0 : Int32).toNatClampNeg (some q_456)) (1 : Int32).toNatClampNeg (some q_462)) (2 : Int32).toNatClampNeg (some q_468)) (3 : Int32).toNatClampNeg (some q_474)) (4 : Int32).toNatClampNeg (some q_480)) (5 : Int32).toNatClampNeg (some q_486)) (6 : Int32).toNatClampNeg (some q_492)) (7 : Int32).toNatClampNeg (some q_498)) (8 : Int32).toNatClampNeg (some q_504)) (9 : Int32).toNatClampNeg (some q_510)))))) := by rw [hue_527 _ (by decide) (by decide)]; exact e74_526
  have he74a_527 : ad_527 74 = q_449 := by rw [hda_527 _ (by decide)]; exact he74a_526
  have e75_527 : en_527 75 = .inl (cy 6, 4, .inr (.inr (.inr (.inr (va_up (va_up (fun _ => none) (0 : Int32).toNatClampNeg (some q_516)) (1 : Int32).toNatClampNeg (some q_521)))))) := by rw [hue_527 _ (by decide) (by decide)]; exact e75_526
  have he75a_527 : ad_527 75 = q_451 := by rw [hda_527 _ (by decide)]; exact he75a_526
  have ew76_527 : en_527 76 = .inr (8, [.int 0]) := by rw [hue_527 _ (by decide) (by decide)]; exact ew76_526
  have hew76a_527 : ad_527 76 = q_453 := by rw [hda_527 _ (by decide)]; exact hew76a_526
  have hew77a_527 : ad_527 77 = q_456 := by rw [hda_527 _ (by decide)]; exact hew77a_526
  have hew80a_527 : ad_527 80 = q_462 := by rw [hda_527 _ (by decide)]; exact hew80a_526
  have hew83a_527 : ad_527 83 = q_468 := by rw [hda_527 _ (by decide)]; exact hew83a_526
  have hew86a_527 : ad_527 86 = q_474 := by rw [hda_527 _ (by decide)]; exact hew86a_526
  have hew89a_527 : ad_527 89 = q_480 := by rw [hda_527 _ (by decide)]; exact hew89a_526
  have hew92a_527 : ad_527 92 = q_486 := by rw [hda_527 _ (by decide)]; exact hew92a_526
  have hew95a_527 : ad_527 95 = q_492 := by rw [hda_527 _ (by decide)]; exact hew95a_526
  have hew98a_527 : ad_527 98 = q_498 := by rw [hda_527 _ (by decide)]; exact hew98a_526
  have hew101a_527 : ad_527 101 = q_504 := by rw [hda_527 _ (by decide)]; exact hew101a_526
  have hew104a_527 : ad_527 104 = q_510 := by rw [hda_527 _ (by decide)]; exact hew104a_526
  have hew107a_527 : ad_527 107 = q_516 := by rw [hda_527 _ (by decide)]; exact hew107a_526
  have hew109a_527 : ad_527 109 = q_521 := by rw [hda_527 _ (by decide)]; exact hew109a_526
  have he111a_527 : ad_527 111 = q_526 := by rw [hda_527 _ (by decide)]; exact he111a_526
  have hsn_527 : ∀ j, j < 73 → en_527 (1 + 1 * j) = eK (1 + 1 * j) := fun j hj => by rw [hue_527 _ (flt 1 1 112 hj (by decide)) (fne 1 1 111 hj (by decide))]; exact hsn_526 j hj
  have hwo_527 : ∀ j, j < 10 → en_527 (77 + 3 * j) = .inr (9, [.ref (ad_527 (78 + 3 * j)), .ref (ad_527 (79 + 3 * j)), .int 0]) := fun j hj => by rw [hue_527 _ (flt 77 3 112 hj (by decide)) (fne 77 3 111 hj (by decide)), hda_527 _ (flt 78 3 112 hj (by decide)), hda_527 _ (flt 79 3 112 hj (by decide))]; exact hwo_526 j hj
  have hwl_527 : ∀ j, j < 10 → en_527 (78 + 3 * j) = .inl (cy 0, 12, .inl (fun _ => 0)) := fun j hj => by rw [hue_527 _ (flt 78 3 112 hj (by decide)) (fne 78 3 111 hj (by decide))]; exact hwl_526 j hj
  have hwr_527 : ∀ j, j < 10 → en_527 (79 + 3 * j) = .inl (cy 1, 9, .inr (.inl (fun _ => 0))) := fun j hj => by rw [hue_527 _ (flt 79 3 112 hj (by decide)) (fne 79 3 111 hj (by decide))]; exact hwr_526 j hj
  have hs_527 : ∀ j, j < 2 → en_527 (107 + 2 * j) = .inr (3, [.ref (ad_527 (108 + 2 * j)), .int 0, .int 0, .int 0]) := fun j hj => by rw [hue_527 _ (flt 107 2 112 hj (by decide)) (fne 107 2 111 hj (by decide)), hda_527 _ (flt 108 2 112 hj (by decide))]; exact hs_526 j hj
  have hc_527 : ∀ j, j < 2 → en_527 (108 + 2 * j) = .inl (cy 0, 40, .inl (fun _ => 0)) := fun j hj => by rw [hue_527 _ (flt 108 2 112 hj (by decide)) (fne 108 2 111 hj (by decide))]; exact hc_526 j hj
  have ew111_527 := ew_527
  have hs_528 : ∀ j, j < 3 → en_527 (107 + 2 * j) = .inr (3, [.ref (ad_527 (108 + 2 * j)), .int 0, .int 0, .int 0]) := fun j hj => (Nat.lt_or_ge j 2).elim (fun h => hs_527 j h) (fun h => by have e0 : j = 2 := (by omega); subst e0; exact ew_527)
  have hc_529 : ∀ j, j < 3 → en_527 (108 + 2 * j) = .inl (cy 0, 40, .inl (fun _ => 0)) := fun j hj => (Nat.lt_or_ge j 2).elim (fun h => hc_527 j h) (fun h => by have e0 : j = 2 := (by omega); subst e0; exact ewa_527)
  clear et_526 heta_526 hex1a_526 hex12a_526 hex70a_526 e74_526 he74a_526 e75_526 he75a_526 ew76_526 hew76a_526 hew77a_526 hew80a_526 hew83a_526 hew86a_526 hew89a_526 hew92a_526 hew95a_526 hew98a_526 hew101a_526 hew104a_526 hew107a_526 hew109a_526 hsn_526 hwo_526 hwl_526 hwr_526 hs_526 hc_526 e111_526 he111a_526 hs_527 hc_527
  refine W.widen (k := 112) (n := 1017) (Nat.le_refl _) (Nat.le_refl _) ?_
  refine hp_astq hx hb hK hh (q := 75) (v := 111) he75a_527 (List.mem_range.mpr (by decide)) he111a_527 (List.mem_range.mpr (by decide)) e75_527 ew111_527 rfl rfl (vp_in_iff.mpr (by decide)) dX11_init_119 (fun H locs en_530 hen_530 hh => ?_)
  have et_530 : en_530 0 = .inr (10, [.ref q_440, .ref q_443, .ref q_446, .ref q_449, .ref q_451, .ref q_453, .int 0, .int 0]) := by rw [hen_530, va_up_ne _ _ (by decide)]; exact et_527
  have e74_530 : en_530 74 = .inl (cy 5, 10, .inr (.inr (.inr (.inr (va_up (va_up (va_up (va_up (va_up (va_up (va_up (va_up (va_up (va_up (fun _ => none) (0 : Int32).toNatClampNeg (some q_456)) (1 : Int32).toNatClampNeg (some q_462)) (2 : Int32).toNatClampNeg (some q_468)) (3 : Int32).toNatClampNeg (some q_474)) (4 : Int32).toNatClampNeg (some q_480)) (5 : Int32).toNatClampNeg (some q_486)) (6 : Int32).toNatClampNeg (some q_492)) (7 : Int32).toNatClampNeg (some q_498)) (8 : Int32).toNatClampNeg (some q_504)) (9 : Int32).toNatClampNeg (some q_510)))))) := by rw [hen_530, va_up_ne _ _ (by decide)]; exact e74_527
  have ew76_530 : en_530 76 = .inr (8, [.int 0]) := by rw [hen_530, va_up_ne _ _ (by decide)]; exact ew76_527
  have ew111_530 : en_530 111 = .inr (3, [.ref (ad_527 112), .int 0, .int 0, .int 0]) := by rw [hen_530, va_up_ne _ _ (by decide)]; exact ew111_527
  have hsn_530 : ∀ j, j < 73 → en_530 (1 + 1 * j) = eK (1 + 1 * j) := fun j hj => by rw [hen_530, va_up_ne _ _ (fne 1 1 75 hj (by decide))]; exact hsn_527 j hj
  have hwo_530 : ∀ j, j < 10 → en_530 (77 + 3 * j) = .inr (9, [.ref (ad_527 (78 + 3 * j)), .ref (ad_527 (79 + 3 * j)), .int 0]) := fun j hj => by rw [hen_530, va_up_ne _ _ (fne2 77 3 75 (by decide))]; exact hwo_527 j hj
  have hwl_530 : ∀ j, j < 10 → en_530 (78 + 3 * j) = .inl (cy 0, 12, .inl (fun _ => 0)) := fun j hj => by rw [hen_530, va_up_ne _ _ (fne2 78 3 75 (by decide))]; exact hwl_527 j hj
  have hwr_530 : ∀ j, j < 10 → en_530 (79 + 3 * j) = .inl (cy 1, 9, .inr (.inl (fun _ => 0))) := fun j hj => by rw [hen_530, va_up_ne _ _ (fne2 79 3 75 (by decide))]; exact hwr_527 j hj
  have hs_530 : ∀ j, j < 3 → en_530 (107 + 2 * j) = .inr (3, [.ref (ad_527 (108 + 2 * j)), .int 0, .int 0, .int 0]) := fun j hj => by rw [hen_530, va_up_ne _ _ (fne2 107 2 75 (by decide))]; exact hs_528 j hj
  have hc_530 : ∀ j, j < 3 → en_530 (108 + 2 * j) = .inl (cy 0, 40, .inl (fun _ => 0)) := fun j hj => by rw [hen_530, va_up_ne _ _ (fne2 108 2 75 (by decide))]; exact hc_529 j hj
  have e75_530 : en_530 75 = .inl (cy 6, 4, .inr (.inr (.inr (.inr (va_up (va_up (va_up (fun _ => none) (0 : Int32).toNatClampNeg (some q_516)) (1 : Int32).toNatClampNeg (some q_521)) (2 : Int32).toNatClampNeg (some q_526)))))) := by rw [hen_530]; exact va_up_self _ _ _
  clear et_527 e74_527 e75_527 ew76_527 hsn_527 hwo_527 hwl_527 hwr_527 hs_528 hc_529 ew111_530
  refine lv_iinc (v := 3) (lv' := [(1, .int 3), (0, .ref (ad 0))]) hx hb dX11_init_120 hl (k := 0) rfl (by decide) (by decide) rfl (fun ls hl => ?_)
  refine lv_goto (tgt := 102) hx hb dX11_init_123 (by decide) ?_
  refine lv_iload_n hx hb dX11_init_102 rfl (lv_at hl 0 rfl) ?_
  refine lv_iconst (v := 4) hx hb dX11_init_103 (by decide) ?_
  refine lv_icmp_ge (tgt := 126) hx hb dX11_init_104 (by decide) (fun c_0 => absurd c_0 (by decide)) (fun _ => ?_)
  refine lv_aload_n hx hb dX11_init_107 rfl (lv_at hl 1 rfl) ?_
  refine hp_get hx hb hts ix11 hown hK hh (q := 0) heta_527 (List.mem_range.mpr (by decide)) et_530 rfl 4 (by decide) (hts _ tw_249) (fun _ h9 => h9) rfl dX11_init_108 ?_
  refine lv_iload_n hx hb dX11_init_111 rfl (lv_at hl 0 rfl) ?_
  refine hq_new (ci := 3) (fs := [.null, .int 0, .int 0, .int 0]) hx hb hts ix3 tyX3 tyX3_ok hown (hts _ tw_193) (hts _ tw_224) (hts _ tw_8) hK hh hA rfl (fun j hj => by rcases (show j = 0 ∨ j = 1 ∨ j = 2 ∨ j = 3 by omega) with rfl | rfl | rfl | rfl <;> rfl) (Nat.le_of_ble_eq_true rfl) (Nat.le_of_ble_eq_true rfl) dX11_init_112 (fun q_531 H ad_531 en_531 had_531 hen_531 hh => ?_)
  have hh : Hp D A A s.heap H _ (List.range 114) ad_531 en_531 := hh
  have et_531 : en_531 0 = .inr (10, [.ref q_440, .ref q_443, .ref q_446, .ref q_449, .ref q_451, .ref q_453, .int 0, .int 0]) := by rw [hen_531, va_up_ne _ _ (by decide)]; exact et_530
  have heta_531 : ad_531 0 = (ad 0) := by rw [had_531, va_up_ne _ _ (by decide)]; exact heta_527
  have hex1a_531 : ad_531 1 = q_440 := by rw [had_531, va_up_ne _ _ (by decide)]; exact hex1a_527
  have hex12a_531 : ad_531 12 = q_443 := by rw [had_531, va_up_ne _ _ (by decide)]; exact hex12a_527
  have hex70a_531 : ad_531 70 = q_446 := by rw [had_531, va_up_ne _ _ (by decide)]; exact hex70a_527
  have e74_531 : en_531 74 = .inl (cy 5, 10, .inr (.inr (.inr (.inr (va_up (va_up (va_up (va_up (va_up (va_up (va_up (va_up (va_up (va_up (fun _ => none) (0 : Int32).toNatClampNeg (some q_456)) (1 : Int32).toNatClampNeg (some q_462)) (2 : Int32).toNatClampNeg (some q_468)) (3 : Int32).toNatClampNeg (some q_474)) (4 : Int32).toNatClampNeg (some q_480)) (5 : Int32).toNatClampNeg (some q_486)) (6 : Int32).toNatClampNeg (some q_492)) (7 : Int32).toNatClampNeg (some q_498)) (8 : Int32).toNatClampNeg (some q_504)) (9 : Int32).toNatClampNeg (some q_510)))))) := by rw [hen_531, va_up_ne _ _ (by decide)]; exact e74_530
  have he74a_531 : ad_531 74 = q_449 := by rw [had_531, va_up_ne _ _ (by decide)]; exact he74a_527
  have e75_531 : en_531 75 = .inl (cy 6, 4, .inr (.inr (.inr (.inr (va_up (va_up (va_up (fun _ => none) (0 : Int32).toNatClampNeg (some q_516)) (1 : Int32).toNatClampNeg (some q_521)) (2 : Int32).toNatClampNeg (some q_526)))))) := by rw [hen_531, va_up_ne _ _ (by decide)]; exact e75_530
  have he75a_531 : ad_531 75 = q_451 := by rw [had_531, va_up_ne _ _ (by decide)]; exact he75a_527
  have ew76_531 : en_531 76 = .inr (8, [.int 0]) := by rw [hen_531, va_up_ne _ _ (by decide)]; exact ew76_530
  have hew76a_531 : ad_531 76 = q_453 := by rw [had_531, va_up_ne _ _ (by decide)]; exact hew76a_527
  have hew77a_531 : ad_531 77 = q_456 := by rw [had_531, va_up_ne _ _ (by decide)]; exact hew77a_527
  have hew80a_531 : ad_531 80 = q_462 := by rw [had_531, va_up_ne _ _ (by decide)]; exact hew80a_527
  have hew83a_531 : ad_531 83 = q_468 := by rw [had_531, va_up_ne _ _ (by decide)]; exact hew83a_527
  have hew86a_531 : ad_531 86 = q_474 := by rw [had_531, va_up_ne _ _ (by decide)]; exact hew86a_527
  have hew89a_531 : ad_531 89 = q_480 := by rw [had_531, va_up_ne _ _ (by decide)]; exact hew89a_527
  have hew92a_531 : ad_531 92 = q_486 := by rw [had_531, va_up_ne _ _ (by decide)]; exact hew92a_527
  have hew95a_531 : ad_531 95 = q_492 := by rw [had_531, va_up_ne _ _ (by decide)]; exact hew95a_527
  have hew98a_531 : ad_531 98 = q_498 := by rw [had_531, va_up_ne _ _ (by decide)]; exact hew98a_527
  have hew101a_531 : ad_531 101 = q_504 := by rw [had_531, va_up_ne _ _ (by decide)]; exact hew101a_527
  have hew104a_531 : ad_531 104 = q_510 := by rw [had_531, va_up_ne _ _ (by decide)]; exact hew104a_527
  have hew107a_531 : ad_531 107 = q_516 := by rw [had_531, va_up_ne _ _ (by decide)]; exact hew107a_527
  have hew109a_531 : ad_531 109 = q_521 := by rw [had_531, va_up_ne _ _ (by decide)]; exact hew109a_527
  have hew111a_531 : ad_531 111 = q_526 := by rw [had_531, va_up_ne _ _ (by decide)]; exact he111a_527
  have hsn_531 : ∀ j, j < 73 → en_531 (1 + 1 * j) = eK (1 + 1 * j) := fun j hj => by rw [hen_531, va_up_ne _ _ (fne 1 1 113 hj (by decide))]; exact hsn_530 j hj
  have hwo_531 : ∀ j, j < 10 → en_531 (77 + 3 * j) = .inr (9, [.ref (ad_531 (78 + 3 * j)), .ref (ad_531 (79 + 3 * j)), .int 0]) := fun j hj => by rw [hen_531, va_up_ne _ _ (fne 77 3 113 hj (by decide)), had_531, va_up_ne _ _ (fne 78 3 113 hj (by decide)), va_up_ne _ _ (fne 79 3 113 hj (by decide))]; exact hwo_530 j hj
  have hwl_531 : ∀ j, j < 10 → en_531 (78 + 3 * j) = .inl (cy 0, 12, .inl (fun _ => 0)) := fun j hj => by rw [hen_531, va_up_ne _ _ (fne 78 3 113 hj (by decide))]; exact hwl_530 j hj
  have hwr_531 : ∀ j, j < 10 → en_531 (79 + 3 * j) = .inl (cy 1, 9, .inr (.inl (fun _ => 0))) := fun j hj => by rw [hen_531, va_up_ne _ _ (fne 79 3 113 hj (by decide))]; exact hwr_530 j hj
  have hs_531 : ∀ j, j < 3 → en_531 (107 + 2 * j) = .inr (3, [.ref (ad_531 (108 + 2 * j)), .int 0, .int 0, .int 0]) := fun j hj => by rw [hen_531, va_up_ne _ _ (fne 107 2 113 hj (by decide)), had_531, va_up_ne _ _ (fne 108 2 113 hj (by decide))]; exact hs_530 j hj
  have hc_531 : ∀ j, j < 3 → en_531 (108 + 2 * j) = .inl (cy 0, 40, .inl (fun _ => 0)) := fun j hj => by rw [hen_531, va_up_ne _ _ (fne 108 2 113 hj (by decide))]; exact hc_530 j hj
  have e113_531 : en_531 113 = .inr (3, [.null, .int 0, .int 0, .int 0]) := by rw [hen_531]; exact va_up_self _ _ _
  have he113a_531 : ad_531 113 = q_531 := by rw [had_531]; exact va_up_self _ _ _
  clear heta_527 hex1a_527 hex12a_527 hex70a_527 he74a_527 he75a_527 hew76a_527 hew77a_527 hew80a_527 hew83a_527 hew86a_527 hew89a_527 hew92a_527 hew95a_527 hew98a_527 hew101a_527 hew104a_527 hew107a_527 hew109a_527 he111a_527 et_530 e74_530 ew76_530 hsn_530 hwo_530 hwl_530 hwr_530 hs_530 hc_530 e75_530
  refine W.widen (k := 113) (n := 1021) (Nat.le_refl _) (Nat.le_refl _) ?_
  refine lv_dup hx hb dX11_init_115 rfl ?_
  refine W.eq (g2 := F0 m 116 ls [.ref (ad_531 113), .ref q_531, .int 3, .ref q_451]) (by rw [he113a_531]) ?_
  refine hq_callC (va_runIN (As := []) (rest := [.ref q_531, .int 3, .ref q_451]) ⟨hx, hb, hml, hown, hts⟩ (c_X3_init l D cy _ ad_531 en_531 114 113 (by decide) e113_531) (kw_X3_init hts hX.2.2.2.2.2.2.2.2.2.1 ⟨by decide, by decide⟩) (preC_of hh hK hX) rfl rfl hl.1 rfl (lv_room (Nat.le_of_ble_eq_true rfl)) dX11_init_116 ⟨Nat.le_of_ble_eq_true rfl, Nat.le_of_ble_eq_true rfl⟩) hh hA (fun H locs ad_532 en_532 hw_532 hh => ?_)
  have hh : Hp D A A s.heap H _ (List.range 115) ad_532 en_532 := hh
  obtain ⟨hda_532, hue_532, ew_532, ewa_532⟩ := hw_532
  dsimp only at hda_532 hue_532 ew_532 ewa_532
  have et_532 : en_532 0 = .inr (10, [.ref q_440, .ref q_443, .ref q_446, .ref q_449, .ref q_451, .ref q_453, .int 0, .int 0]) := by rw [hue_532 _ (by decide) (by decide)]; exact et_531
  have heta_532 : ad_532 0 = (ad 0) := by rw [hda_532 _ (by decide)]; exact heta_531
  have hex1a_532 : ad_532 1 = q_440 := by rw [hda_532 _ (by decide)]; exact hex1a_531
  have hex12a_532 : ad_532 12 = q_443 := by rw [hda_532 _ (by decide)]; exact hex12a_531
  have hex70a_532 : ad_532 70 = q_446 := by rw [hda_532 _ (by decide)]; exact hex70a_531
  have e74_532 : en_532 74 = .inl (cy 5, 10, .inr (.inr (.inr (.inr (va_up (va_up (va_up (va_up (va_up (va_up (va_up (va_up (va_up (va_up (fun _ => none) (0 : Int32).toNatClampNeg (some q_456)) (1 : Int32).toNatClampNeg (some q_462)) (2 : Int32).toNatClampNeg (some q_468)) (3 : Int32).toNatClampNeg (some q_474)) (4 : Int32).toNatClampNeg (some q_480)) (5 : Int32).toNatClampNeg (some q_486)) (6 : Int32).toNatClampNeg (some q_492)) (7 : Int32).toNatClampNeg (some q_498)) (8 : Int32).toNatClampNeg (some q_504)) (9 : Int32).toNatClampNeg (some q_510)))))) := by rw [hue_532 _ (by decide) (by decide)]; exact e74_531
  have he74a_532 : ad_532 74 = q_449 := by rw [hda_532 _ (by decide)]; exact he74a_531
  have e75_532 : en_532 75 = .inl (cy 6, 4, .inr (.inr (.inr (.inr (va_up (va_up (va_up (fun _ => none) (0 : Int32).toNatClampNeg (some q_516)) (1 : Int32).toNatClampNeg (some q_521)) (2 : Int32).toNatClampNeg (some q_526)))))) := by rw [hue_532 _ (by decide) (by decide)]; exact e75_531
  have he75a_532 : ad_532 75 = q_451 := by rw [hda_532 _ (by decide)]; exact he75a_531
  have ew76_532 : en_532 76 = .inr (8, [.int 0]) := by rw [hue_532 _ (by decide) (by decide)]; exact ew76_531
  have hew76a_532 : ad_532 76 = q_453 := by rw [hda_532 _ (by decide)]; exact hew76a_531
  have hew77a_532 : ad_532 77 = q_456 := by rw [hda_532 _ (by decide)]; exact hew77a_531
  have hew80a_532 : ad_532 80 = q_462 := by rw [hda_532 _ (by decide)]; exact hew80a_531
  have hew83a_532 : ad_532 83 = q_468 := by rw [hda_532 _ (by decide)]; exact hew83a_531
  have hew86a_532 : ad_532 86 = q_474 := by rw [hda_532 _ (by decide)]; exact hew86a_531
  have hew89a_532 : ad_532 89 = q_480 := by rw [hda_532 _ (by decide)]; exact hew89a_531
  have hew92a_532 : ad_532 92 = q_486 := by rw [hda_532 _ (by decide)]; exact hew92a_531
  have hew95a_532 : ad_532 95 = q_492 := by rw [hda_532 _ (by decide)]; exact hew95a_531
  have hew98a_532 : ad_532 98 = q_498 := by rw [hda_532 _ (by decide)]; exact hew98a_531
  have hew101a_532 : ad_532 101 = q_504 := by rw [hda_532 _ (by decide)]; exact hew101a_531
  have hew104a_532 : ad_532 104 = q_510 := by rw [hda_532 _ (by decide)]; exact hew104a_531
  have hew107a_532 : ad_532 107 = q_516 := by rw [hda_532 _ (by decide)]; exact hew107a_531
  have hew109a_532 : ad_532 109 = q_521 := by rw [hda_532 _ (by decide)]; exact hew109a_531
  have hew111a_532 : ad_532 111 = q_526 := by rw [hda_532 _ (by decide)]; exact hew111a_531
  have he113a_532 : ad_532 113 = q_531 := by rw [hda_532 _ (by decide)]; exact he113a_531
  have hsn_532 : ∀ j, j < 73 → en_532 (1 + 1 * j) = eK (1 + 1 * j) := fun j hj => by rw [hue_532 _ (flt 1 1 114 hj (by decide)) (fne 1 1 113 hj (by decide))]; exact hsn_531 j hj
  have hwo_532 : ∀ j, j < 10 → en_532 (77 + 3 * j) = .inr (9, [.ref (ad_532 (78 + 3 * j)), .ref (ad_532 (79 + 3 * j)), .int 0]) := fun j hj => by rw [hue_532 _ (flt 77 3 114 hj (by decide)) (fne 77 3 113 hj (by decide)), hda_532 _ (flt 78 3 114 hj (by decide)), hda_532 _ (flt 79 3 114 hj (by decide))]; exact hwo_531 j hj
  have hwl_532 : ∀ j, j < 10 → en_532 (78 + 3 * j) = .inl (cy 0, 12, .inl (fun _ => 0)) := fun j hj => by rw [hue_532 _ (flt 78 3 114 hj (by decide)) (fne 78 3 113 hj (by decide))]; exact hwl_531 j hj
  have hwr_532 : ∀ j, j < 10 → en_532 (79 + 3 * j) = .inl (cy 1, 9, .inr (.inl (fun _ => 0))) := fun j hj => by rw [hue_532 _ (flt 79 3 114 hj (by decide)) (fne 79 3 113 hj (by decide))]; exact hwr_531 j hj
  have hs_532 : ∀ j, j < 3 → en_532 (107 + 2 * j) = .inr (3, [.ref (ad_532 (108 + 2 * j)), .int 0, .int 0, .int 0]) := fun j hj => by rw [hue_532 _ (flt 107 2 114 hj (by decide)) (fne 107 2 113 hj (by decide)), hda_532 _ (flt 108 2 114 hj (by decide))]; exact hs_531 j hj
  have hc_532 : ∀ j, j < 3 → en_532 (108 + 2 * j) = .inl (cy 0, 40, .inl (fun _ => 0)) := fun j hj => by rw [hue_532 _ (flt 108 2 114 hj (by decide)) (fne 108 2 113 hj (by decide))]; exact hc_531 j hj
  have ew113_532 := ew_532
  have hs_533 : ∀ j, j < 4 → en_532 (107 + 2 * j) = .inr (3, [.ref (ad_532 (108 + 2 * j)), .int 0, .int 0, .int 0]) := fun j hj => (Nat.lt_or_ge j 3).elim (fun h => hs_532 j h) (fun h => by have e0 : j = 3 := (by omega); subst e0; exact ew_532)
  have hc_534 : ∀ j, j < 4 → en_532 (108 + 2 * j) = .inl (cy 0, 40, .inl (fun _ => 0)) := fun j hj => (Nat.lt_or_ge j 3).elim (fun h => hc_532 j h) (fun h => by have e0 : j = 3 := (by omega); subst e0; exact ewa_532)
  clear et_531 heta_531 hex1a_531 hex12a_531 hex70a_531 e74_531 he74a_531 e75_531 he75a_531 ew76_531 hew76a_531 hew77a_531 hew80a_531 hew83a_531 hew86a_531 hew89a_531 hew92a_531 hew95a_531 hew98a_531 hew101a_531 hew104a_531 hew107a_531 hew109a_531 hew111a_531 hsn_531 hwo_531 hwl_531 hwr_531 hs_531 hc_531 e113_531 he113a_531 heta_532 hs_532 hc_532
  refine W.widen (k := 114) (n := 1061) (Nat.le_refl _) (Nat.le_refl _) ?_
  refine hp_astq hx hb hK hh (q := 75) (v := 113) he75a_532 (List.mem_range.mpr (by decide)) he113a_532 (List.mem_range.mpr (by decide)) e75_532 ew113_532 rfl rfl (vp_in_iff.mpr (by decide)) dX11_init_119 (fun H locs en_535 hen_535 hh => ?_)
  have et_535 : en_535 0 = .inr (10, [.ref q_440, .ref q_443, .ref q_446, .ref q_449, .ref q_451, .ref q_453, .int 0, .int 0]) := by rw [hen_535, va_up_ne _ _ (by decide)]; exact et_532
  have e74_535 : en_535 74 = .inl (cy 5, 10, .inr (.inr (.inr (.inr (va_up (va_up (va_up (va_up (va_up (va_up (va_up (va_up (va_up (va_up (fun _ => none) (0 : Int32).toNatClampNeg (some q_456)) (1 : Int32).toNatClampNeg (some q_462)) (2 : Int32).toNatClampNeg (some q_468)) (3 : Int32).toNatClampNeg (some q_474)) (4 : Int32).toNatClampNeg (some q_480)) (5 : Int32).toNatClampNeg (some q_486)) (6 : Int32).toNatClampNeg (some q_492)) (7 : Int32).toNatClampNeg (some q_498)) (8 : Int32).toNatClampNeg (some q_504)) (9 : Int32).toNatClampNeg (some q_510)))))) := by rw [hen_535, va_up_ne _ _ (by decide)]; exact e74_532
  have ew76_535 : en_535 76 = .inr (8, [.int 0]) := by rw [hen_535, va_up_ne _ _ (by decide)]; exact ew76_532
  have ew113_535 : en_535 113 = .inr (3, [.ref (ad_532 114), .int 0, .int 0, .int 0]) := by rw [hen_535, va_up_ne _ _ (by decide)]; exact ew113_532
  have hsn_535 : ∀ j, j < 73 → en_535 (1 + 1 * j) = eK (1 + 1 * j) := fun j hj => by rw [hen_535, va_up_ne _ _ (fne 1 1 75 hj (by decide))]; exact hsn_532 j hj
  have hwo_535 : ∀ j, j < 10 → en_535 (77 + 3 * j) = .inr (9, [.ref (ad_532 (78 + 3 * j)), .ref (ad_532 (79 + 3 * j)), .int 0]) := fun j hj => by rw [hen_535, va_up_ne _ _ (fne2 77 3 75 (by decide))]; exact hwo_532 j hj
  have hwl_535 : ∀ j, j < 10 → en_535 (78 + 3 * j) = .inl (cy 0, 12, .inl (fun _ => 0)) := fun j hj => by rw [hen_535, va_up_ne _ _ (fne2 78 3 75 (by decide))]; exact hwl_532 j hj
  have hwr_535 : ∀ j, j < 10 → en_535 (79 + 3 * j) = .inl (cy 1, 9, .inr (.inl (fun _ => 0))) := fun j hj => by rw [hen_535, va_up_ne _ _ (fne2 79 3 75 (by decide))]; exact hwr_532 j hj
  have hs_535 : ∀ j, j < 4 → en_535 (107 + 2 * j) = .inr (3, [.ref (ad_532 (108 + 2 * j)), .int 0, .int 0, .int 0]) := fun j hj => by rw [hen_535, va_up_ne _ _ (fne2 107 2 75 (by decide))]; exact hs_533 j hj
  have hc_535 : ∀ j, j < 4 → en_535 (108 + 2 * j) = .inl (cy 0, 40, .inl (fun _ => 0)) := fun j hj => by rw [hen_535, va_up_ne _ _ (fne2 108 2 75 (by decide))]; exact hc_534 j hj
  have e75_535 : en_535 75 = .inl (cy 6, 4, .inr (.inr (.inr (.inr (va_up (va_up (va_up (va_up (fun _ => none) (0 : Int32).toNatClampNeg (some q_516)) (1 : Int32).toNatClampNeg (some q_521)) (2 : Int32).toNatClampNeg (some q_526)) (3 : Int32).toNatClampNeg (some q_531)))))) := by rw [hen_535]; exact va_up_self _ _ _
  clear et_532 e74_532 e75_532 ew76_532 hsn_532 hwo_532 hwl_532 hwr_532 hs_533 hc_534 ew113_535
  refine lv_iinc (v := 4) (lv' := [(1, .int 4), (0, .ref (ad 0))]) hx hb dX11_init_120 hl (k := 0) rfl (by decide) (by decide) rfl (fun ls hl => ?_)
  refine lv_goto (tgt := 102) hx hb dX11_init_123 (by decide) ?_
  refine lv_iload_n hx hb dX11_init_102 rfl (lv_at hl 0 rfl) ?_
  refine lv_iconst (v := 4) hx hb dX11_init_103 (by decide) ?_
  refine lv_icmp_ge (tgt := 126) hx hb dX11_init_104 (by decide) (fun _ => ?_) (fun c_0 => absurd c_0 (by decide))
  have hfg_536 : ∀ j, j < 10 → ((va_up (va_up (va_up (va_up (va_up (va_up (va_up (va_up (va_up (va_up (fun _ => none) (0 : Int32).toNatClampNeg (some q_456)) (1 : Int32).toNatClampNeg (some q_462)) (2 : Int32).toNatClampNeg (some q_468)) (3 : Int32).toNatClampNeg (some q_474)) (4 : Int32).toNatClampNeg (some q_480)) (5 : Int32).toNatClampNeg (some q_486)) (6 : Int32).toNatClampNeg (some q_492)) (7 : Int32).toNatClampNeg (some q_498)) (8 : Int32).toNatClampNeg (some q_504)) (9 : Int32).toNatClampNeg (some q_510)) : Nat → Option Nat) j = (rfB ad_532 10 77 3) j := by
    intro j hj
    unfold rfB
    rw [if_pos hj]
    rcases (show j = 0 ∨ j = 1 ∨ j = 2 ∨ j = 3 ∨ j = 4 ∨ j = 5 ∨ j = 6 ∨ j = 7 ∨ j = 8 ∨ j = 9 by omega) with rfl | rfl | rfl | rfl | rfl | rfl | rfl | rfl | rfl | rfl
    · exact (congrArg some hew77a_532).symm
    · exact (congrArg some hew80a_532).symm
    · exact (congrArg some hew83a_532).symm
    · exact (congrArg some hew86a_532).symm
    · exact (congrArg some hew89a_532).symm
    · exact (congrArg some hew92a_532).symm
    · exact (congrArg some hew95a_532).symm
    · exact (congrArg some hew98a_532).symm
    · exact (congrArg some hew101a_532).symm
    · exact (congrArg some hew104a_532).symm
  have hh := hp_refs (g := (rfB ad_532 10 77 3)) hh e74_535 (hfg_536)
  obtain ⟨en_537, hen_537⟩ : ∃ z, z = va_up en_535 74 (.inl (cy 5, 10, .inr (.inr (.inr (.inr (rfB ad_532 10 77 3)))))) := ⟨_, rfl⟩
  rw [← hen_537] at hh
  have et_537 : en_537 0 = .inr (10, [.ref q_440, .ref q_443, .ref q_446, .ref q_449, .ref q_451, .ref q_453, .int 0, .int 0]) := by rw [hen_537, va_up_ne _ _ (by decide)]; exact et_535
  have e75_537 : en_537 75 = .inl (cy 6, 4, .inr (.inr (.inr (.inr (va_up (va_up (va_up (va_up (fun _ => none) (0 : Int32).toNatClampNeg (some q_516)) (1 : Int32).toNatClampNeg (some q_521)) (2 : Int32).toNatClampNeg (some q_526)) (3 : Int32).toNatClampNeg (some q_531)))))) := by rw [hen_537, va_up_ne _ _ (by decide)]; exact e75_535
  have ew76_537 : en_537 76 = .inr (8, [.int 0]) := by rw [hen_537, va_up_ne _ _ (by decide)]; exact ew76_535
  have hsn_537 : ∀ j, j < 73 → en_537 (1 + 1 * j) = eK (1 + 1 * j) := fun j hj => by rw [hen_537, va_up_ne _ _ (fne 1 1 74 hj (by decide))]; exact hsn_535 j hj
  have hwo_537 : ∀ j, j < 10 → en_537 (77 + 3 * j) = .inr (9, [.ref (ad_532 (78 + 3 * j)), .ref (ad_532 (79 + 3 * j)), .int 0]) := fun j hj => by rw [hen_537, va_up_ne _ _ (fne2 77 3 74 (by decide))]; exact hwo_535 j hj
  have hwl_537 : ∀ j, j < 10 → en_537 (78 + 3 * j) = .inl (cy 0, 12, .inl (fun _ => 0)) := fun j hj => by rw [hen_537, va_up_ne _ _ (fne2 78 3 74 (by decide))]; exact hwl_535 j hj
  have hwr_537 : ∀ j, j < 10 → en_537 (79 + 3 * j) = .inl (cy 1, 9, .inr (.inl (fun _ => 0))) := fun j hj => by rw [hen_537, va_up_ne _ _ (fne2 79 3 74 (by decide))]; exact hwr_535 j hj
  have hs_537 : ∀ j, j < 4 → en_537 (107 + 2 * j) = .inr (3, [.ref (ad_532 (108 + 2 * j)), .int 0, .int 0, .int 0]) := fun j hj => by rw [hen_537, va_up_ne _ _ (fne2 107 2 74 (by decide))]; exact hs_535 j hj
  have hc_537 : ∀ j, j < 4 → en_537 (108 + 2 * j) = .inl (cy 0, 40, .inl (fun _ => 0)) := fun j hj => by rw [hen_537, va_up_ne _ _ (fne2 108 2 74 (by decide))]; exact hc_535 j hj
  have e74_537 : en_537 74 = .inl (cy 5, 10, .inr (.inr (.inr (.inr (rfB ad_532 10 77 3))))) := by rw [hen_537]; exact va_up_self _ _ _
  have hfg_538 : ∀ j, j < 4 → ((va_up (va_up (va_up (va_up (fun _ => none) (0 : Int32).toNatClampNeg (some q_516)) (1 : Int32).toNatClampNeg (some q_521)) (2 : Int32).toNatClampNeg (some q_526)) (3 : Int32).toNatClampNeg (some q_531)) : Nat → Option Nat) j = (rfB ad_532 4 107 2) j := by
    intro j hj
    unfold rfB
    rw [if_pos hj]
    rcases (show j = 0 ∨ j = 1 ∨ j = 2 ∨ j = 3 by omega) with rfl | rfl | rfl | rfl
    · exact (congrArg some hew107a_532).symm
    · exact (congrArg some hew109a_532).symm
    · exact (congrArg some hew111a_532).symm
    · exact (congrArg some he113a_532).symm
  have hh := hp_refs (g := (rfB ad_532 4 107 2)) hh e75_537 (hfg_538)
  obtain ⟨en_539, hen_539⟩ : ∃ z, z = va_up en_537 75 (.inl (cy 6, 4, .inr (.inr (.inr (.inr (rfB ad_532 4 107 2)))))) := ⟨_, rfl⟩
  rw [← hen_539] at hh
  have et_539 : en_539 0 = .inr (10, [.ref q_440, .ref q_443, .ref q_446, .ref q_449, .ref q_451, .ref q_453, .int 0, .int 0]) := by rw [hen_539, va_up_ne _ _ (by decide)]; exact et_537
  have e74_539 : en_539 74 = .inl (cy 5, 10, .inr (.inr (.inr (.inr (rfB ad_532 10 77 3))))) := by rw [hen_539, va_up_ne _ _ (by decide)]; exact e74_537
  have ew76_539 : en_539 76 = .inr (8, [.int 0]) := by rw [hen_539, va_up_ne _ _ (by decide)]; exact ew76_537
  have hsn_539 : ∀ j, j < 73 → en_539 (1 + 1 * j) = eK (1 + 1 * j) := fun j hj => by rw [hen_539, va_up_ne _ _ (fne 1 1 75 hj (by decide))]; exact hsn_537 j hj
  have hwo_539 : ∀ j, j < 10 → en_539 (77 + 3 * j) = .inr (9, [.ref (ad_532 (78 + 3 * j)), .ref (ad_532 (79 + 3 * j)), .int 0]) := fun j hj => by rw [hen_539, va_up_ne _ _ (fne2 77 3 75 (by decide))]; exact hwo_537 j hj
  have hwl_539 : ∀ j, j < 10 → en_539 (78 + 3 * j) = .inl (cy 0, 12, .inl (fun _ => 0)) := fun j hj => by rw [hen_539, va_up_ne _ _ (fne2 78 3 75 (by decide))]; exact hwl_537 j hj
  have hwr_539 : ∀ j, j < 10 → en_539 (79 + 3 * j) = .inl (cy 1, 9, .inr (.inl (fun _ => 0))) := fun j hj => by rw [hen_539, va_up_ne _ _ (fne2 79 3 75 (by decide))]; exact hwr_537 j hj
  have hs_539 : ∀ j, j < 4 → en_539 (107 + 2 * j) = .inr (3, [.ref (ad_532 (108 + 2 * j)), .int 0, .int 0, .int 0]) := fun j hj => by rw [hen_539, va_up_ne _ _ (fne2 107 2 75 (by decide))]; exact hs_537 j hj
  have hc_539 : ∀ j, j < 4 → en_539 (108 + 2 * j) = .inl (cy 0, 40, .inl (fun _ => 0)) := fun j hj => by rw [hen_539, va_up_ne _ _ (fne2 108 2 75 (by decide))]; exact hc_537 j hj
  have e75_539 : en_539 75 = .inl (cy 6, 4, .inr (.inr (.inr (.inr (rfB ad_532 4 107 2))))) := by rw [hen_539]; exact va_up_self _ _ _
  have hS9 : ∀ c, 1 ≤ c → c < 74 → en_539 c = en_447 c := fun c h1 h2 => by have h3 := hsn_539 (c - 1) (by omega); rw [show 1 + 1 * (c - 1) = c by omega, heK] at h3; exact h3
  have hA9 : ∀ c, c < 74 → ad_532 c = ad_447 c := fun c hc => by rw [hda_532 _ (Nat.lt_of_lt_of_le hc (by decide)), had_531, va_up_ne _ _ (Nat.ne_of_lt (Nat.lt_of_lt_of_le hc (by decide))), hda_527 _ (Nat.lt_of_lt_of_le hc (by decide)), had_526, va_up_ne _ _ (Nat.ne_of_lt (Nat.lt_of_lt_of_le hc (by decide))), hda_522 _ (Nat.lt_of_lt_of_le hc (by decide)), had_521, va_up_ne _ _ (Nat.ne_of_lt (Nat.lt_of_lt_of_le hc (by decide))), hda_517 _ (Nat.lt_of_lt_of_le hc (by decide)), had_516, va_up_ne _ _ (Nat.ne_of_lt (Nat.lt_of_lt_of_le hc (by decide))), hda_511 _ (Nat.lt_of_lt_of_le hc (by decide)), had_510, va_up_ne _ _ (Nat.ne_of_lt (Nat.lt_of_lt_of_le hc (by decide))), hda_505 _ (Nat.lt_of_lt_of_le hc (by decide)), had_504, va_up_ne _ _ (Nat.ne_of_lt (Nat.lt_of_lt_of_le hc (by decide))), hda_499 _ (Nat.lt_of_lt_of_le hc (by decide)), had_498, va_up_ne _ _ (Nat.ne_of_lt (Nat.lt_of_lt_of_le hc (by decide))), hda_493 _ (Nat.lt_of_lt_of_le hc (by decide)), had_492, va_up_ne _ _ (Nat.ne_of_lt (Nat.lt_of_lt_of_le hc (by decide))), hda_487 _ (Nat.lt_of_lt_of_le hc (by decide)), had_486, va_up_ne _ _ (Nat.ne_of_lt (Nat.lt_of_lt_of_le hc (by decide))), hda_481 _ (Nat.lt_of_lt_of_le hc (by decide)), had_480, va_up_ne _ _ (Nat.ne_of_lt (Nat.lt_of_lt_of_le hc (by decide))), hda_475 _ (Nat.lt_of_lt_of_le hc (by decide)), had_474, va_up_ne _ _ (Nat.ne_of_lt (Nat.lt_of_lt_of_le hc (by decide))), hda_469 _ (Nat.lt_of_lt_of_le hc (by decide)), had_468, va_up_ne _ _ (Nat.ne_of_lt (Nat.lt_of_lt_of_le hc (by decide))), hda_463 _ (Nat.lt_of_lt_of_le hc (by decide)), had_462, va_up_ne _ _ (Nat.ne_of_lt (Nat.lt_of_lt_of_le hc (by decide))), hda_457 _ (Nat.lt_of_lt_of_le hc (by decide)), had_456, va_up_ne _ _ (Nat.ne_of_lt (Nat.lt_of_lt_of_le hc (by decide))), hda_454 _ (Nat.lt_of_lt_of_le hc (by decide)), had_453, va_up_ne _ _ (Nat.ne_of_lt (Nat.lt_of_lt_of_le hc (by decide))), had_451, va_up_ne _ _ (Nat.ne_of_lt (Nat.lt_of_lt_of_le hc (by decide))), had_449, va_up_ne _ _ (Nat.ne_of_lt (Nat.lt_of_lt_of_le hc (by decide)))]
  have h09 : en_539 0 = .inr (10, [.ref (ad_532 1), .ref (ad_532 12), .ref (ad_532 70), .ref (ad_532 74), .ref (ad_532 75), .ref (ad_532 76), .int 0, .int 0]) := by rw [hex1a_532, hex12a_532, hex70a_532, he74a_532, he75a_532, hew76a_532]; exact et_539
  have h19 : en_539 1 = .inr (7, [.ref (ad_532 2), .ref (ad_532 3), .ref (ad_532 10), .ref (ad_532 11), .int 0, .int 2, .int 0]) := by rw [hS9 1 (by omega) (by omega), hA9 2 (by omega), hA9 3 (by omega), hA9 10 (by omega), hA9 11 (by omega)]; exact h1K
  have h129 : en_539 12 = .inr (2, [.ref (ad_532 1), .ref (ad_532 13), .ref (ad_532 14), .ref (ad_532 24), .ref (ad_532 33), .int 0]) := by rw [hS9 12 (by omega) (by omega), hA9 1 (by omega), hA9 13 (by omega), hA9 14 (by omega), hA9 24 (by omega), hA9 33 (by omega)]; exact h12K
  have h709 : en_539 70 = .inr (0, [.ref (ad_532 1), .ref (ad_532 71), .ref (ad_532 72), .ref (ad_532 73), .null, .null, .null, .int 0, .int 0, .int 0, .int 0, .int 0, .int 0]) := by rw [hS9 70 (by omega) (by omega), hA9 1 (by omega), hA9 71 (by omega), hA9 72 (by omega), hA9 73 (by omega)]; exact e70_447
  have h39 : en_539 3 = .inl (cy 8, 6, .inr (.inr (.inr (.inr (rfA ad_532 6 4))))) := by rw [hS9 3 (by omega) (by omega), rfA_m (ad1 := ad_532) (ad := ad_441) (fun j hj => by rw [hA9 _ (by omega), hda_447 _ (by omega), had_446, va_up_ne _ _ (by omega), hda_444 _ (by omega), had_443, va_up_ne _ _ (by omega)])]; exact e3_447
  have h139 : en_539 13 = .inl (cy 4, 9, .inr (.inr (.inr (.inr (rfB ad_532 9 34 4))))) := by rw [hS9 13 (by omega) (by omega), rfB_m (ad1 := ad_532) (ad := ad_444) (fun j hj => by rw [hA9 _ (by omega), hda_447 _ (by omega), had_446, va_up_ne _ _ (by omega)])]; exact e13_447
  have h149 : en_539 14 = .inl (cy 7, 9, .inr (.inr (.inr (.inr (rfA ad_532 9 15))))) := by rw [hS9 14 (by omega) (by omega), rfA_m (ad1 := ad_532) (ad := ad_444) (fun j hj => by rw [hA9 _ (by omega), hda_447 _ (by omega), had_446, va_up_ne _ _ (by omega)])]; exact e14_447
  have h249 : en_539 24 = .inl (cy 8, 8, .inr (.inr (.inr (.inr (rfA ad_532 8 25))))) := by rw [hS9 24 (by omega) (by omega), rfA_m (ad1 := ad_532) (ad := ad_444) (fun j hj => by rw [hA9 _ (by omega), hda_447 _ (by omega), had_446, va_up_ne _ _ (by omega)])]; exact e24_447
  have hv9 : ∀ j, j < 9 → en_539 (34 + 4 * j) = .inr (5, [.ref (ad_532 (35 + 4 * j)), .ref (ad_532 (36 + 4 * j)), .ref (ad_532 (37 + 4 * j)), .int 0, .int 0, .int 0, .long 0, .long 0, .long 0, .long 0]) := fun j hj => by rw [hS9 (34 + 4 * j) (by omega) (by omega), hA9 (35 + 4 * j) (by omega), hA9 (36 + 4 * j) (by omega), hA9 (37 + 4 * j) (by omega)]; exact hv_447 j hj
  have h109 : ∃ f : Nat → Int32, en_539 10 = .inl (cy 2, 36, .inl f) ∧ ∀ i, i < 36 → f i = 1 := ⟨_, ((hS9 10 (by omega) (by omega)).trans e10_447), hone_441⟩
  exact hq_vret hx hb hr hlocks hh (⟨(fun i hi => by dsimp only; rw [hda_532 _ (Nat.lt_of_lt_of_le hi (by decide)), had_531, va_up_ne _ _ (Nat.ne_of_lt (Nat.lt_of_lt_of_le hi (by decide))), hda_527 _ (Nat.lt_of_lt_of_le hi (by decide)), had_526, va_up_ne _ _ (Nat.ne_of_lt (Nat.lt_of_lt_of_le hi (by decide))), hda_522 _ (Nat.lt_of_lt_of_le hi (by decide)), had_521, va_up_ne _ _ (Nat.ne_of_lt (Nat.lt_of_lt_of_le hi (by decide))), hda_517 _ (Nat.lt_of_lt_of_le hi (by decide)), had_516, va_up_ne _ _ (Nat.ne_of_lt (Nat.lt_of_lt_of_le hi (by decide))), hda_511 _ (Nat.lt_of_lt_of_le hi (by decide)), had_510, va_up_ne _ _ (Nat.ne_of_lt (Nat.lt_of_lt_of_le hi (by decide))), hda_505 _ (Nat.lt_of_lt_of_le hi (by decide)), had_504, va_up_ne _ _ (Nat.ne_of_lt (Nat.lt_of_lt_of_le hi (by decide))), hda_499 _ (Nat.lt_of_lt_of_le hi (by decide)), had_498, va_up_ne _ _ (Nat.ne_of_lt (Nat.lt_of_lt_of_le hi (by decide))), hda_493 _ (Nat.lt_of_lt_of_le hi (by decide)), had_492, va_up_ne _ _ (Nat.ne_of_lt (Nat.lt_of_lt_of_le hi (by decide))), hda_487 _ (Nat.lt_of_lt_of_le hi (by decide)), had_486, va_up_ne _ _ (Nat.ne_of_lt (Nat.lt_of_lt_of_le hi (by decide))), hda_481 _ (Nat.lt_of_lt_of_le hi (by decide)), had_480, va_up_ne _ _ (Nat.ne_of_lt (Nat.lt_of_lt_of_le hi (by decide))), hda_475 _ (Nat.lt_of_lt_of_le hi (by decide)), had_474, va_up_ne _ _ (Nat.ne_of_lt (Nat.lt_of_lt_of_le hi (by decide))), hda_469 _ (Nat.lt_of_lt_of_le hi (by decide)), had_468, va_up_ne _ _ (Nat.ne_of_lt (Nat.lt_of_lt_of_le hi (by decide))), hda_463 _ (Nat.lt_of_lt_of_le hi (by decide)), had_462, va_up_ne _ _ (Nat.ne_of_lt (Nat.lt_of_lt_of_le hi (by decide))), hda_457 _ (Nat.lt_of_lt_of_le hi (by decide)), had_456, va_up_ne _ _ (Nat.ne_of_lt (Nat.lt_of_lt_of_le hi (by decide))), hda_454 _ (Nat.lt_of_lt_of_le hi (by decide)), had_453, va_up_ne _ _ (Nat.ne_of_lt (Nat.lt_of_lt_of_le hi (by decide))), had_451, va_up_ne _ _ (Nat.ne_of_lt (Nat.lt_of_lt_of_le hi (by decide))), had_449, va_up_ne _ _ (Nat.ne_of_lt (Nat.lt_of_lt_of_le hi (by decide))), hda_447 _ (Nat.lt_of_lt_of_le hi (by decide)), had_446, va_up_ne _ _ (Nat.ne_of_lt (Nat.lt_of_lt_of_le hi (by decide))), hda_444 _ (Nat.lt_of_lt_of_le hi (by decide)), had_443, va_up_ne _ _ (Nat.ne_of_lt (Nat.lt_of_lt_of_le hi (by decide))), hda_441 _ (Nat.lt_of_lt_of_le hi (by decide)), had_440, va_up_ne _ _ (Nat.ne_of_lt (Nat.lt_of_lt_of_le hi (by decide)))]), (fun i hi hne => by dsimp only; rw [hen_539, va_up_ne _ _ (Nat.ne_of_lt (Nat.lt_of_lt_of_le hi (by decide))), hen_537, va_up_ne _ _ (Nat.ne_of_lt (Nat.lt_of_lt_of_le hi (by decide))), hen_535, va_up_ne _ _ (Nat.ne_of_lt (Nat.lt_of_lt_of_le hi (by decide))), hue_532 _ (Nat.lt_of_lt_of_le hi (by decide)) (Nat.ne_of_lt (Nat.lt_of_lt_of_le hi (by decide))), hen_531, va_up_ne _ _ (Nat.ne_of_lt (Nat.lt_of_lt_of_le hi (by decide))), hen_530, va_up_ne _ _ (Nat.ne_of_lt (Nat.lt_of_lt_of_le hi (by decide))), hue_527 _ (Nat.lt_of_lt_of_le hi (by decide)) (Nat.ne_of_lt (Nat.lt_of_lt_of_le hi (by decide))), hen_526, va_up_ne _ _ (Nat.ne_of_lt (Nat.lt_of_lt_of_le hi (by decide))), hen_525, va_up_ne _ _ (Nat.ne_of_lt (Nat.lt_of_lt_of_le hi (by decide))), hue_522 _ (Nat.lt_of_lt_of_le hi (by decide)) (Nat.ne_of_lt (Nat.lt_of_lt_of_le hi (by decide))), hen_521, va_up_ne _ _ (Nat.ne_of_lt (Nat.lt_of_lt_of_le hi (by decide))), hen_520, va_up_ne _ _ (Nat.ne_of_lt (Nat.lt_of_lt_of_le hi (by decide))), hue_517 _ (Nat.lt_of_lt_of_le hi (by decide)) (Nat.ne_of_lt (Nat.lt_of_lt_of_le hi (by decide))), hen_516, va_up_ne _ _ (Nat.ne_of_lt (Nat.lt_of_lt_of_le hi (by decide))), hen_515, va_up_ne _ _ (Nat.ne_of_lt (Nat.lt_of_lt_of_le hi (by decide))), hue_511 _ (Nat.lt_of_lt_of_le hi (by decide)) (Nat.ne_of_lt (Nat.lt_of_lt_of_le hi (by decide))), hen_510, va_up_ne _ _ (Nat.ne_of_lt (Nat.lt_of_lt_of_le hi (by decide))), hen_509, va_up_ne _ _ (Nat.ne_of_lt (Nat.lt_of_lt_of_le hi (by decide))), hue_505 _ (Nat.lt_of_lt_of_le hi (by decide)) (Nat.ne_of_lt (Nat.lt_of_lt_of_le hi (by decide))), hen_504, va_up_ne _ _ (Nat.ne_of_lt (Nat.lt_of_lt_of_le hi (by decide))), hen_503, va_up_ne _ _ (Nat.ne_of_lt (Nat.lt_of_lt_of_le hi (by decide))), hue_499 _ (Nat.lt_of_lt_of_le hi (by decide)) (Nat.ne_of_lt (Nat.lt_of_lt_of_le hi (by decide))), hen_498, va_up_ne _ _ (Nat.ne_of_lt (Nat.lt_of_lt_of_le hi (by decide))), hen_497, va_up_ne _ _ (Nat.ne_of_lt (Nat.lt_of_lt_of_le hi (by decide))), hue_493 _ (Nat.lt_of_lt_of_le hi (by decide)) (Nat.ne_of_lt (Nat.lt_of_lt_of_le hi (by decide))), hen_492, va_up_ne _ _ (Nat.ne_of_lt (Nat.lt_of_lt_of_le hi (by decide))), hen_491, va_up_ne _ _ (Nat.ne_of_lt (Nat.lt_of_lt_of_le hi (by decide))), hue_487 _ (Nat.lt_of_lt_of_le hi (by decide)) (Nat.ne_of_lt (Nat.lt_of_lt_of_le hi (by decide))), hen_486, va_up_ne _ _ (Nat.ne_of_lt (Nat.lt_of_lt_of_le hi (by decide))), hen_485, va_up_ne _ _ (Nat.ne_of_lt (Nat.lt_of_lt_of_le hi (by decide))), hue_481 _ (Nat.lt_of_lt_of_le hi (by decide)) (Nat.ne_of_lt (Nat.lt_of_lt_of_le hi (by decide))), hen_480, va_up_ne _ _ (Nat.ne_of_lt (Nat.lt_of_lt_of_le hi (by decide))), hen_479, va_up_ne _ _ (Nat.ne_of_lt (Nat.lt_of_lt_of_le hi (by decide))), hue_475 _ (Nat.lt_of_lt_of_le hi (by decide)) (Nat.ne_of_lt (Nat.lt_of_lt_of_le hi (by decide))), hen_474, va_up_ne _ _ (Nat.ne_of_lt (Nat.lt_of_lt_of_le hi (by decide))), hen_473, va_up_ne _ _ (Nat.ne_of_lt (Nat.lt_of_lt_of_le hi (by decide))), hue_469 _ (Nat.lt_of_lt_of_le hi (by decide)) (Nat.ne_of_lt (Nat.lt_of_lt_of_le hi (by decide))), hen_468, va_up_ne _ _ (Nat.ne_of_lt (Nat.lt_of_lt_of_le hi (by decide))), hen_467, va_up_ne _ _ (Nat.ne_of_lt (Nat.lt_of_lt_of_le hi (by decide))), hue_463 _ (Nat.lt_of_lt_of_le hi (by decide)) (Nat.ne_of_lt (Nat.lt_of_lt_of_le hi (by decide))), hen_462, va_up_ne _ _ (Nat.ne_of_lt (Nat.lt_of_lt_of_le hi (by decide))), hen_461, va_up_ne _ _ (Nat.ne_of_lt (Nat.lt_of_lt_of_le hi (by decide))), hue_457 _ (Nat.lt_of_lt_of_le hi (by decide)) (Nat.ne_of_lt (Nat.lt_of_lt_of_le hi (by decide))), hen_456, va_up_ne _ _ (Nat.ne_of_lt (Nat.lt_of_lt_of_le hi (by decide))), hen_455, va_up_ne _ _ hne, hue_454 _ (Nat.lt_of_lt_of_le hi (by decide)) (Nat.ne_of_lt (Nat.lt_of_lt_of_le hi (by decide))), hen_453, va_up_ne _ _ (Nat.ne_of_lt (Nat.lt_of_lt_of_le hi (by decide))), hen_452, va_up_ne _ _ hne, hen_451, va_up_ne _ _ (Nat.ne_of_lt (Nat.lt_of_lt_of_le hi (by decide))), hen_450, va_up_ne _ _ hne, hen_449, va_up_ne _ _ (Nat.ne_of_lt (Nat.lt_of_lt_of_le hi (by decide))), hen_448, va_up_ne _ _ hne, hue_447 _ (Nat.lt_of_lt_of_le hi (by decide)) (Nat.ne_of_lt (Nat.lt_of_lt_of_le hi (by decide))), hen_446, va_up_ne _ _ (Nat.ne_of_lt (Nat.lt_of_lt_of_le hi (by decide))), hen_445, va_up_ne _ _ hne, hue_444 _ (Nat.lt_of_lt_of_le hi (by decide)) (Nat.ne_of_lt (Nat.lt_of_lt_of_le hi (by decide))), hen_443, va_up_ne _ _ (Nat.ne_of_lt (Nat.lt_of_lt_of_le hi (by decide))), hen_442, va_up_ne _ _ hne, hue_441 _ (Nat.lt_of_lt_of_le hi (by decide)) (Nat.ne_of_lt (Nat.lt_of_lt_of_le hi (by decide))), hen_440, va_up_ne _ _ (Nat.ne_of_lt (Nat.lt_of_lt_of_le hi (by decide)))]), SX_new h09 h19 ⟨_, ((hS9 2 (by omega) (by omega)).trans e2_447)⟩ h39 (fun j hj => (hS9 (4 + j) (by omega) (by omega)).trans (hrw_447 j hj)) h109 ((hS9 11 (by omega) (by omega)).trans e11_447) h129 h139 h149 (fun j hj => (hS9 (15 + j) (by omega) (by omega)).trans (hwy_447 j hj)) h249 (fun j hj => (hS9 (25 + j) (by omega) (by omega)).trans (hpf_447 j hj)) ((hS9 33 (by omega) (by omega)).trans e33_447) hv9 (fun j hj => (hS9 (35 + 4 * j) (by omega) (by omega)).trans (hva_447 j hj)) (fun j hj => (hS9 (36 + 4 * j) (by omega) (by omega)).trans (hvb_447 j hj)) (fun j hj => (hS9 (37 + 4 * j) (by omega) (by omega)).trans (hvc_447 j hj)) h709 ((hS9 71 (by omega) (by omega)).trans e71_447) ((hS9 72 (by omega) (by omega)).trans e72_447) ((hS9 73 (by omega) (by omega)).trans e73_447) e74_539 e75_539 ew76_539 hwo_539 hwl_539 hwr_539 hs_539 hc_539, h09, h19, h109, h709, ew76_539, hs_539, hc_539, h129, hv9⟩) dX11_init_126
theorem kw_X11_init {R : Room} {s : State} {args : Array Value} {own : String} {idx : Nat} (hts : ∀ w ∈ TB, w.before args s = true) (hl : Cond.methodLink own idx yX11_init ∈ TB) (hR : 4 + 1 ≤ R.frames ∧ 8 + (2 + 11) + 40 * 4 ≤ R.locals) : CallB R s args own idx yX11_init cX11_init 2 none (Cond.code yX11_init cX11_init 2 none :: TB) (rmC 4 114 1061) 114 1061 0 ∧ yX11_init.name = "<init>" ∧ (Cond.instanceMethod yX11_init).before args s = true := cwI 0 hts (TB_W tw_21) rfl rfl rfl (hts _ tw_1) (hts _ hl) (hts _ tw_20) rfl (by decide +kernel) hR
