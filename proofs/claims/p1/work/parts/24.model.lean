set_option maxHeartbeats 8000000 in
set_option maxRecDepth 100000 in
/-- AnyOrderModel() -/
theorem c_X12_init (l : Launch) (D : va_G) (cy : Nat → ClassId) (sz : Nat) (ad : Nat → Nat) (en : Nat → va_E)  (et : en 0 = .inr (11, [.int 0, .int 0, .int 0, .int 0, .int 0, .null, .null, .null, .null, .null, .null, .null, .null, .null, .int 0, .long 0, .long 0, .long 0, .long 0, .null, .null, .null, .int 0, .long 0, .null, .int 0, .null, .null, .null, .null, .int 0, .null, .null])) : Met l yX12_init (Cond.code yX12_init cX12_init 1 none :: TB) (rmC 1 19 26685) (va_Pc [.ref (ad 0)] (PreC D cy 1 ad en sz)) (va_Qv (S := (Nat → Nat) × (Nat → va_E)) (fun u => (∀ i, i < 1 → u.1 i = ad i) ∧ (∀ i, i < 1 → i ≠ 0 → u.2 i = en i) ∧ u.2 0 = .inr (11, [.int 0, .int 0, .int 2, .int 0, .int 0, .ref (u.1 1), .ref (u.1 2), .ref (u.1 3), .ref (u.1 4), .ref (u.1 5), .ref (u.1 6), .ref (u.1 7), .ref (u.1 8), .ref (u.1 9), .int 0, .long 0, .long 0, .long 0, .long 0, .ref (u.1 10), .ref (u.1 11), .ref (u.1 12), .int 0, .long 0, .ref (u.1 13), .int (-9), .ref (u.1 14), .ref (u.1 15), .ref (u.1 16), .ref (u.1 17), .int 0, .ref (u.1 18), .ref (u.1 19)]) ∧ u.2 2 = .inl (cy 2, 36, .inl (fun _ => 0)) ∧ (∃ g : Nat → Int32, u.2 3 = .inl (cy 0, 4, .inl g) ∧ ∀ j, j < 4 → g j = -9) ∧ u.2 4 = .inl (cy 0, 4, .inl (fun _ => 0)) ∧ u.2 5 = .inl (cy 0, 160, .inl (fun _ => 0)) ∧ u.2 6 = .inl (cy 1, 117, .inr (.inl (fun _ => 0))) ∧ u.2 7 = .inl (cy 0, 13, .inl (fun _ => 0))) (PostC D 20 (Af (List.range 1) ad sz)) (Af (List.range 1) ad sz)) 19 26685 (Af (List.range 1) ad sz) := by
  refine Met.ofW (cc := cX12_init) (maxL := 1) (ret := none) (by decide) rfl ?_
  intro p e s m args below meth c s₁ B hml hv
  obtain ⟨rfl, ⟨hsz, hP, hK, hD0⟩, hX⟩ := hv
  have hx := B.exec
  have hb := B.bytes
  have hr := B.returns
  have hts : ∀ w ∈ TB, w.before _ s = true := fun w h => atoms_spec (ws := _ :: TB) B.pre w (List.mem_cons_of_mem _ h)
  have hown : s.vm.findClass RX12 = some m.cls := findClass_of_methodNamed B.named
  have hlocks := B.notSynchronized
  have hin : meth.name = "<init>" := (name_of_methodNamed B.named B.method).1
  have hh : Hp D (Af (List.range 1) ad sz) (Af (List.range 1) ad sz) s.heap s.heap [] (List.range 1) ad en := ⟨hP, Af_self hD0, va_S.rf⟩
  have hA : ∀ q : Nat, s.heap.size ≤ q → (Af (List.range 1) ad sz) q := fun q h => Or.inr (by rw [hsz] at h; exact h)
  generalize (Af (List.range 1) ad sz) = A at hh hA ⊢
  have hl := lv_entry ([.ref (ad 0)]) (n := 1) (Nat.le_of_ble_eq_true rfl)
  rw [lg_entry_eq]
  generalize (lg_sl ([.ref (ad 0)]) ++ List.replicate (1 - (lg_sl ([.ref (ad 0)])).length) Slot.unset).toArray = ls at hl ⊢
  have hl : lv_has ls 1 [(0, .ref (ad 0))] := hl
  refine lv_aload_n hx hb dX12_init_0 rfl (lv_at hl 0 rfl) ?_
  refine W.objInit hx hb hown (hts _ tw_878) (hts _ tw_23) (hts _ tw_24) rfl (by rw [hml]; exact hl.1) rfl dX12_init_1 (Nat.le_of_ble_eq_true rfl) (Nat.le_of_ble_eq_true rfl) ?_
  refine W.eq (g2 := F0 m 4 ls []) rfl ?_
  refine lv_aload_n hx hb dX12_init_4 rfl (lv_at hl 0 rfl) ?_
  refine lv_iconst (v := 2) hx hb dX12_init_5 (by decide) ?_
  refine hp_put hx hb hts ix12 tyX12 tyX12_ok nmX12 hown hK hh (q := 0) rfl (List.mem_range.mpr (by decide)) et rfl 2 (by decide) (hts _ tw_881) (fun _ h9 => h9) rfl (ty := .int) (by decide +kernel) rfl rfl (Nat.le_of_ble_eq_true rfl) dX12_init_6 (fun H locs en_389 hen_389 hh => ?_)
  have et_389 : en_389 0 = .inr (11, [.int 0, .int 0, .int 2, .int 0, .int 0, .null, .null, .null, .null, .null, .null, .null, .null, .null, .int 0, .long 0, .long 0, .long 0, .long 0, .null, .null, .null, .int 0, .long 0, .null, .int 0, .null, .null, .null, .null, .int 0, .null, .null]) := by rw [hen_389]; exact va_up_self _ _ _
  refine lv_aload_n hx hb dX12_init_9 rfl (lv_at hl 0 rfl) ?_
  refine lv_bipush (v := 54) hx hb dX12_init_10 (by decide) ?_
  refine hq_newa (atype := .int) (ty := .int) hx hb (hts _ tw_121) rfl hK hh hA 0 rfl (N' := 54) (a0 := (54, .inl (fun _ => 0))) (fun _ => rfl) (by decide) (by decide) (by decide) (Nat.le_of_ble_eq_true rfl) (Nat.le_of_ble_eq_true rfl) dX12_init_12 (fun q_390 H ad_390 en_390 had_390 hen_390 hh => ?_)
  have hh : Hp D A A s.heap H _ (List.range 2) ad_390 en_390 := hh
  have et_390 : en_390 0 = .inr (11, [.int 0, .int 0, .int 2, .int 0, .int 0, .null, .null, .null, .null, .null, .null, .null, .null, .null, .int 0, .long 0, .long 0, .long 0, .long 0, .null, .null, .null, .int 0, .long 0, .null, .int 0, .null, .null, .null, .null, .int 0, .null, .null]) := by rw [hen_390, va_up_ne _ _ (by decide)]; exact et_389
  have heta_390 : ad_390 0 = (ad 0) := by rw [had_390, va_up_ne _ _ (by decide)]
  have e1_390 : en_390 1 = .inl (cy 0, 54, .inl (fun _ => 0)) := by rw [hen_390]; exact va_up_self _ _ _
  have he1a_390 : ad_390 1 = q_390 := by rw [had_390]; exact va_up_self _ _ _
  refine W.widen (k := 1) (n := 54) (Nat.le_refl _) (Nat.le_refl _) ?_
  refine hp_putF hx hb hts ix12 tyX12 tyX12_ok nmX12 hown hK hh (q := 0) heta_390 (List.mem_range.mpr (by decide)) et_390 rfl 5 (by decide) (hts _ tw_884) (fun _ h9 => h9) rfl hin rfl (ty := (.array .int)) (by decide +kernel) rfl rfl (Nat.le_of_ble_eq_true rfl) dX12_init_14 (fun H locs en_391 hen_391 hh => ?_)
  have e1_391 : en_391 1 = .inl (cy 0, 54, .inl (fun _ => 0)) := by rw [hen_391, va_up_ne _ _ (by decide)]; exact e1_390
  have et_391 : en_391 0 = .inr (11, [.int 0, .int 0, .int 2, .int 0, .int 0, .ref q_390, .null, .null, .null, .null, .null, .null, .null, .null, .int 0, .long 0, .long 0, .long 0, .long 0, .null, .null, .null, .int 0, .long 0, .null, .int 0, .null, .null, .null, .null, .int 0, .null, .null]) := by rw [hen_391]; exact va_up_self _ _ _
  refine lv_aload_n hx hb dX12_init_17 rfl (lv_at hl 0 rfl) ?_
  refine lv_bipush (v := 36) hx hb dX12_init_18 (by decide) ?_
  refine hq_newa (atype := .boolean) (ty := .boolean) hx hb (hts _ tw_62) rfl hK hh hA 2 rfl (N' := 36) (a0 := (36, .inl (fun _ => 0))) (fun _ => rfl) (by decide) (by decide) (by decide) (Nat.le_of_ble_eq_true rfl) (Nat.le_of_ble_eq_true rfl) dX12_init_20 (fun q_392 H ad_392 en_392 had_392 hen_392 hh => ?_)
  have hh : Hp D A A s.heap H _ (List.range 3) ad_392 en_392 := hh
  have et_392 : en_392 0 = .inr (11, [.int 0, .int 0, .int 2, .int 0, .int 0, .ref q_390, .null, .null, .null, .null, .null, .null, .null, .null, .int 0, .long 0, .long 0, .long 0, .long 0, .null, .null, .null, .int 0, .long 0, .null, .int 0, .null, .null, .null, .null, .int 0, .null, .null]) := by rw [hen_392, va_up_ne _ _ (by decide)]; exact et_391
  have heta_392 : ad_392 0 = (ad 0) := by rw [had_392, va_up_ne _ _ (by decide)]; exact heta_390
  have e1_392 : en_392 1 = .inl (cy 0, 54, .inl (fun _ => 0)) := by rw [hen_392, va_up_ne _ _ (by decide)]; exact e1_391
  have he1a_392 : ad_392 1 = q_390 := by rw [had_392, va_up_ne _ _ (by decide)]; exact he1a_390
  have e2_392 : en_392 2 = .inl (cy 2, 36, .inl (fun _ => 0)) := by rw [hen_392]; exact va_up_self _ _ _
  have he2a_392 : ad_392 2 = q_392 := by rw [had_392]; exact va_up_self _ _ _
  refine W.widen (k := 2) (n := 90) (Nat.le_refl _) (Nat.le_refl _) ?_
  refine hp_putF hx hb hts ix12 tyX12 tyX12_ok nmX12 hown hK hh (q := 0) heta_392 (List.mem_range.mpr (by decide)) et_392 rfl 6 (by decide) (hts _ tw_885) (fun _ h9 => h9) rfl hin rfl (ty := (.array .boolean)) (by decide +kernel) rfl rfl (Nat.le_of_ble_eq_true rfl) dX12_init_22 (fun H locs en_393 hen_393 hh => ?_)
  have e1_393 : en_393 1 = .inl (cy 0, 54, .inl (fun _ => 0)) := by rw [hen_393, va_up_ne _ _ (by decide)]; exact e1_392
  have e2_393 : en_393 2 = .inl (cy 2, 36, .inl (fun _ => 0)) := by rw [hen_393, va_up_ne _ _ (by decide)]; exact e2_392
  have et_393 : en_393 0 = .inr (11, [.int 0, .int 0, .int 2, .int 0, .int 0, .ref q_390, .ref q_392, .null, .null, .null, .null, .null, .null, .null, .int 0, .long 0, .long 0, .long 0, .long 0, .null, .null, .null, .int 0, .long 0, .null, .int 0, .null, .null, .null, .null, .int 0, .null, .null]) := by rw [hen_393]; exact va_up_self _ _ _
  refine lv_aload_n hx hb dX12_init_25 rfl (lv_at hl 0 rfl) ?_
  refine lv_iconst (v := 4) hx hb dX12_init_26 (by decide) ?_
  refine hq_newa (atype := .int) (ty := .int) hx hb (hts _ tw_121) rfl hK hh hA 0 rfl (N' := 4) (a0 := (4, .inl (fun _ => 0))) (fun _ => rfl) (by decide) (by decide) (by decide) (Nat.le_of_ble_eq_true rfl) (Nat.le_of_ble_eq_true rfl) dX12_init_27 (fun q_394 H ad_394 en_394 had_394 hen_394 hh => ?_)
  have hh : Hp D A A s.heap H _ (List.range 4) ad_394 en_394 := hh
  have et_394 : en_394 0 = .inr (11, [.int 0, .int 0, .int 2, .int 0, .int 0, .ref q_390, .ref q_392, .null, .null, .null, .null, .null, .null, .null, .int 0, .long 0, .long 0, .long 0, .long 0, .null, .null, .null, .int 0, .long 0, .null, .int 0, .null, .null, .null, .null, .int 0, .null, .null]) := by rw [hen_394, va_up_ne _ _ (by decide)]; exact et_393
  have heta_394 : ad_394 0 = (ad 0) := by rw [had_394, va_up_ne _ _ (by decide)]; exact heta_392
  have e1_394 : en_394 1 = .inl (cy 0, 54, .inl (fun _ => 0)) := by rw [hen_394, va_up_ne _ _ (by decide)]; exact e1_393
  have he1a_394 : ad_394 1 = q_390 := by rw [had_394, va_up_ne _ _ (by decide)]; exact he1a_392
  have e2_394 : en_394 2 = .inl (cy 2, 36, .inl (fun _ => 0)) := by rw [hen_394, va_up_ne _ _ (by decide)]; exact e2_393
  have he2a_394 : ad_394 2 = q_392 := by rw [had_394, va_up_ne _ _ (by decide)]; exact he2a_392
  have e3_394 : en_394 3 = .inl (cy 0, 4, .inl (fun _ => 0)) := by rw [hen_394]; exact va_up_self _ _ _
  have he3a_394 : ad_394 3 = q_394 := by rw [had_394]; exact va_up_self _ _ _
  refine W.widen (k := 3) (n := 94) (Nat.le_refl _) (Nat.le_refl _) ?_
  refine lv_dup hx hb dX12_init_29 rfl ?_
  refine lv_iconst (v := 0) hx hb dX12_init_30 (by decide) ?_
  refine lv_bipush (v := (-9)) hx hb dX12_init_31 (by decide) ?_
  refine hp_iast hx hb hK hh (q := 3) he3a_394 (List.mem_range.mpr (by decide)) e3_394 (vp_in_iff.mpr (by decide)) dX12_init_33 (fun H locs en_395 hen_395 hh => ?_)
  have et_395 : en_395 0 = .inr (11, [.int 0, .int 0, .int 2, .int 0, .int 0, .ref q_390, .ref q_392, .null, .null, .null, .null, .null, .null, .null, .int 0, .long 0, .long 0, .long 0, .long 0, .null, .null, .null, .int 0, .long 0, .null, .int 0, .null, .null, .null, .null, .int 0, .null, .null]) := by rw [hen_395, va_up_ne _ _ (by decide)]; exact et_394
  have e1_395 : en_395 1 = .inl (cy 0, 54, .inl (fun _ => 0)) := by rw [hen_395, va_up_ne _ _ (by decide)]; exact e1_394
  have e2_395 : en_395 2 = .inl (cy 2, 36, .inl (fun _ => 0)) := by rw [hen_395, va_up_ne _ _ (by decide)]; exact e2_394
  have e3_395 : en_395 3 = .inl (cy 0, 4, .inl (upd (fun _ => 0) (0 : Int32).toNatClampNeg (-9))) := by rw [hen_395]; exact va_up_self _ _ _
  refine lv_dup hx hb dX12_init_34 rfl ?_
  refine lv_iconst (v := 1) hx hb dX12_init_35 (by decide) ?_
  refine lv_bipush (v := (-9)) hx hb dX12_init_36 (by decide) ?_
  refine hp_iast hx hb hK hh (q := 3) he3a_394 (List.mem_range.mpr (by decide)) e3_395 (vp_in_iff.mpr (by decide)) dX12_init_38 (fun H locs en_396 hen_396 hh => ?_)
  have et_396 : en_396 0 = .inr (11, [.int 0, .int 0, .int 2, .int 0, .int 0, .ref q_390, .ref q_392, .null, .null, .null, .null, .null, .null, .null, .int 0, .long 0, .long 0, .long 0, .long 0, .null, .null, .null, .int 0, .long 0, .null, .int 0, .null, .null, .null, .null, .int 0, .null, .null]) := by rw [hen_396, va_up_ne _ _ (by decide)]; exact et_395
  have e1_396 : en_396 1 = .inl (cy 0, 54, .inl (fun _ => 0)) := by rw [hen_396, va_up_ne _ _ (by decide)]; exact e1_395
  have e2_396 : en_396 2 = .inl (cy 2, 36, .inl (fun _ => 0)) := by rw [hen_396, va_up_ne _ _ (by decide)]; exact e2_395
  have e3_396 : en_396 3 = .inl (cy 0, 4, .inl (upd (upd (fun _ => 0) (0 : Int32).toNatClampNeg (-9)) (1 : Int32).toNatClampNeg (-9))) := by rw [hen_396]; exact va_up_self _ _ _
  refine lv_dup hx hb dX12_init_39 rfl ?_
  refine lv_iconst (v := 2) hx hb dX12_init_40 (by decide) ?_
  refine lv_bipush (v := (-9)) hx hb dX12_init_41 (by decide) ?_
  refine hp_iast hx hb hK hh (q := 3) he3a_394 (List.mem_range.mpr (by decide)) e3_396 (vp_in_iff.mpr (by decide)) dX12_init_43 (fun H locs en_397 hen_397 hh => ?_)
  have et_397 : en_397 0 = .inr (11, [.int 0, .int 0, .int 2, .int 0, .int 0, .ref q_390, .ref q_392, .null, .null, .null, .null, .null, .null, .null, .int 0, .long 0, .long 0, .long 0, .long 0, .null, .null, .null, .int 0, .long 0, .null, .int 0, .null, .null, .null, .null, .int 0, .null, .null]) := by rw [hen_397, va_up_ne _ _ (by decide)]; exact et_396
  have e1_397 : en_397 1 = .inl (cy 0, 54, .inl (fun _ => 0)) := by rw [hen_397, va_up_ne _ _ (by decide)]; exact e1_396
  have e2_397 : en_397 2 = .inl (cy 2, 36, .inl (fun _ => 0)) := by rw [hen_397, va_up_ne _ _ (by decide)]; exact e2_396
  have e3_397 : en_397 3 = .inl (cy 0, 4, .inl (upd (upd (upd (fun _ => 0) (0 : Int32).toNatClampNeg (-9)) (1 : Int32).toNatClampNeg (-9)) (2 : Int32).toNatClampNeg (-9))) := by rw [hen_397]; exact va_up_self _ _ _
  refine lv_dup hx hb dX12_init_44 rfl ?_
  refine lv_iconst (v := 3) hx hb dX12_init_45 (by decide) ?_
  refine lv_bipush (v := (-9)) hx hb dX12_init_46 (by decide) ?_
  refine hp_iast hx hb hK hh (q := 3) he3a_394 (List.mem_range.mpr (by decide)) e3_397 (vp_in_iff.mpr (by decide)) dX12_init_48 (fun H locs en_398 hen_398 hh => ?_)
  have et_398 : en_398 0 = .inr (11, [.int 0, .int 0, .int 2, .int 0, .int 0, .ref q_390, .ref q_392, .null, .null, .null, .null, .null, .null, .null, .int 0, .long 0, .long 0, .long 0, .long 0, .null, .null, .null, .int 0, .long 0, .null, .int 0, .null, .null, .null, .null, .int 0, .null, .null]) := by rw [hen_398, va_up_ne _ _ (by decide)]; exact et_397
  have e1_398 : en_398 1 = .inl (cy 0, 54, .inl (fun _ => 0)) := by rw [hen_398, va_up_ne _ _ (by decide)]; exact e1_397
  have e2_398 : en_398 2 = .inl (cy 2, 36, .inl (fun _ => 0)) := by rw [hen_398, va_up_ne _ _ (by decide)]; exact e2_397
  have e3_398 : en_398 3 = .inl (cy 0, 4, .inl (upd (upd (upd (upd (fun _ => 0) (0 : Int32).toNatClampNeg (-9)) (1 : Int32).toNatClampNeg (-9)) (2 : Int32).toNatClampNeg (-9)) (3 : Int32).toNatClampNeg (-9))) := by rw [hen_398]; exact va_up_self _ _ _
  refine hp_putF hx hb hts ix12 tyX12 tyX12_ok nmX12 hown hK hh (q := 0) heta_394 (List.mem_range.mpr (by decide)) et_398 rfl 7 (by decide) (hts _ tw_886) (fun _ h9 => h9) rfl hin rfl (ty := (.array .int)) (by decide +kernel) rfl rfl (Nat.le_of_ble_eq_true rfl) dX12_init_49 (fun H locs en_399 hen_399 hh => ?_)
  have e1_399 : en_399 1 = .inl (cy 0, 54, .inl (fun _ => 0)) := by rw [hen_399, va_up_ne _ _ (by decide)]; exact e1_398
  have e2_399 : en_399 2 = .inl (cy 2, 36, .inl (fun _ => 0)) := by rw [hen_399, va_up_ne _ _ (by decide)]; exact e2_398
  have e3_399 : en_399 3 = .inl (cy 0, 4, .inl (upd (upd (upd (upd (fun _ => 0) (0 : Int32).toNatClampNeg (-9)) (1 : Int32).toNatClampNeg (-9)) (2 : Int32).toNatClampNeg (-9)) (3 : Int32).toNatClampNeg (-9))) := by rw [hen_399, va_up_ne _ _ (by decide)]; exact e3_398
  have et_399 : en_399 0 = .inr (11, [.int 0, .int 0, .int 2, .int 0, .int 0, .ref q_390, .ref q_392, .ref q_394, .null, .null, .null, .null, .null, .null, .int 0, .long 0, .long 0, .long 0, .long 0, .null, .null, .null, .int 0, .long 0, .null, .int 0, .null, .null, .null, .null, .int 0, .null, .null]) := by rw [hen_399]; exact va_up_self _ _ _
  refine lv_aload_n hx hb dX12_init_52 rfl (lv_at hl 0 rfl) ?_
  refine lv_iconst (v := 4) hx hb dX12_init_53 (by decide) ?_
  refine hq_newa (atype := .int) (ty := .int) hx hb (hts _ tw_121) rfl hK hh hA 0 rfl (N' := 4) (a0 := (4, .inl (fun _ => 0))) (fun _ => rfl) (by decide) (by decide) (by decide) (Nat.le_of_ble_eq_true rfl) (Nat.le_of_ble_eq_true rfl) dX12_init_54 (fun q_400 H ad_400 en_400 had_400 hen_400 hh => ?_)
  have hh : Hp D A A s.heap H _ (List.range 5) ad_400 en_400 := hh
  have et_400 : en_400 0 = .inr (11, [.int 0, .int 0, .int 2, .int 0, .int 0, .ref q_390, .ref q_392, .ref q_394, .null, .null, .null, .null, .null, .null, .int 0, .long 0, .long 0, .long 0, .long 0, .null, .null, .null, .int 0, .long 0, .null, .int 0, .null, .null, .null, .null, .int 0, .null, .null]) := by rw [hen_400, va_up_ne _ _ (by decide)]; exact et_399
  have heta_400 : ad_400 0 = (ad 0) := by rw [had_400, va_up_ne _ _ (by decide)]; exact heta_394
  have e1_400 : en_400 1 = .inl (cy 0, 54, .inl (fun _ => 0)) := by rw [hen_400, va_up_ne _ _ (by decide)]; exact e1_399
  have he1a_400 : ad_400 1 = q_390 := by rw [had_400, va_up_ne _ _ (by decide)]; exact he1a_394
  have e2_400 : en_400 2 = .inl (cy 2, 36, .inl (fun _ => 0)) := by rw [hen_400, va_up_ne _ _ (by decide)]; exact e2_399
  have he2a_400 : ad_400 2 = q_392 := by rw [had_400, va_up_ne _ _ (by decide)]; exact he2a_394
  have e3_400 : en_400 3 = .inl (cy 0, 4, .inl (upd (upd (upd (upd (fun _ => 0) (0 : Int32).toNatClampNeg (-9)) (1 : Int32).toNatClampNeg (-9)) (2 : Int32).toNatClampNeg (-9)) (3 : Int32).toNatClampNeg (-9))) := by rw [hen_400, va_up_ne _ _ (by decide)]; exact e3_399
  have he3a_400 : ad_400 3 = q_394 := by rw [had_400, va_up_ne _ _ (by decide)]; exact he3a_394
  have e4_400 : en_400 4 = .inl (cy 0, 4, .inl (fun _ => 0)) := by rw [hen_400]; exact va_up_self _ _ _
  have he4a_400 : ad_400 4 = q_400 := by rw [had_400]; exact va_up_self _ _ _
  refine W.widen (k := 4) (n := 98) (Nat.le_refl _) (Nat.le_refl _) ?_
  refine hp_putF hx hb hts ix12 tyX12 tyX12_ok nmX12 hown hK hh (q := 0) heta_400 (List.mem_range.mpr (by decide)) et_400 rfl 8 (by decide) (hts _ tw_887) (fun _ h9 => h9) rfl hin rfl (ty := (.array .int)) (by decide +kernel) rfl rfl (Nat.le_of_ble_eq_true rfl) dX12_init_56 (fun H locs en_401 hen_401 hh => ?_)
  have e1_401 : en_401 1 = .inl (cy 0, 54, .inl (fun _ => 0)) := by rw [hen_401, va_up_ne _ _ (by decide)]; exact e1_400
  have e2_401 : en_401 2 = .inl (cy 2, 36, .inl (fun _ => 0)) := by rw [hen_401, va_up_ne _ _ (by decide)]; exact e2_400
  have e3_401 : en_401 3 = .inl (cy 0, 4, .inl (upd (upd (upd (upd (fun _ => 0) (0 : Int32).toNatClampNeg (-9)) (1 : Int32).toNatClampNeg (-9)) (2 : Int32).toNatClampNeg (-9)) (3 : Int32).toNatClampNeg (-9))) := by rw [hen_401, va_up_ne _ _ (by decide)]; exact e3_400
  have e4_401 : en_401 4 = .inl (cy 0, 4, .inl (fun _ => 0)) := by rw [hen_401, va_up_ne _ _ (by decide)]; exact e4_400
  have et_401 : en_401 0 = .inr (11, [.int 0, .int 0, .int 2, .int 0, .int 0, .ref q_390, .ref q_392, .ref q_394, .ref q_400, .null, .null, .null, .null, .null, .int 0, .long 0, .long 0, .long 0, .long 0, .null, .null, .null, .int 0, .long 0, .null, .int 0, .null, .null, .null, .null, .int 0, .null, .null]) := by rw [hen_401]; exact va_up_self _ _ _
  refine lv_aload_n hx hb dX12_init_59 rfl (lv_at hl 0 rfl) ?_
  refine lv_sipush (v := 160) hx hb dX12_init_60 (by decide) ?_
  refine hq_newa (atype := .int) (ty := .int) hx hb (hts _ tw_121) rfl hK hh hA 0 rfl (N' := 160) (a0 := (160, .inl (fun _ => 0))) (fun _ => rfl) (by decide) (by decide) (by decide) (Nat.le_of_ble_eq_true rfl) (Nat.le_of_ble_eq_true rfl) dX12_init_63 (fun q_402 H ad_402 en_402 had_402 hen_402 hh => ?_)
  have hh : Hp D A A s.heap H _ (List.range 6) ad_402 en_402 := hh
  have et_402 : en_402 0 = .inr (11, [.int 0, .int 0, .int 2, .int 0, .int 0, .ref q_390, .ref q_392, .ref q_394, .ref q_400, .null, .null, .null, .null, .null, .int 0, .long 0, .long 0, .long 0, .long 0, .null, .null, .null, .int 0, .long 0, .null, .int 0, .null, .null, .null, .null, .int 0, .null, .null]) := by rw [hen_402, va_up_ne _ _ (by decide)]; exact et_401
  have heta_402 : ad_402 0 = (ad 0) := by rw [had_402, va_up_ne _ _ (by decide)]; exact heta_400
  have e1_402 : en_402 1 = .inl (cy 0, 54, .inl (fun _ => 0)) := by rw [hen_402, va_up_ne _ _ (by decide)]; exact e1_401
  have he1a_402 : ad_402 1 = q_390 := by rw [had_402, va_up_ne _ _ (by decide)]; exact he1a_400
  have e2_402 : en_402 2 = .inl (cy 2, 36, .inl (fun _ => 0)) := by rw [hen_402, va_up_ne _ _ (by decide)]; exact e2_401
  have he2a_402 : ad_402 2 = q_392 := by rw [had_402, va_up_ne _ _ (by decide)]; exact he2a_400
  have e3_402 : en_402 3 = .inl (cy 0, 4, .inl (upd (upd (upd (upd (fun _ => 0) (0 : Int32).toNatClampNeg (-9)) (1 : Int32).toNatClampNeg (-9)) (2 : Int32).toNatClampNeg (-9)) (3 : Int32).toNatClampNeg (-9))) := by rw [hen_402, va_up_ne _ _ (by decide)]; exact e3_401
  have he3a_402 : ad_402 3 = q_394 := by rw [had_402, va_up_ne _ _ (by decide)]; exact he3a_400
  have e4_402 : en_402 4 = .inl (cy 0, 4, .inl (fun _ => 0)) := by rw [hen_402, va_up_ne _ _ (by decide)]; exact e4_401
  have he4a_402 : ad_402 4 = q_400 := by rw [had_402, va_up_ne _ _ (by decide)]; exact he4a_400
  have e5_402 : en_402 5 = .inl (cy 0, 160, .inl (fun _ => 0)) := by rw [hen_402]; exact va_up_self _ _ _
  have he5a_402 : ad_402 5 = q_402 := by rw [had_402]; exact va_up_self _ _ _
  refine W.widen (k := 5) (n := 258) (Nat.le_refl _) (Nat.le_refl _) ?_
  refine hp_putF hx hb hts ix12 tyX12 tyX12_ok nmX12 hown hK hh (q := 0) heta_402 (List.mem_range.mpr (by decide)) et_402 rfl 9 (by decide) (hts _ tw_888) (fun _ h9 => h9) rfl hin rfl (ty := (.array .int)) (by decide +kernel) rfl rfl (Nat.le_of_ble_eq_true rfl) dX12_init_65 (fun H locs en_403 hen_403 hh => ?_)
  have e1_403 : en_403 1 = .inl (cy 0, 54, .inl (fun _ => 0)) := by rw [hen_403, va_up_ne _ _ (by decide)]; exact e1_402
  have e2_403 : en_403 2 = .inl (cy 2, 36, .inl (fun _ => 0)) := by rw [hen_403, va_up_ne _ _ (by decide)]; exact e2_402
  have e3_403 : en_403 3 = .inl (cy 0, 4, .inl (upd (upd (upd (upd (fun _ => 0) (0 : Int32).toNatClampNeg (-9)) (1 : Int32).toNatClampNeg (-9)) (2 : Int32).toNatClampNeg (-9)) (3 : Int32).toNatClampNeg (-9))) := by rw [hen_403, va_up_ne _ _ (by decide)]; exact e3_402
  have e4_403 : en_403 4 = .inl (cy 0, 4, .inl (fun _ => 0)) := by rw [hen_403, va_up_ne _ _ (by decide)]; exact e4_402
  have e5_403 : en_403 5 = .inl (cy 0, 160, .inl (fun _ => 0)) := by rw [hen_403, va_up_ne _ _ (by decide)]; exact e5_402
  have et_403 : en_403 0 = .inr (11, [.int 0, .int 0, .int 2, .int 0, .int 0, .ref q_390, .ref q_392, .ref q_394, .ref q_400, .ref q_402, .null, .null, .null, .null, .int 0, .long 0, .long 0, .long 0, .long 0, .null, .null, .null, .int 0, .long 0, .null, .int 0, .null, .null, .null, .null, .int 0, .null, .null]) := by rw [hen_403]; exact va_up_self _ _ _
  refine lv_aload_n hx hb dX12_init_68 rfl (lv_at hl 0 rfl) ?_
  refine lv_bipush (v := 117) hx hb dX12_init_69 (by decide) ?_
  refine hq_newa (atype := .long) (ty := .long) hx hb (hts _ tw_61) rfl hK hh hA 1 rfl (N' := 117) (a0 := (117, .inr (.inl (fun _ => 0)))) (fun _ => rfl) (by decide) (by decide) (by decide) (Nat.le_of_ble_eq_true rfl) (Nat.le_of_ble_eq_true rfl) dX12_init_71 (fun q_404 H ad_404 en_404 had_404 hen_404 hh => ?_)
  have hh : Hp D A A s.heap H _ (List.range 7) ad_404 en_404 := hh
  have et_404 : en_404 0 = .inr (11, [.int 0, .int 0, .int 2, .int 0, .int 0, .ref q_390, .ref q_392, .ref q_394, .ref q_400, .ref q_402, .null, .null, .null, .null, .int 0, .long 0, .long 0, .long 0, .long 0, .null, .null, .null, .int 0, .long 0, .null, .int 0, .null, .null, .null, .null, .int 0, .null, .null]) := by rw [hen_404, va_up_ne _ _ (by decide)]; exact et_403
  have heta_404 : ad_404 0 = (ad 0) := by rw [had_404, va_up_ne _ _ (by decide)]; exact heta_402
  have e1_404 : en_404 1 = .inl (cy 0, 54, .inl (fun _ => 0)) := by rw [hen_404, va_up_ne _ _ (by decide)]; exact e1_403
  have he1a_404 : ad_404 1 = q_390 := by rw [had_404, va_up_ne _ _ (by decide)]; exact he1a_402
  have e2_404 : en_404 2 = .inl (cy 2, 36, .inl (fun _ => 0)) := by rw [hen_404, va_up_ne _ _ (by decide)]; exact e2_403
  have he2a_404 : ad_404 2 = q_392 := by rw [had_404, va_up_ne _ _ (by decide)]; exact he2a_402
  have e3_404 : en_404 3 = .inl (cy 0, 4, .inl (upd (upd (upd (upd (fun _ => 0) (0 : Int32).toNatClampNeg (-9)) (1 : Int32).toNatClampNeg (-9)) (2 : Int32).toNatClampNeg (-9)) (3 : Int32).toNatClampNeg (-9))) := by rw [hen_404, va_up_ne _ _ (by decide)]; exact e3_403
  have he3a_404 : ad_404 3 = q_394 := by rw [had_404, va_up_ne _ _ (by decide)]; exact he3a_402
  have e4_404 : en_404 4 = .inl (cy 0, 4, .inl (fun _ => 0)) := by rw [hen_404, va_up_ne _ _ (by decide)]; exact e4_403
  have he4a_404 : ad_404 4 = q_400 := by rw [had_404, va_up_ne _ _ (by decide)]; exact he4a_402
  have e5_404 : en_404 5 = .inl (cy 0, 160, .inl (fun _ => 0)) := by rw [hen_404, va_up_ne _ _ (by decide)]; exact e5_403
  have he5a_404 : ad_404 5 = q_402 := by rw [had_404, va_up_ne _ _ (by decide)]; exact he5a_402
  have e6_404 : en_404 6 = .inl (cy 1, 117, .inr (.inl (fun _ => 0))) := by rw [hen_404]; exact va_up_self _ _ _
  have he6a_404 : ad_404 6 = q_404 := by rw [had_404]; exact va_up_self _ _ _
  refine W.widen (k := 6) (n := 375) (Nat.le_refl _) (Nat.le_refl _) ?_
  refine hp_putF hx hb hts ix12 tyX12 tyX12_ok nmX12 hown hK hh (q := 0) heta_404 (List.mem_range.mpr (by decide)) et_404 rfl 10 (by decide) (hts _ tw_889) (fun _ h9 => h9) rfl hin rfl (ty := (.array .long)) (by decide +kernel) rfl rfl (Nat.le_of_ble_eq_true rfl) dX12_init_73 (fun H locs en_405 hen_405 hh => ?_)
  have e1_405 : en_405 1 = .inl (cy 0, 54, .inl (fun _ => 0)) := by rw [hen_405, va_up_ne _ _ (by decide)]; exact e1_404
  have e2_405 : en_405 2 = .inl (cy 2, 36, .inl (fun _ => 0)) := by rw [hen_405, va_up_ne _ _ (by decide)]; exact e2_404
  have e3_405 : en_405 3 = .inl (cy 0, 4, .inl (upd (upd (upd (upd (fun _ => 0) (0 : Int32).toNatClampNeg (-9)) (1 : Int32).toNatClampNeg (-9)) (2 : Int32).toNatClampNeg (-9)) (3 : Int32).toNatClampNeg (-9))) := by rw [hen_405, va_up_ne _ _ (by decide)]; exact e3_404
  have e4_405 : en_405 4 = .inl (cy 0, 4, .inl (fun _ => 0)) := by rw [hen_405, va_up_ne _ _ (by decide)]; exact e4_404
  have e5_405 : en_405 5 = .inl (cy 0, 160, .inl (fun _ => 0)) := by rw [hen_405, va_up_ne _ _ (by decide)]; exact e5_404
  have e6_405 : en_405 6 = .inl (cy 1, 117, .inr (.inl (fun _ => 0))) := by rw [hen_405, va_up_ne _ _ (by decide)]; exact e6_404
  have et_405 : en_405 0 = .inr (11, [.int 0, .int 0, .int 2, .int 0, .int 0, .ref q_390, .ref q_392, .ref q_394, .ref q_400, .ref q_402, .ref q_404, .null, .null, .null, .int 0, .long 0, .long 0, .long 0, .long 0, .null, .null, .null, .int 0, .long 0, .null, .int 0, .null, .null, .null, .null, .int 0, .null, .null]) := by rw [hen_405]; exact va_up_self _ _ _
  refine lv_aload_n hx hb dX12_init_76 rfl (lv_at hl 0 rfl) ?_
  refine lv_bipush (v := 13) hx hb dX12_init_77 (by decide) ?_
  refine hq_newa (atype := .int) (ty := .int) hx hb (hts _ tw_121) rfl hK hh hA 0 rfl (N' := 13) (a0 := (13, .inl (fun _ => 0))) (fun _ => rfl) (by decide) (by decide) (by decide) (Nat.le_of_ble_eq_true rfl) (Nat.le_of_ble_eq_true rfl) dX12_init_79 (fun q_406 H ad_406 en_406 had_406 hen_406 hh => ?_)
  have hh : Hp D A A s.heap H _ (List.range 8) ad_406 en_406 := hh
  have et_406 : en_406 0 = .inr (11, [.int 0, .int 0, .int 2, .int 0, .int 0, .ref q_390, .ref q_392, .ref q_394, .ref q_400, .ref q_402, .ref q_404, .null, .null, .null, .int 0, .long 0, .long 0, .long 0, .long 0, .null, .null, .null, .int 0, .long 0, .null, .int 0, .null, .null, .null, .null, .int 0, .null, .null]) := by rw [hen_406, va_up_ne _ _ (by decide)]; exact et_405
  have heta_406 : ad_406 0 = (ad 0) := by rw [had_406, va_up_ne _ _ (by decide)]; exact heta_404
  have e1_406 : en_406 1 = .inl (cy 0, 54, .inl (fun _ => 0)) := by rw [hen_406, va_up_ne _ _ (by decide)]; exact e1_405
  have he1a_406 : ad_406 1 = q_390 := by rw [had_406, va_up_ne _ _ (by decide)]; exact he1a_404
  have e2_406 : en_406 2 = .inl (cy 2, 36, .inl (fun _ => 0)) := by rw [hen_406, va_up_ne _ _ (by decide)]; exact e2_405
  have he2a_406 : ad_406 2 = q_392 := by rw [had_406, va_up_ne _ _ (by decide)]; exact he2a_404
  have e3_406 : en_406 3 = .inl (cy 0, 4, .inl (upd (upd (upd (upd (fun _ => 0) (0 : Int32).toNatClampNeg (-9)) (1 : Int32).toNatClampNeg (-9)) (2 : Int32).toNatClampNeg (-9)) (3 : Int32).toNatClampNeg (-9))) := by rw [hen_406, va_up_ne _ _ (by decide)]; exact e3_405
  have he3a_406 : ad_406 3 = q_394 := by rw [had_406, va_up_ne _ _ (by decide)]; exact he3a_404
  have e4_406 : en_406 4 = .inl (cy 0, 4, .inl (fun _ => 0)) := by rw [hen_406, va_up_ne _ _ (by decide)]; exact e4_405
  have he4a_406 : ad_406 4 = q_400 := by rw [had_406, va_up_ne _ _ (by decide)]; exact he4a_404
  have e5_406 : en_406 5 = .inl (cy 0, 160, .inl (fun _ => 0)) := by rw [hen_406, va_up_ne _ _ (by decide)]; exact e5_405
  have he5a_406 : ad_406 5 = q_402 := by rw [had_406, va_up_ne _ _ (by decide)]; exact he5a_404
  have e6_406 : en_406 6 = .inl (cy 1, 117, .inr (.inl (fun _ => 0))) := by rw [hen_406, va_up_ne _ _ (by decide)]; exact e6_405
  have he6a_406 : ad_406 6 = q_404 := by rw [had_406, va_up_ne _ _ (by decide)]; exact he6a_404
  have e7_406 : en_406 7 = .inl (cy 0, 13, .inl (fun _ => 0)) := by rw [hen_406]; exact va_up_self _ _ _
  have he7a_406 : ad_406 7 = q_406 := by rw [had_406]; exact va_up_self _ _ _
  refine W.widen (k := 7) (n := 388) (Nat.le_refl _) (Nat.le_refl _) ?_
  refine hp_putF hx hb hts ix12 tyX12 tyX12_ok nmX12 hown hK hh (q := 0) heta_406 (List.mem_range.mpr (by decide)) et_406 rfl 11 (by decide) (hts _ tw_890) (fun _ h9 => h9) rfl hin rfl (ty := (.array .int)) (by decide +kernel) rfl rfl (Nat.le_of_ble_eq_true rfl) dX12_init_81 (fun H locs en_407 hen_407 hh => ?_)
  have e1_407 : en_407 1 = .inl (cy 0, 54, .inl (fun _ => 0)) := by rw [hen_407, va_up_ne _ _ (by decide)]; exact e1_406
  have e2_407 : en_407 2 = .inl (cy 2, 36, .inl (fun _ => 0)) := by rw [hen_407, va_up_ne _ _ (by decide)]; exact e2_406
  have e3_407 : en_407 3 = .inl (cy 0, 4, .inl (upd (upd (upd (upd (fun _ => 0) (0 : Int32).toNatClampNeg (-9)) (1 : Int32).toNatClampNeg (-9)) (2 : Int32).toNatClampNeg (-9)) (3 : Int32).toNatClampNeg (-9))) := by rw [hen_407, va_up_ne _ _ (by decide)]; exact e3_406
  have e4_407 : en_407 4 = .inl (cy 0, 4, .inl (fun _ => 0)) := by rw [hen_407, va_up_ne _ _ (by decide)]; exact e4_406
  have e5_407 : en_407 5 = .inl (cy 0, 160, .inl (fun _ => 0)) := by rw [hen_407, va_up_ne _ _ (by decide)]; exact e5_406
  have e6_407 : en_407 6 = .inl (cy 1, 117, .inr (.inl (fun _ => 0))) := by rw [hen_407, va_up_ne _ _ (by decide)]; exact e6_406
  have e7_407 : en_407 7 = .inl (cy 0, 13, .inl (fun _ => 0)) := by rw [hen_407, va_up_ne _ _ (by decide)]; exact e7_406
  have et_407 : en_407 0 = .inr (11, [.int 0, .int 0, .int 2, .int 0, .int 0, .ref q_390, .ref q_392, .ref q_394, .ref q_400, .ref q_402, .ref q_404, .ref q_406, .null, .null, .int 0, .long 0, .long 0, .long 0, .long 0, .null, .null, .null, .int 0, .long 0, .null, .int 0, .null, .null, .null, .null, .int 0, .null, .null]) := by rw [hen_407]; exact va_up_self _ _ _
  refine lv_aload_n hx hb dX12_init_84 rfl (lv_at hl 0 rfl) ?_
  refine lv_bipush (v := 6) hx hb dX12_init_85 (by decide) ?_
  refine hq_newa (atype := .long) (ty := .long) hx hb (hts _ tw_61) rfl hK hh hA 1 rfl (N' := 6) (a0 := (6, .inr (.inl (fun _ => 0)))) (fun _ => rfl) (by decide) (by decide) (by decide) (Nat.le_of_ble_eq_true rfl) (Nat.le_of_ble_eq_true rfl) dX12_init_87 (fun q_408 H ad_408 en_408 had_408 hen_408 hh => ?_)
  have hh : Hp D A A s.heap H _ (List.range 9) ad_408 en_408 := hh
  have et_408 : en_408 0 = .inr (11, [.int 0, .int 0, .int 2, .int 0, .int 0, .ref q_390, .ref q_392, .ref q_394, .ref q_400, .ref q_402, .ref q_404, .ref q_406, .null, .null, .int 0, .long 0, .long 0, .long 0, .long 0, .null, .null, .null, .int 0, .long 0, .null, .int 0, .null, .null, .null, .null, .int 0, .null, .null]) := by rw [hen_408, va_up_ne _ _ (by decide)]; exact et_407
  have heta_408 : ad_408 0 = (ad 0) := by rw [had_408, va_up_ne _ _ (by decide)]; exact heta_406
  have e1_408 : en_408 1 = .inl (cy 0, 54, .inl (fun _ => 0)) := by rw [hen_408, va_up_ne _ _ (by decide)]; exact e1_407
  have he1a_408 : ad_408 1 = q_390 := by rw [had_408, va_up_ne _ _ (by decide)]; exact he1a_406
  have e2_408 : en_408 2 = .inl (cy 2, 36, .inl (fun _ => 0)) := by rw [hen_408, va_up_ne _ _ (by decide)]; exact e2_407
  have he2a_408 : ad_408 2 = q_392 := by rw [had_408, va_up_ne _ _ (by decide)]; exact he2a_406
  have e3_408 : en_408 3 = .inl (cy 0, 4, .inl (upd (upd (upd (upd (fun _ => 0) (0 : Int32).toNatClampNeg (-9)) (1 : Int32).toNatClampNeg (-9)) (2 : Int32).toNatClampNeg (-9)) (3 : Int32).toNatClampNeg (-9))) := by rw [hen_408, va_up_ne _ _ (by decide)]; exact e3_407
  have he3a_408 : ad_408 3 = q_394 := by rw [had_408, va_up_ne _ _ (by decide)]; exact he3a_406
  have e4_408 : en_408 4 = .inl (cy 0, 4, .inl (fun _ => 0)) := by rw [hen_408, va_up_ne _ _ (by decide)]; exact e4_407
  have he4a_408 : ad_408 4 = q_400 := by rw [had_408, va_up_ne _ _ (by decide)]; exact he4a_406
  have e5_408 : en_408 5 = .inl (cy 0, 160, .inl (fun _ => 0)) := by rw [hen_408, va_up_ne _ _ (by decide)]; exact e5_407
  have he5a_408 : ad_408 5 = q_402 := by rw [had_408, va_up_ne _ _ (by decide)]; exact he5a_406
  have e6_408 : en_408 6 = .inl (cy 1, 117, .inr (.inl (fun _ => 0))) := by rw [hen_408, va_up_ne _ _ (by decide)]; exact e6_407
  have he6a_408 : ad_408 6 = q_404 := by rw [had_408, va_up_ne _ _ (by decide)]; exact he6a_406
  have e7_408 : en_408 7 = .inl (cy 0, 13, .inl (fun _ => 0)) := by rw [hen_408, va_up_ne _ _ (by decide)]; exact e7_407
  have he7a_408 : ad_408 7 = q_406 := by rw [had_408, va_up_ne _ _ (by decide)]; exact he7a_406
  have e8_408 : en_408 8 = .inl (cy 1, 6, .inr (.inl (fun _ => 0))) := by rw [hen_408]; exact va_up_self _ _ _
  have he8a_408 : ad_408 8 = q_408 := by rw [had_408]; exact va_up_self _ _ _
  refine W.widen (k := 8) (n := 394) (Nat.le_refl _) (Nat.le_refl _) ?_
  refine hp_putF hx hb hts ix12 tyX12 tyX12_ok nmX12 hown hK hh (q := 0) heta_408 (List.mem_range.mpr (by decide)) et_408 rfl 12 (by decide) (hts _ tw_891) (fun _ h9 => h9) rfl hin rfl (ty := (.array .long)) (by decide +kernel) rfl rfl (Nat.le_of_ble_eq_true rfl) dX12_init_89 (fun H locs en_409 hen_409 hh => ?_)
  have e1_409 : en_409 1 = .inl (cy 0, 54, .inl (fun _ => 0)) := by rw [hen_409, va_up_ne _ _ (by decide)]; exact e1_408
  have e2_409 : en_409 2 = .inl (cy 2, 36, .inl (fun _ => 0)) := by rw [hen_409, va_up_ne _ _ (by decide)]; exact e2_408
  have e3_409 : en_409 3 = .inl (cy 0, 4, .inl (upd (upd (upd (upd (fun _ => 0) (0 : Int32).toNatClampNeg (-9)) (1 : Int32).toNatClampNeg (-9)) (2 : Int32).toNatClampNeg (-9)) (3 : Int32).toNatClampNeg (-9))) := by rw [hen_409, va_up_ne _ _ (by decide)]; exact e3_408
  have e4_409 : en_409 4 = .inl (cy 0, 4, .inl (fun _ => 0)) := by rw [hen_409, va_up_ne _ _ (by decide)]; exact e4_408
  have e5_409 : en_409 5 = .inl (cy 0, 160, .inl (fun _ => 0)) := by rw [hen_409, va_up_ne _ _ (by decide)]; exact e5_408
  have e6_409 : en_409 6 = .inl (cy 1, 117, .inr (.inl (fun _ => 0))) := by rw [hen_409, va_up_ne _ _ (by decide)]; exact e6_408
  have e7_409 : en_409 7 = .inl (cy 0, 13, .inl (fun _ => 0)) := by rw [hen_409, va_up_ne _ _ (by decide)]; exact e7_408
  have e8_409 : en_409 8 = .inl (cy 1, 6, .inr (.inl (fun _ => 0))) := by rw [hen_409, va_up_ne _ _ (by decide)]; exact e8_408
  have et_409 : en_409 0 = .inr (11, [.int 0, .int 0, .int 2, .int 0, .int 0, .ref q_390, .ref q_392, .ref q_394, .ref q_400, .ref q_402, .ref q_404, .ref q_406, .ref q_408, .null, .int 0, .long 0, .long 0, .long 0, .long 0, .null, .null, .null, .int 0, .long 0, .null, .int 0, .null, .null, .null, .null, .int 0, .null, .null]) := by rw [hen_409]; exact va_up_self _ _ _
  refine lv_aload_n hx hb dX12_init_92 rfl (lv_at hl 0 rfl) ?_
  refine lv_bipush (v := 6) hx hb dX12_init_93 (by decide) ?_
  refine hq_newa (atype := .long) (ty := .long) hx hb (hts _ tw_61) rfl hK hh hA 1 rfl (N' := 6) (a0 := (6, .inr (.inl (fun _ => 0)))) (fun _ => rfl) (by decide) (by decide) (by decide) (Nat.le_of_ble_eq_true rfl) (Nat.le_of_ble_eq_true rfl) dX12_init_95 (fun q_410 H ad_410 en_410 had_410 hen_410 hh => ?_)
  have hh : Hp D A A s.heap H _ (List.range 10) ad_410 en_410 := hh
  have et_410 : en_410 0 = .inr (11, [.int 0, .int 0, .int 2, .int 0, .int 0, .ref q_390, .ref q_392, .ref q_394, .ref q_400, .ref q_402, .ref q_404, .ref q_406, .ref q_408, .null, .int 0, .long 0, .long 0, .long 0, .long 0, .null, .null, .null, .int 0, .long 0, .null, .int 0, .null, .null, .null, .null, .int 0, .null, .null]) := by rw [hen_410, va_up_ne _ _ (by decide)]; exact et_409
  have heta_410 : ad_410 0 = (ad 0) := by rw [had_410, va_up_ne _ _ (by decide)]; exact heta_408
  have e1_410 : en_410 1 = .inl (cy 0, 54, .inl (fun _ => 0)) := by rw [hen_410, va_up_ne _ _ (by decide)]; exact e1_409
  have he1a_410 : ad_410 1 = q_390 := by rw [had_410, va_up_ne _ _ (by decide)]; exact he1a_408
  have e2_410 : en_410 2 = .inl (cy 2, 36, .inl (fun _ => 0)) := by rw [hen_410, va_up_ne _ _ (by decide)]; exact e2_409
  have he2a_410 : ad_410 2 = q_392 := by rw [had_410, va_up_ne _ _ (by decide)]; exact he2a_408
  have e3_410 : en_410 3 = .inl (cy 0, 4, .inl (upd (upd (upd (upd (fun _ => 0) (0 : Int32).toNatClampNeg (-9)) (1 : Int32).toNatClampNeg (-9)) (2 : Int32).toNatClampNeg (-9)) (3 : Int32).toNatClampNeg (-9))) := by rw [hen_410, va_up_ne _ _ (by decide)]; exact e3_409
  have he3a_410 : ad_410 3 = q_394 := by rw [had_410, va_up_ne _ _ (by decide)]; exact he3a_408
  have e4_410 : en_410 4 = .inl (cy 0, 4, .inl (fun _ => 0)) := by rw [hen_410, va_up_ne _ _ (by decide)]; exact e4_409
  have he4a_410 : ad_410 4 = q_400 := by rw [had_410, va_up_ne _ _ (by decide)]; exact he4a_408
  have e5_410 : en_410 5 = .inl (cy 0, 160, .inl (fun _ => 0)) := by rw [hen_410, va_up_ne _ _ (by decide)]; exact e5_409
  have he5a_410 : ad_410 5 = q_402 := by rw [had_410, va_up_ne _ _ (by decide)]; exact he5a_408
  have e6_410 : en_410 6 = .inl (cy 1, 117, .inr (.inl (fun _ => 0))) := by rw [hen_410, va_up_ne _ _ (by decide)]; exact e6_409
  have he6a_410 : ad_410 6 = q_404 := by rw [had_410, va_up_ne _ _ (by decide)]; exact he6a_408
  have e7_410 : en_410 7 = .inl (cy 0, 13, .inl (fun _ => 0)) := by rw [hen_410, va_up_ne _ _ (by decide)]; exact e7_409
  have he7a_410 : ad_410 7 = q_406 := by rw [had_410, va_up_ne _ _ (by decide)]; exact he7a_408
  have e8_410 : en_410 8 = .inl (cy 1, 6, .inr (.inl (fun _ => 0))) := by rw [hen_410, va_up_ne _ _ (by decide)]; exact e8_409
  have he8a_410 : ad_410 8 = q_408 := by rw [had_410, va_up_ne _ _ (by decide)]; exact he8a_408
  have e9_410 : en_410 9 = .inl (cy 1, 6, .inr (.inl (fun _ => 0))) := by rw [hen_410]; exact va_up_self _ _ _
  have he9a_410 : ad_410 9 = q_410 := by rw [had_410]; exact va_up_self _ _ _
  refine W.widen (k := 9) (n := 400) (Nat.le_refl _) (Nat.le_refl _) ?_
  refine hp_putF hx hb hts ix12 tyX12 tyX12_ok nmX12 hown hK hh (q := 0) heta_410 (List.mem_range.mpr (by decide)) et_410 rfl 13 (by decide) (hts _ tw_892) (fun _ h9 => h9) rfl hin rfl (ty := (.array .long)) (by decide +kernel) rfl rfl (Nat.le_of_ble_eq_true rfl) dX12_init_97 (fun H locs en_411 hen_411 hh => ?_)
  have e1_411 : en_411 1 = .inl (cy 0, 54, .inl (fun _ => 0)) := by rw [hen_411, va_up_ne _ _ (by decide)]; exact e1_410
  have e2_411 : en_411 2 = .inl (cy 2, 36, .inl (fun _ => 0)) := by rw [hen_411, va_up_ne _ _ (by decide)]; exact e2_410
  have e3_411 : en_411 3 = .inl (cy 0, 4, .inl (upd (upd (upd (upd (fun _ => 0) (0 : Int32).toNatClampNeg (-9)) (1 : Int32).toNatClampNeg (-9)) (2 : Int32).toNatClampNeg (-9)) (3 : Int32).toNatClampNeg (-9))) := by rw [hen_411, va_up_ne _ _ (by decide)]; exact e3_410
  have e4_411 : en_411 4 = .inl (cy 0, 4, .inl (fun _ => 0)) := by rw [hen_411, va_up_ne _ _ (by decide)]; exact e4_410
  have e5_411 : en_411 5 = .inl (cy 0, 160, .inl (fun _ => 0)) := by rw [hen_411, va_up_ne _ _ (by decide)]; exact e5_410
  have e6_411 : en_411 6 = .inl (cy 1, 117, .inr (.inl (fun _ => 0))) := by rw [hen_411, va_up_ne _ _ (by decide)]; exact e6_410
  have e7_411 : en_411 7 = .inl (cy 0, 13, .inl (fun _ => 0)) := by rw [hen_411, va_up_ne _ _ (by decide)]; exact e7_410
  have e8_411 : en_411 8 = .inl (cy 1, 6, .inr (.inl (fun _ => 0))) := by rw [hen_411, va_up_ne _ _ (by decide)]; exact e8_410
  have e9_411 : en_411 9 = .inl (cy 1, 6, .inr (.inl (fun _ => 0))) := by rw [hen_411, va_up_ne _ _ (by decide)]; exact e9_410
  have et_411 : en_411 0 = .inr (11, [.int 0, .int 0, .int 2, .int 0, .int 0, .ref q_390, .ref q_392, .ref q_394, .ref q_400, .ref q_402, .ref q_404, .ref q_406, .ref q_408, .ref q_410, .int 0, .long 0, .long 0, .long 0, .long 0, .null, .null, .null, .int 0, .long 0, .null, .int 0, .null, .null, .null, .null, .int 0, .null, .null]) := by rw [hen_411]; exact va_up_self _ _ _
  refine lv_aload_n hx hb dX12_init_100 rfl (lv_at hl 0 rfl) ?_
  refine lv_bipush (v := 12) hx hb dX12_init_101 (by decide) ?_
  refine hq_newa (atype := .int) (ty := .int) hx hb (hts _ tw_121) rfl hK hh hA 0 rfl (N' := 12) (a0 := (12, .inl (fun _ => 0))) (fun _ => rfl) (by decide) (by decide) (by decide) (Nat.le_of_ble_eq_true rfl) (Nat.le_of_ble_eq_true rfl) dX12_init_103 (fun q_412 H ad_412 en_412 had_412 hen_412 hh => ?_)
  have hh : Hp D A A s.heap H _ (List.range 11) ad_412 en_412 := hh
  have et_412 : en_412 0 = .inr (11, [.int 0, .int 0, .int 2, .int 0, .int 0, .ref q_390, .ref q_392, .ref q_394, .ref q_400, .ref q_402, .ref q_404, .ref q_406, .ref q_408, .ref q_410, .int 0, .long 0, .long 0, .long 0, .long 0, .null, .null, .null, .int 0, .long 0, .null, .int 0, .null, .null, .null, .null, .int 0, .null, .null]) := by rw [hen_412, va_up_ne _ _ (by decide)]; exact et_411
  have heta_412 : ad_412 0 = (ad 0) := by rw [had_412, va_up_ne _ _ (by decide)]; exact heta_410
  have e1_412 : en_412 1 = .inl (cy 0, 54, .inl (fun _ => 0)) := by rw [hen_412, va_up_ne _ _ (by decide)]; exact e1_411
  have he1a_412 : ad_412 1 = q_390 := by rw [had_412, va_up_ne _ _ (by decide)]; exact he1a_410
  have e2_412 : en_412 2 = .inl (cy 2, 36, .inl (fun _ => 0)) := by rw [hen_412, va_up_ne _ _ (by decide)]; exact e2_411
  have he2a_412 : ad_412 2 = q_392 := by rw [had_412, va_up_ne _ _ (by decide)]; exact he2a_410
  have e3_412 : en_412 3 = .inl (cy 0, 4, .inl (upd (upd (upd (upd (fun _ => 0) (0 : Int32).toNatClampNeg (-9)) (1 : Int32).toNatClampNeg (-9)) (2 : Int32).toNatClampNeg (-9)) (3 : Int32).toNatClampNeg (-9))) := by rw [hen_412, va_up_ne _ _ (by decide)]; exact e3_411
  have he3a_412 : ad_412 3 = q_394 := by rw [had_412, va_up_ne _ _ (by decide)]; exact he3a_410
  have e4_412 : en_412 4 = .inl (cy 0, 4, .inl (fun _ => 0)) := by rw [hen_412, va_up_ne _ _ (by decide)]; exact e4_411
  have he4a_412 : ad_412 4 = q_400 := by rw [had_412, va_up_ne _ _ (by decide)]; exact he4a_410
  have e5_412 : en_412 5 = .inl (cy 0, 160, .inl (fun _ => 0)) := by rw [hen_412, va_up_ne _ _ (by decide)]; exact e5_411
  have he5a_412 : ad_412 5 = q_402 := by rw [had_412, va_up_ne _ _ (by decide)]; exact he5a_410
  have e6_412 : en_412 6 = .inl (cy 1, 117, .inr (.inl (fun _ => 0))) := by rw [hen_412, va_up_ne _ _ (by decide)]; exact e6_411
  have he6a_412 : ad_412 6 = q_404 := by rw [had_412, va_up_ne _ _ (by decide)]; exact he6a_410
  have e7_412 : en_412 7 = .inl (cy 0, 13, .inl (fun _ => 0)) := by rw [hen_412, va_up_ne _ _ (by decide)]; exact e7_411
  have he7a_412 : ad_412 7 = q_406 := by rw [had_412, va_up_ne _ _ (by decide)]; exact he7a_410
  have e8_412 : en_412 8 = .inl (cy 1, 6, .inr (.inl (fun _ => 0))) := by rw [hen_412, va_up_ne _ _ (by decide)]; exact e8_411
  have he8a_412 : ad_412 8 = q_408 := by rw [had_412, va_up_ne _ _ (by decide)]; exact he8a_410
  have e9_412 : en_412 9 = .inl (cy 1, 6, .inr (.inl (fun _ => 0))) := by rw [hen_412, va_up_ne _ _ (by decide)]; exact e9_411
  have he9a_412 : ad_412 9 = q_410 := by rw [had_412, va_up_ne _ _ (by decide)]; exact he9a_410
  have e10_412 : en_412 10 = .inl (cy 0, 12, .inl (fun _ => 0)) := by rw [hen_412]; exact va_up_self _ _ _
  have he10a_412 : ad_412 10 = q_412 := by rw [had_412]; exact va_up_self _ _ _
  refine W.widen (k := 10) (n := 412) (Nat.le_refl _) (Nat.le_refl _) ?_
  refine hp_putF hx hb hts ix12 tyX12 tyX12_ok nmX12 hown hK hh (q := 0) heta_412 (List.mem_range.mpr (by decide)) et_412 rfl 19 (by decide) (hts _ tw_898) (fun _ h9 => h9) rfl hin rfl (ty := (.array .int)) (by decide +kernel) rfl rfl (Nat.le_of_ble_eq_true rfl) dX12_init_105 (fun H locs en_413 hen_413 hh => ?_)
  have e1_413 : en_413 1 = .inl (cy 0, 54, .inl (fun _ => 0)) := by rw [hen_413, va_up_ne _ _ (by decide)]; exact e1_412
  have e2_413 : en_413 2 = .inl (cy 2, 36, .inl (fun _ => 0)) := by rw [hen_413, va_up_ne _ _ (by decide)]; exact e2_412
  have e3_413 : en_413 3 = .inl (cy 0, 4, .inl (upd (upd (upd (upd (fun _ => 0) (0 : Int32).toNatClampNeg (-9)) (1 : Int32).toNatClampNeg (-9)) (2 : Int32).toNatClampNeg (-9)) (3 : Int32).toNatClampNeg (-9))) := by rw [hen_413, va_up_ne _ _ (by decide)]; exact e3_412
  have e4_413 : en_413 4 = .inl (cy 0, 4, .inl (fun _ => 0)) := by rw [hen_413, va_up_ne _ _ (by decide)]; exact e4_412
  have e5_413 : en_413 5 = .inl (cy 0, 160, .inl (fun _ => 0)) := by rw [hen_413, va_up_ne _ _ (by decide)]; exact e5_412
  have e6_413 : en_413 6 = .inl (cy 1, 117, .inr (.inl (fun _ => 0))) := by rw [hen_413, va_up_ne _ _ (by decide)]; exact e6_412
  have e7_413 : en_413 7 = .inl (cy 0, 13, .inl (fun _ => 0)) := by rw [hen_413, va_up_ne _ _ (by decide)]; exact e7_412
  have e8_413 : en_413 8 = .inl (cy 1, 6, .inr (.inl (fun _ => 0))) := by rw [hen_413, va_up_ne _ _ (by decide)]; exact e8_412
  have e9_413 : en_413 9 = .inl (cy 1, 6, .inr (.inl (fun _ => 0))) := by rw [hen_413, va_up_ne _ _ (by decide)]; exact e9_412
  have e10_413 : en_413 10 = .inl (cy 0, 12, .inl (fun _ => 0)) := by rw [hen_413, va_up_ne _ _ (by decide)]; exact e10_412
  have et_413 : en_413 0 = .inr (11, [.int 0, .int 0, .int 2, .int 0, .int 0, .ref q_390, .ref q_392, .ref q_394, .ref q_400, .ref q_402, .ref q_404, .ref q_406, .ref q_408, .ref q_410, .int 0, .long 0, .long 0, .long 0, .long 0, .ref q_412, .null, .null, .int 0, .long 0, .null, .int 0, .null, .null, .null, .null, .int 0, .null, .null]) := by rw [hen_413]; exact va_up_self _ _ _
  refine lv_aload_n hx hb dX12_init_108 rfl (lv_at hl 0 rfl) ?_
  refine lv_bipush (v := 12) hx hb dX12_init_109 (by decide) ?_
  refine hq_newa (atype := .int) (ty := .int) hx hb (hts _ tw_121) rfl hK hh hA 0 rfl (N' := 12) (a0 := (12, .inl (fun _ => 0))) (fun _ => rfl) (by decide) (by decide) (by decide) (Nat.le_of_ble_eq_true rfl) (Nat.le_of_ble_eq_true rfl) dX12_init_111 (fun q_414 H ad_414 en_414 had_414 hen_414 hh => ?_)
  have hh : Hp D A A s.heap H _ (List.range 12) ad_414 en_414 := hh
  have et_414 : en_414 0 = .inr (11, [.int 0, .int 0, .int 2, .int 0, .int 0, .ref q_390, .ref q_392, .ref q_394, .ref q_400, .ref q_402, .ref q_404, .ref q_406, .ref q_408, .ref q_410, .int 0, .long 0, .long 0, .long 0, .long 0, .ref q_412, .null, .null, .int 0, .long 0, .null, .int 0, .null, .null, .null, .null, .int 0, .null, .null]) := by rw [hen_414, va_up_ne _ _ (by decide)]; exact et_413
  have heta_414 : ad_414 0 = (ad 0) := by rw [had_414, va_up_ne _ _ (by decide)]; exact heta_412
  have e1_414 : en_414 1 = .inl (cy 0, 54, .inl (fun _ => 0)) := by rw [hen_414, va_up_ne _ _ (by decide)]; exact e1_413
  have he1a_414 : ad_414 1 = q_390 := by rw [had_414, va_up_ne _ _ (by decide)]; exact he1a_412
  have e2_414 : en_414 2 = .inl (cy 2, 36, .inl (fun _ => 0)) := by rw [hen_414, va_up_ne _ _ (by decide)]; exact e2_413
  have he2a_414 : ad_414 2 = q_392 := by rw [had_414, va_up_ne _ _ (by decide)]; exact he2a_412
  have e3_414 : en_414 3 = .inl (cy 0, 4, .inl (upd (upd (upd (upd (fun _ => 0) (0 : Int32).toNatClampNeg (-9)) (1 : Int32).toNatClampNeg (-9)) (2 : Int32).toNatClampNeg (-9)) (3 : Int32).toNatClampNeg (-9))) := by rw [hen_414, va_up_ne _ _ (by decide)]; exact e3_413
  have he3a_414 : ad_414 3 = q_394 := by rw [had_414, va_up_ne _ _ (by decide)]; exact he3a_412
  have e4_414 : en_414 4 = .inl (cy 0, 4, .inl (fun _ => 0)) := by rw [hen_414, va_up_ne _ _ (by decide)]; exact e4_413
  have he4a_414 : ad_414 4 = q_400 := by rw [had_414, va_up_ne _ _ (by decide)]; exact he4a_412
  have e5_414 : en_414 5 = .inl (cy 0, 160, .inl (fun _ => 0)) := by rw [hen_414, va_up_ne _ _ (by decide)]; exact e5_413
  have he5a_414 : ad_414 5 = q_402 := by rw [had_414, va_up_ne _ _ (by decide)]; exact he5a_412
  have e6_414 : en_414 6 = .inl (cy 1, 117, .inr (.inl (fun _ => 0))) := by rw [hen_414, va_up_ne _ _ (by decide)]; exact e6_413
  have he6a_414 : ad_414 6 = q_404 := by rw [had_414, va_up_ne _ _ (by decide)]; exact he6a_412
  have e7_414 : en_414 7 = .inl (cy 0, 13, .inl (fun _ => 0)) := by rw [hen_414, va_up_ne _ _ (by decide)]; exact e7_413
  have he7a_414 : ad_414 7 = q_406 := by rw [had_414, va_up_ne _ _ (by decide)]; exact he7a_412
  have e8_414 : en_414 8 = .inl (cy 1, 6, .inr (.inl (fun _ => 0))) := by rw [hen_414, va_up_ne _ _ (by decide)]; exact e8_413
  have he8a_414 : ad_414 8 = q_408 := by rw [had_414, va_up_ne _ _ (by decide)]; exact he8a_412
  have e9_414 : en_414 9 = .inl (cy 1, 6, .inr (.inl (fun _ => 0))) := by rw [hen_414, va_up_ne _ _ (by decide)]; exact e9_413
  have he9a_414 : ad_414 9 = q_410 := by rw [had_414, va_up_ne _ _ (by decide)]; exact he9a_412
  have e10_414 : en_414 10 = .inl (cy 0, 12, .inl (fun _ => 0)) := by rw [hen_414, va_up_ne _ _ (by decide)]; exact e10_413
  have he10a_414 : ad_414 10 = q_412 := by rw [had_414, va_up_ne _ _ (by decide)]; exact he10a_412
  have e11_414 : en_414 11 = .inl (cy 0, 12, .inl (fun _ => 0)) := by rw [hen_414]; exact va_up_self _ _ _
  have he11a_414 : ad_414 11 = q_414 := by rw [had_414]; exact va_up_self _ _ _
  refine W.widen (k := 11) (n := 424) (Nat.le_refl _) (Nat.le_refl _) ?_
  refine hp_putF hx hb hts ix12 tyX12 tyX12_ok nmX12 hown hK hh (q := 0) heta_414 (List.mem_range.mpr (by decide)) et_414 rfl 20 (by decide) (hts _ tw_899) (fun _ h9 => h9) rfl hin rfl (ty := (.array .int)) (by decide +kernel) rfl rfl (Nat.le_of_ble_eq_true rfl) dX12_init_113 (fun H locs en_415 hen_415 hh => ?_)
  have e1_415 : en_415 1 = .inl (cy 0, 54, .inl (fun _ => 0)) := by rw [hen_415, va_up_ne _ _ (by decide)]; exact e1_414
  have e2_415 : en_415 2 = .inl (cy 2, 36, .inl (fun _ => 0)) := by rw [hen_415, va_up_ne _ _ (by decide)]; exact e2_414
  have e3_415 : en_415 3 = .inl (cy 0, 4, .inl (upd (upd (upd (upd (fun _ => 0) (0 : Int32).toNatClampNeg (-9)) (1 : Int32).toNatClampNeg (-9)) (2 : Int32).toNatClampNeg (-9)) (3 : Int32).toNatClampNeg (-9))) := by rw [hen_415, va_up_ne _ _ (by decide)]; exact e3_414
  have e4_415 : en_415 4 = .inl (cy 0, 4, .inl (fun _ => 0)) := by rw [hen_415, va_up_ne _ _ (by decide)]; exact e4_414
  have e5_415 : en_415 5 = .inl (cy 0, 160, .inl (fun _ => 0)) := by rw [hen_415, va_up_ne _ _ (by decide)]; exact e5_414
  have e6_415 : en_415 6 = .inl (cy 1, 117, .inr (.inl (fun _ => 0))) := by rw [hen_415, va_up_ne _ _ (by decide)]; exact e6_414
  have e7_415 : en_415 7 = .inl (cy 0, 13, .inl (fun _ => 0)) := by rw [hen_415, va_up_ne _ _ (by decide)]; exact e7_414
  have e8_415 : en_415 8 = .inl (cy 1, 6, .inr (.inl (fun _ => 0))) := by rw [hen_415, va_up_ne _ _ (by decide)]; exact e8_414
  have e9_415 : en_415 9 = .inl (cy 1, 6, .inr (.inl (fun _ => 0))) := by rw [hen_415, va_up_ne _ _ (by decide)]; exact e9_414
  have e10_415 : en_415 10 = .inl (cy 0, 12, .inl (fun _ => 0)) := by rw [hen_415, va_up_ne _ _ (by decide)]; exact e10_414
  have e11_415 : en_415 11 = .inl (cy 0, 12, .inl (fun _ => 0)) := by rw [hen_415, va_up_ne _ _ (by decide)]; exact e11_414
  have et_415 : en_415 0 = .inr (11, [.int 0, .int 0, .int 2, .int 0, .int 0, .ref q_390, .ref q_392, .ref q_394, .ref q_400, .ref q_402, .ref q_404, .ref q_406, .ref q_408, .ref q_410, .int 0, .long 0, .long 0, .long 0, .long 0, .ref q_412, .ref q_414, .null, .int 0, .long 0, .null, .int 0, .null, .null, .null, .null, .int 0, .null, .null]) := by rw [hen_415]; exact va_up_self _ _ _
  refine lv_aload_n hx hb dX12_init_116 rfl (lv_at hl 0 rfl) ?_
  refine lv_bipush (v := 12) hx hb dX12_init_117 (by decide) ?_
  refine hq_newa (atype := .int) (ty := .int) hx hb (hts _ tw_121) rfl hK hh hA 0 rfl (N' := 12) (a0 := (12, .inl (fun _ => 0))) (fun _ => rfl) (by decide) (by decide) (by decide) (Nat.le_of_ble_eq_true rfl) (Nat.le_of_ble_eq_true rfl) dX12_init_119 (fun q_416 H ad_416 en_416 had_416 hen_416 hh => ?_)
  have hh : Hp D A A s.heap H _ (List.range 13) ad_416 en_416 := hh
  have et_416 : en_416 0 = .inr (11, [.int 0, .int 0, .int 2, .int 0, .int 0, .ref q_390, .ref q_392, .ref q_394, .ref q_400, .ref q_402, .ref q_404, .ref q_406, .ref q_408, .ref q_410, .int 0, .long 0, .long 0, .long 0, .long 0, .ref q_412, .ref q_414, .null, .int 0, .long 0, .null, .int 0, .null, .null, .null, .null, .int 0, .null, .null]) := by rw [hen_416, va_up_ne _ _ (by decide)]; exact et_415
  have heta_416 : ad_416 0 = (ad 0) := by rw [had_416, va_up_ne _ _ (by decide)]; exact heta_414
  have e1_416 : en_416 1 = .inl (cy 0, 54, .inl (fun _ => 0)) := by rw [hen_416, va_up_ne _ _ (by decide)]; exact e1_415
  have he1a_416 : ad_416 1 = q_390 := by rw [had_416, va_up_ne _ _ (by decide)]; exact he1a_414
  have e2_416 : en_416 2 = .inl (cy 2, 36, .inl (fun _ => 0)) := by rw [hen_416, va_up_ne _ _ (by decide)]; exact e2_415
  have he2a_416 : ad_416 2 = q_392 := by rw [had_416, va_up_ne _ _ (by decide)]; exact he2a_414
  have e3_416 : en_416 3 = .inl (cy 0, 4, .inl (upd (upd (upd (upd (fun _ => 0) (0 : Int32).toNatClampNeg (-9)) (1 : Int32).toNatClampNeg (-9)) (2 : Int32).toNatClampNeg (-9)) (3 : Int32).toNatClampNeg (-9))) := by rw [hen_416, va_up_ne _ _ (by decide)]; exact e3_415
  have he3a_416 : ad_416 3 = q_394 := by rw [had_416, va_up_ne _ _ (by decide)]; exact he3a_414
  have e4_416 : en_416 4 = .inl (cy 0, 4, .inl (fun _ => 0)) := by rw [hen_416, va_up_ne _ _ (by decide)]; exact e4_415
  have he4a_416 : ad_416 4 = q_400 := by rw [had_416, va_up_ne _ _ (by decide)]; exact he4a_414
  have e5_416 : en_416 5 = .inl (cy 0, 160, .inl (fun _ => 0)) := by rw [hen_416, va_up_ne _ _ (by decide)]; exact e5_415
  have he5a_416 : ad_416 5 = q_402 := by rw [had_416, va_up_ne _ _ (by decide)]; exact he5a_414
  have e6_416 : en_416 6 = .inl (cy 1, 117, .inr (.inl (fun _ => 0))) := by rw [hen_416, va_up_ne _ _ (by decide)]; exact e6_415
  have he6a_416 : ad_416 6 = q_404 := by rw [had_416, va_up_ne _ _ (by decide)]; exact he6a_414
  have e7_416 : en_416 7 = .inl (cy 0, 13, .inl (fun _ => 0)) := by rw [hen_416, va_up_ne _ _ (by decide)]; exact e7_415
  have he7a_416 : ad_416 7 = q_406 := by rw [had_416, va_up_ne _ _ (by decide)]; exact he7a_414
  have e8_416 : en_416 8 = .inl (cy 1, 6, .inr (.inl (fun _ => 0))) := by rw [hen_416, va_up_ne _ _ (by decide)]; exact e8_415
  have he8a_416 : ad_416 8 = q_408 := by rw [had_416, va_up_ne _ _ (by decide)]; exact he8a_414
  have e9_416 : en_416 9 = .inl (cy 1, 6, .inr (.inl (fun _ => 0))) := by rw [hen_416, va_up_ne _ _ (by decide)]; exact e9_415
  have he9a_416 : ad_416 9 = q_410 := by rw [had_416, va_up_ne _ _ (by decide)]; exact he9a_414
  have e10_416 : en_416 10 = .inl (cy 0, 12, .inl (fun _ => 0)) := by rw [hen_416, va_up_ne _ _ (by decide)]; exact e10_415
  have he10a_416 : ad_416 10 = q_412 := by rw [had_416, va_up_ne _ _ (by decide)]; exact he10a_414
  have e11_416 : en_416 11 = .inl (cy 0, 12, .inl (fun _ => 0)) := by rw [hen_416, va_up_ne _ _ (by decide)]; exact e11_415
  have he11a_416 : ad_416 11 = q_414 := by rw [had_416, va_up_ne _ _ (by decide)]; exact he11a_414
  have e12_416 : en_416 12 = .inl (cy 0, 12, .inl (fun _ => 0)) := by rw [hen_416]; exact va_up_self _ _ _
  have he12a_416 : ad_416 12 = q_416 := by rw [had_416]; exact va_up_self _ _ _
  refine W.widen (k := 12) (n := 436) (Nat.le_refl _) (Nat.le_refl _) ?_
  refine hp_putF hx hb hts ix12 tyX12 tyX12_ok nmX12 hown hK hh (q := 0) heta_416 (List.mem_range.mpr (by decide)) et_416 rfl 21 (by decide) (hts _ tw_900) (fun _ h9 => h9) rfl hin rfl (ty := (.array .int)) (by decide +kernel) rfl rfl (Nat.le_of_ble_eq_true rfl) dX12_init_121 (fun H locs en_417 hen_417 hh => ?_)
  have e1_417 : en_417 1 = .inl (cy 0, 54, .inl (fun _ => 0)) := by rw [hen_417, va_up_ne _ _ (by decide)]; exact e1_416
  have e2_417 : en_417 2 = .inl (cy 2, 36, .inl (fun _ => 0)) := by rw [hen_417, va_up_ne _ _ (by decide)]; exact e2_416
  have e3_417 : en_417 3 = .inl (cy 0, 4, .inl (upd (upd (upd (upd (fun _ => 0) (0 : Int32).toNatClampNeg (-9)) (1 : Int32).toNatClampNeg (-9)) (2 : Int32).toNatClampNeg (-9)) (3 : Int32).toNatClampNeg (-9))) := by rw [hen_417, va_up_ne _ _ (by decide)]; exact e3_416
  have e4_417 : en_417 4 = .inl (cy 0, 4, .inl (fun _ => 0)) := by rw [hen_417, va_up_ne _ _ (by decide)]; exact e4_416
  have e5_417 : en_417 5 = .inl (cy 0, 160, .inl (fun _ => 0)) := by rw [hen_417, va_up_ne _ _ (by decide)]; exact e5_416
  have e6_417 : en_417 6 = .inl (cy 1, 117, .inr (.inl (fun _ => 0))) := by rw [hen_417, va_up_ne _ _ (by decide)]; exact e6_416
  have e7_417 : en_417 7 = .inl (cy 0, 13, .inl (fun _ => 0)) := by rw [hen_417, va_up_ne _ _ (by decide)]; exact e7_416
  have e8_417 : en_417 8 = .inl (cy 1, 6, .inr (.inl (fun _ => 0))) := by rw [hen_417, va_up_ne _ _ (by decide)]; exact e8_416
  have e9_417 : en_417 9 = .inl (cy 1, 6, .inr (.inl (fun _ => 0))) := by rw [hen_417, va_up_ne _ _ (by decide)]; exact e9_416
  have e10_417 : en_417 10 = .inl (cy 0, 12, .inl (fun _ => 0)) := by rw [hen_417, va_up_ne _ _ (by decide)]; exact e10_416
  have e11_417 : en_417 11 = .inl (cy 0, 12, .inl (fun _ => 0)) := by rw [hen_417, va_up_ne _ _ (by decide)]; exact e11_416
  have e12_417 : en_417 12 = .inl (cy 0, 12, .inl (fun _ => 0)) := by rw [hen_417, va_up_ne _ _ (by decide)]; exact e12_416
  have et_417 : en_417 0 = .inr (11, [.int 0, .int 0, .int 2, .int 0, .int 0, .ref q_390, .ref q_392, .ref q_394, .ref q_400, .ref q_402, .ref q_404, .ref q_406, .ref q_408, .ref q_410, .int 0, .long 0, .long 0, .long 0, .long 0, .ref q_412, .ref q_414, .ref q_416, .int 0, .long 0, .null, .int 0, .null, .null, .null, .null, .int 0, .null, .null]) := by rw [hen_417]; exact va_up_self _ _ _
  refine lv_aload_n hx hb dX12_init_124 rfl (lv_at hl 0 rfl) ?_
  refine lv_bipush (v := 12) hx hb dX12_init_125 (by decide) ?_
  refine hq_newa (atype := .int) (ty := .int) hx hb (hts _ tw_121) rfl hK hh hA 0 rfl (N' := 12) (a0 := (12, .inl (fun _ => 0))) (fun _ => rfl) (by decide) (by decide) (by decide) (Nat.le_of_ble_eq_true rfl) (Nat.le_of_ble_eq_true rfl) dX12_init_127 (fun q_418 H ad_418 en_418 had_418 hen_418 hh => ?_)
  have hh : Hp D A A s.heap H _ (List.range 14) ad_418 en_418 := hh
  have et_418 : en_418 0 = .inr (11, [.int 0, .int 0, .int 2, .int 0, .int 0, .ref q_390, .ref q_392, .ref q_394, .ref q_400, .ref q_402, .ref q_404, .ref q_406, .ref q_408, .ref q_410, .int 0, .long 0, .long 0, .long 0, .long 0, .ref q_412, .ref q_414, .ref q_416, .int 0, .long 0, .null, .int 0, .null, .null, .null, .null, .int 0, .null, .null]) := by rw [hen_418, va_up_ne _ _ (by decide)]; exact et_417
  have heta_418 : ad_418 0 = (ad 0) := by rw [had_418, va_up_ne _ _ (by decide)]; exact heta_416
  have e1_418 : en_418 1 = .inl (cy 0, 54, .inl (fun _ => 0)) := by rw [hen_418, va_up_ne _ _ (by decide)]; exact e1_417
  have he1a_418 : ad_418 1 = q_390 := by rw [had_418, va_up_ne _ _ (by decide)]; exact he1a_416
  have e2_418 : en_418 2 = .inl (cy 2, 36, .inl (fun _ => 0)) := by rw [hen_418, va_up_ne _ _ (by decide)]; exact e2_417
  have he2a_418 : ad_418 2 = q_392 := by rw [had_418, va_up_ne _ _ (by decide)]; exact he2a_416
  have e3_418 : en_418 3 = .inl (cy 0, 4, .inl (upd (upd (upd (upd (fun _ => 0) (0 : Int32).toNatClampNeg (-9)) (1 : Int32).toNatClampNeg (-9)) (2 : Int32).toNatClampNeg (-9)) (3 : Int32).toNatClampNeg (-9))) := by rw [hen_418, va_up_ne _ _ (by decide)]; exact e3_417
  have he3a_418 : ad_418 3 = q_394 := by rw [had_418, va_up_ne _ _ (by decide)]; exact he3a_416
  have e4_418 : en_418 4 = .inl (cy 0, 4, .inl (fun _ => 0)) := by rw [hen_418, va_up_ne _ _ (by decide)]; exact e4_417
  have he4a_418 : ad_418 4 = q_400 := by rw [had_418, va_up_ne _ _ (by decide)]; exact he4a_416
  have e5_418 : en_418 5 = .inl (cy 0, 160, .inl (fun _ => 0)) := by rw [hen_418, va_up_ne _ _ (by decide)]; exact e5_417
  have he5a_418 : ad_418 5 = q_402 := by rw [had_418, va_up_ne _ _ (by decide)]; exact he5a_416
  have e6_418 : en_418 6 = .inl (cy 1, 117, .inr (.inl (fun _ => 0))) := by rw [hen_418, va_up_ne _ _ (by decide)]; exact e6_417
  have he6a_418 : ad_418 6 = q_404 := by rw [had_418, va_up_ne _ _ (by decide)]; exact he6a_416
  have e7_418 : en_418 7 = .inl (cy 0, 13, .inl (fun _ => 0)) := by rw [hen_418, va_up_ne _ _ (by decide)]; exact e7_417
  have he7a_418 : ad_418 7 = q_406 := by rw [had_418, va_up_ne _ _ (by decide)]; exact he7a_416
  have e8_418 : en_418 8 = .inl (cy 1, 6, .inr (.inl (fun _ => 0))) := by rw [hen_418, va_up_ne _ _ (by decide)]; exact e8_417
  have he8a_418 : ad_418 8 = q_408 := by rw [had_418, va_up_ne _ _ (by decide)]; exact he8a_416
  have e9_418 : en_418 9 = .inl (cy 1, 6, .inr (.inl (fun _ => 0))) := by rw [hen_418, va_up_ne _ _ (by decide)]; exact e9_417
  have he9a_418 : ad_418 9 = q_410 := by rw [had_418, va_up_ne _ _ (by decide)]; exact he9a_416
  have e10_418 : en_418 10 = .inl (cy 0, 12, .inl (fun _ => 0)) := by rw [hen_418, va_up_ne _ _ (by decide)]; exact e10_417
  have he10a_418 : ad_418 10 = q_412 := by rw [had_418, va_up_ne _ _ (by decide)]; exact he10a_416
  have e11_418 : en_418 11 = .inl (cy 0, 12, .inl (fun _ => 0)) := by rw [hen_418, va_up_ne _ _ (by decide)]; exact e11_417
  have he11a_418 : ad_418 11 = q_414 := by rw [had_418, va_up_ne _ _ (by decide)]; exact he11a_416
  have e12_418 : en_418 12 = .inl (cy 0, 12, .inl (fun _ => 0)) := by rw [hen_418, va_up_ne _ _ (by decide)]; exact e12_417
  have he12a_418 : ad_418 12 = q_416 := by rw [had_418, va_up_ne _ _ (by decide)]; exact he12a_416
  have e13_418 : en_418 13 = .inl (cy 0, 12, .inl (fun _ => 0)) := by rw [hen_418]; exact va_up_self _ _ _
  have he13a_418 : ad_418 13 = q_418 := by rw [had_418]; exact va_up_self _ _ _
  refine W.widen (k := 13) (n := 448) (Nat.le_refl _) (Nat.le_refl _) ?_
  refine hp_putF hx hb hts ix12 tyX12 tyX12_ok nmX12 hown hK hh (q := 0) heta_418 (List.mem_range.mpr (by decide)) et_418 rfl 24 (by decide) (hts _ tw_903) (fun _ h9 => h9) rfl hin rfl (ty := (.array .int)) (by decide +kernel) rfl rfl (Nat.le_of_ble_eq_true rfl) dX12_init_129 (fun H locs en_419 hen_419 hh => ?_)
  have e1_419 : en_419 1 = .inl (cy 0, 54, .inl (fun _ => 0)) := by rw [hen_419, va_up_ne _ _ (by decide)]; exact e1_418
  have e2_419 : en_419 2 = .inl (cy 2, 36, .inl (fun _ => 0)) := by rw [hen_419, va_up_ne _ _ (by decide)]; exact e2_418
  have e3_419 : en_419 3 = .inl (cy 0, 4, .inl (upd (upd (upd (upd (fun _ => 0) (0 : Int32).toNatClampNeg (-9)) (1 : Int32).toNatClampNeg (-9)) (2 : Int32).toNatClampNeg (-9)) (3 : Int32).toNatClampNeg (-9))) := by rw [hen_419, va_up_ne _ _ (by decide)]; exact e3_418
  have e4_419 : en_419 4 = .inl (cy 0, 4, .inl (fun _ => 0)) := by rw [hen_419, va_up_ne _ _ (by decide)]; exact e4_418
  have e5_419 : en_419 5 = .inl (cy 0, 160, .inl (fun _ => 0)) := by rw [hen_419, va_up_ne _ _ (by decide)]; exact e5_418
  have e6_419 : en_419 6 = .inl (cy 1, 117, .inr (.inl (fun _ => 0))) := by rw [hen_419, va_up_ne _ _ (by decide)]; exact e6_418
  have e7_419 : en_419 7 = .inl (cy 0, 13, .inl (fun _ => 0)) := by rw [hen_419, va_up_ne _ _ (by decide)]; exact e7_418
  have e8_419 : en_419 8 = .inl (cy 1, 6, .inr (.inl (fun _ => 0))) := by rw [hen_419, va_up_ne _ _ (by decide)]; exact e8_418
  have e9_419 : en_419 9 = .inl (cy 1, 6, .inr (.inl (fun _ => 0))) := by rw [hen_419, va_up_ne _ _ (by decide)]; exact e9_418
  have e10_419 : en_419 10 = .inl (cy 0, 12, .inl (fun _ => 0)) := by rw [hen_419, va_up_ne _ _ (by decide)]; exact e10_418
  have e11_419 : en_419 11 = .inl (cy 0, 12, .inl (fun _ => 0)) := by rw [hen_419, va_up_ne _ _ (by decide)]; exact e11_418
  have e12_419 : en_419 12 = .inl (cy 0, 12, .inl (fun _ => 0)) := by rw [hen_419, va_up_ne _ _ (by decide)]; exact e12_418
  have e13_419 : en_419 13 = .inl (cy 0, 12, .inl (fun _ => 0)) := by rw [hen_419, va_up_ne _ _ (by decide)]; exact e13_418
  have et_419 : en_419 0 = .inr (11, [.int 0, .int 0, .int 2, .int 0, .int 0, .ref q_390, .ref q_392, .ref q_394, .ref q_400, .ref q_402, .ref q_404, .ref q_406, .ref q_408, .ref q_410, .int 0, .long 0, .long 0, .long 0, .long 0, .ref q_412, .ref q_414, .ref q_416, .int 0, .long 0, .ref q_418, .int 0, .null, .null, .null, .null, .int 0, .null, .null]) := by rw [hen_419]; exact va_up_self _ _ _
  refine lv_aload_n hx hb dX12_init_132 rfl (lv_at hl 0 rfl) ?_
  refine lv_bipush (v := (-9)) hx hb dX12_init_133 (by decide) ?_
  refine hp_put hx hb hts ix12 tyX12 tyX12_ok nmX12 hown hK hh (q := 0) heta_418 (List.mem_range.mpr (by decide)) et_419 rfl 25 (by decide) (hts _ tw_904) (fun _ h9 => h9) rfl (ty := .int) (by decide +kernel) rfl rfl (Nat.le_of_ble_eq_true rfl) dX12_init_135 (fun H locs en_420 hen_420 hh => ?_)
  have e1_420 : en_420 1 = .inl (cy 0, 54, .inl (fun _ => 0)) := by rw [hen_420, va_up_ne _ _ (by decide)]; exact e1_419
  have e2_420 : en_420 2 = .inl (cy 2, 36, .inl (fun _ => 0)) := by rw [hen_420, va_up_ne _ _ (by decide)]; exact e2_419
  have e3_420 : en_420 3 = .inl (cy 0, 4, .inl (upd (upd (upd (upd (fun _ => 0) (0 : Int32).toNatClampNeg (-9)) (1 : Int32).toNatClampNeg (-9)) (2 : Int32).toNatClampNeg (-9)) (3 : Int32).toNatClampNeg (-9))) := by rw [hen_420, va_up_ne _ _ (by decide)]; exact e3_419
  have e4_420 : en_420 4 = .inl (cy 0, 4, .inl (fun _ => 0)) := by rw [hen_420, va_up_ne _ _ (by decide)]; exact e4_419
  have e5_420 : en_420 5 = .inl (cy 0, 160, .inl (fun _ => 0)) := by rw [hen_420, va_up_ne _ _ (by decide)]; exact e5_419
  have e6_420 : en_420 6 = .inl (cy 1, 117, .inr (.inl (fun _ => 0))) := by rw [hen_420, va_up_ne _ _ (by decide)]; exact e6_419
  have e7_420 : en_420 7 = .inl (cy 0, 13, .inl (fun _ => 0)) := by rw [hen_420, va_up_ne _ _ (by decide)]; exact e7_419
  have e8_420 : en_420 8 = .inl (cy 1, 6, .inr (.inl (fun _ => 0))) := by rw [hen_420, va_up_ne _ _ (by decide)]; exact e8_419
  have e9_420 : en_420 9 = .inl (cy 1, 6, .inr (.inl (fun _ => 0))) := by rw [hen_420, va_up_ne _ _ (by decide)]; exact e9_419
  have e10_420 : en_420 10 = .inl (cy 0, 12, .inl (fun _ => 0)) := by rw [hen_420, va_up_ne _ _ (by decide)]; exact e10_419
  have e11_420 : en_420 11 = .inl (cy 0, 12, .inl (fun _ => 0)) := by rw [hen_420, va_up_ne _ _ (by decide)]; exact e11_419
  have e12_420 : en_420 12 = .inl (cy 0, 12, .inl (fun _ => 0)) := by rw [hen_420, va_up_ne _ _ (by decide)]; exact e12_419
  have e13_420 : en_420 13 = .inl (cy 0, 12, .inl (fun _ => 0)) := by rw [hen_420, va_up_ne _ _ (by decide)]; exact e13_419
  have et_420 : en_420 0 = .inr (11, [.int 0, .int 0, .int 2, .int 0, .int 0, .ref q_390, .ref q_392, .ref q_394, .ref q_400, .ref q_402, .ref q_404, .ref q_406, .ref q_408, .ref q_410, .int 0, .long 0, .long 0, .long 0, .long 0, .ref q_412, .ref q_414, .ref q_416, .int 0, .long 0, .ref q_418, .int (-9), .null, .null, .null, .null, .int 0, .null, .null]) := by rw [hen_420]; exact va_up_self _ _ _
  refine lv_aload_n hx hb dX12_init_138 rfl (lv_at hl 0 rfl) ?_
  refine lv_sipush (v := 18009) hx hb dX12_init_139 (by decide) ?_
  refine hq_newa (atype := .long) (ty := .long) hx hb (hts _ tw_61) rfl hK hh hA 1 rfl (N' := 18009) (a0 := (18009, .inr (.inl (fun _ => 0)))) (fun _ => rfl) (by decide) (by decide) (by decide) (Nat.le_of_ble_eq_true rfl) (Nat.le_of_ble_eq_true rfl) dX12_init_142 (fun q_421 H ad_421 en_421 had_421 hen_421 hh => ?_)
  have hh : Hp D A A s.heap H _ (List.range 15) ad_421 en_421 := hh
  have et_421 : en_421 0 = .inr (11, [.int 0, .int 0, .int 2, .int 0, .int 0, .ref q_390, .ref q_392, .ref q_394, .ref q_400, .ref q_402, .ref q_404, .ref q_406, .ref q_408, .ref q_410, .int 0, .long 0, .long 0, .long 0, .long 0, .ref q_412, .ref q_414, .ref q_416, .int 0, .long 0, .ref q_418, .int (-9), .null, .null, .null, .null, .int 0, .null, .null]) := by rw [hen_421, va_up_ne _ _ (by decide)]; exact et_420
  have heta_421 : ad_421 0 = (ad 0) := by rw [had_421, va_up_ne _ _ (by decide)]; exact heta_418
  have e1_421 : en_421 1 = .inl (cy 0, 54, .inl (fun _ => 0)) := by rw [hen_421, va_up_ne _ _ (by decide)]; exact e1_420
  have he1a_421 : ad_421 1 = q_390 := by rw [had_421, va_up_ne _ _ (by decide)]; exact he1a_418
  have e2_421 : en_421 2 = .inl (cy 2, 36, .inl (fun _ => 0)) := by rw [hen_421, va_up_ne _ _ (by decide)]; exact e2_420
  have he2a_421 : ad_421 2 = q_392 := by rw [had_421, va_up_ne _ _ (by decide)]; exact he2a_418
  have e3_421 : en_421 3 = .inl (cy 0, 4, .inl (upd (upd (upd (upd (fun _ => 0) (0 : Int32).toNatClampNeg (-9)) (1 : Int32).toNatClampNeg (-9)) (2 : Int32).toNatClampNeg (-9)) (3 : Int32).toNatClampNeg (-9))) := by rw [hen_421, va_up_ne _ _ (by decide)]; exact e3_420
  have he3a_421 : ad_421 3 = q_394 := by rw [had_421, va_up_ne _ _ (by decide)]; exact he3a_418
  have e4_421 : en_421 4 = .inl (cy 0, 4, .inl (fun _ => 0)) := by rw [hen_421, va_up_ne _ _ (by decide)]; exact e4_420
  have he4a_421 : ad_421 4 = q_400 := by rw [had_421, va_up_ne _ _ (by decide)]; exact he4a_418
  have e5_421 : en_421 5 = .inl (cy 0, 160, .inl (fun _ => 0)) := by rw [hen_421, va_up_ne _ _ (by decide)]; exact e5_420
  have he5a_421 : ad_421 5 = q_402 := by rw [had_421, va_up_ne _ _ (by decide)]; exact he5a_418
  have e6_421 : en_421 6 = .inl (cy 1, 117, .inr (.inl (fun _ => 0))) := by rw [hen_421, va_up_ne _ _ (by decide)]; exact e6_420
  have he6a_421 : ad_421 6 = q_404 := by rw [had_421, va_up_ne _ _ (by decide)]; exact he6a_418
  have e7_421 : en_421 7 = .inl (cy 0, 13, .inl (fun _ => 0)) := by rw [hen_421, va_up_ne _ _ (by decide)]; exact e7_420
  have he7a_421 : ad_421 7 = q_406 := by rw [had_421, va_up_ne _ _ (by decide)]; exact he7a_418
  have e8_421 : en_421 8 = .inl (cy 1, 6, .inr (.inl (fun _ => 0))) := by rw [hen_421, va_up_ne _ _ (by decide)]; exact e8_420
  have he8a_421 : ad_421 8 = q_408 := by rw [had_421, va_up_ne _ _ (by decide)]; exact he8a_418
  have e9_421 : en_421 9 = .inl (cy 1, 6, .inr (.inl (fun _ => 0))) := by rw [hen_421, va_up_ne _ _ (by decide)]; exact e9_420
  have he9a_421 : ad_421 9 = q_410 := by rw [had_421, va_up_ne _ _ (by decide)]; exact he9a_418
  have e10_421 : en_421 10 = .inl (cy 0, 12, .inl (fun _ => 0)) := by rw [hen_421, va_up_ne _ _ (by decide)]; exact e10_420
  have he10a_421 : ad_421 10 = q_412 := by rw [had_421, va_up_ne _ _ (by decide)]; exact he10a_418
  have e11_421 : en_421 11 = .inl (cy 0, 12, .inl (fun _ => 0)) := by rw [hen_421, va_up_ne _ _ (by decide)]; exact e11_420
  have he11a_421 : ad_421 11 = q_414 := by rw [had_421, va_up_ne _ _ (by decide)]; exact he11a_418
  have e12_421 : en_421 12 = .inl (cy 0, 12, .inl (fun _ => 0)) := by rw [hen_421, va_up_ne _ _ (by decide)]; exact e12_420
  have he12a_421 : ad_421 12 = q_416 := by rw [had_421, va_up_ne _ _ (by decide)]; exact he12a_418
  have e13_421 : en_421 13 = .inl (cy 0, 12, .inl (fun _ => 0)) := by rw [hen_421, va_up_ne _ _ (by decide)]; exact e13_420
  have he13a_421 : ad_421 13 = q_418 := by rw [had_421, va_up_ne _ _ (by decide)]; exact he13a_418
  have e14_421 : en_421 14 = .inl (cy 1, 18009, .inr (.inl (fun _ => 0))) := by rw [hen_421]; exact va_up_self _ _ _
  have he14a_421 : ad_421 14 = q_421 := by rw [had_421]; exact va_up_self _ _ _
  refine W.widen (k := 14) (n := 18457) (Nat.le_refl _) (Nat.le_refl _) ?_
  refine hp_putF hx hb hts ix12 tyX12 tyX12_ok nmX12 hown hK hh (q := 0) heta_421 (List.mem_range.mpr (by decide)) et_421 rfl 26 (by decide) (hts _ tw_905) (fun _ h9 => h9) rfl hin rfl (ty := (.array .long)) (by decide +kernel) rfl rfl (Nat.le_of_ble_eq_true rfl) dX12_init_144 (fun H locs en_422 hen_422 hh => ?_)
  have e1_422 : en_422 1 = .inl (cy 0, 54, .inl (fun _ => 0)) := by rw [hen_422, va_up_ne _ _ (by decide)]; exact e1_421
  have e2_422 : en_422 2 = .inl (cy 2, 36, .inl (fun _ => 0)) := by rw [hen_422, va_up_ne _ _ (by decide)]; exact e2_421
  have e3_422 : en_422 3 = .inl (cy 0, 4, .inl (upd (upd (upd (upd (fun _ => 0) (0 : Int32).toNatClampNeg (-9)) (1 : Int32).toNatClampNeg (-9)) (2 : Int32).toNatClampNeg (-9)) (3 : Int32).toNatClampNeg (-9))) := by rw [hen_422, va_up_ne _ _ (by decide)]; exact e3_421
  have e4_422 : en_422 4 = .inl (cy 0, 4, .inl (fun _ => 0)) := by rw [hen_422, va_up_ne _ _ (by decide)]; exact e4_421
  have e5_422 : en_422 5 = .inl (cy 0, 160, .inl (fun _ => 0)) := by rw [hen_422, va_up_ne _ _ (by decide)]; exact e5_421
  have e6_422 : en_422 6 = .inl (cy 1, 117, .inr (.inl (fun _ => 0))) := by rw [hen_422, va_up_ne _ _ (by decide)]; exact e6_421
  have e7_422 : en_422 7 = .inl (cy 0, 13, .inl (fun _ => 0)) := by rw [hen_422, va_up_ne _ _ (by decide)]; exact e7_421
  have e8_422 : en_422 8 = .inl (cy 1, 6, .inr (.inl (fun _ => 0))) := by rw [hen_422, va_up_ne _ _ (by decide)]; exact e8_421
  have e9_422 : en_422 9 = .inl (cy 1, 6, .inr (.inl (fun _ => 0))) := by rw [hen_422, va_up_ne _ _ (by decide)]; exact e9_421
  have e10_422 : en_422 10 = .inl (cy 0, 12, .inl (fun _ => 0)) := by rw [hen_422, va_up_ne _ _ (by decide)]; exact e10_421
  have e11_422 : en_422 11 = .inl (cy 0, 12, .inl (fun _ => 0)) := by rw [hen_422, va_up_ne _ _ (by decide)]; exact e11_421
  have e12_422 : en_422 12 = .inl (cy 0, 12, .inl (fun _ => 0)) := by rw [hen_422, va_up_ne _ _ (by decide)]; exact e12_421
  have e13_422 : en_422 13 = .inl (cy 0, 12, .inl (fun _ => 0)) := by rw [hen_422, va_up_ne _ _ (by decide)]; exact e13_421
  have e14_422 : en_422 14 = .inl (cy 1, 18009, .inr (.inl (fun _ => 0))) := by rw [hen_422, va_up_ne _ _ (by decide)]; exact e14_421
  have et_422 : en_422 0 = .inr (11, [.int 0, .int 0, .int 2, .int 0, .int 0, .ref q_390, .ref q_392, .ref q_394, .ref q_400, .ref q_402, .ref q_404, .ref q_406, .ref q_408, .ref q_410, .int 0, .long 0, .long 0, .long 0, .long 0, .ref q_412, .ref q_414, .ref q_416, .int 0, .long 0, .ref q_418, .int (-9), .ref q_421, .null, .null, .null, .int 0, .null, .null]) := by rw [hen_422]; exact va_up_self _ _ _
  refine lv_aload_n hx hb dX12_init_147 rfl (lv_at hl 0 rfl) ?_
  refine lv_sipush (v := 2001) hx hb dX12_init_148 (by decide) ?_
  refine hq_newa (atype := .int) (ty := .int) hx hb (hts _ tw_121) rfl hK hh hA 0 rfl (N' := 2001) (a0 := (2001, .inl (fun _ => 0))) (fun _ => rfl) (by decide) (by decide) (by decide) (Nat.le_of_ble_eq_true rfl) (Nat.le_of_ble_eq_true rfl) dX12_init_151 (fun q_423 H ad_423 en_423 had_423 hen_423 hh => ?_)
  have hh : Hp D A A s.heap H _ (List.range 16) ad_423 en_423 := hh
  have et_423 : en_423 0 = .inr (11, [.int 0, .int 0, .int 2, .int 0, .int 0, .ref q_390, .ref q_392, .ref q_394, .ref q_400, .ref q_402, .ref q_404, .ref q_406, .ref q_408, .ref q_410, .int 0, .long 0, .long 0, .long 0, .long 0, .ref q_412, .ref q_414, .ref q_416, .int 0, .long 0, .ref q_418, .int (-9), .ref q_421, .null, .null, .null, .int 0, .null, .null]) := by rw [hen_423, va_up_ne _ _ (by decide)]; exact et_422
  have heta_423 : ad_423 0 = (ad 0) := by rw [had_423, va_up_ne _ _ (by decide)]; exact heta_421
  have e1_423 : en_423 1 = .inl (cy 0, 54, .inl (fun _ => 0)) := by rw [hen_423, va_up_ne _ _ (by decide)]; exact e1_422
  have he1a_423 : ad_423 1 = q_390 := by rw [had_423, va_up_ne _ _ (by decide)]; exact he1a_421
  have e2_423 : en_423 2 = .inl (cy 2, 36, .inl (fun _ => 0)) := by rw [hen_423, va_up_ne _ _ (by decide)]; exact e2_422
  have he2a_423 : ad_423 2 = q_392 := by rw [had_423, va_up_ne _ _ (by decide)]; exact he2a_421
  have e3_423 : en_423 3 = .inl (cy 0, 4, .inl (upd (upd (upd (upd (fun _ => 0) (0 : Int32).toNatClampNeg (-9)) (1 : Int32).toNatClampNeg (-9)) (2 : Int32).toNatClampNeg (-9)) (3 : Int32).toNatClampNeg (-9))) := by rw [hen_423, va_up_ne _ _ (by decide)]; exact e3_422
  have he3a_423 : ad_423 3 = q_394 := by rw [had_423, va_up_ne _ _ (by decide)]; exact he3a_421
  have e4_423 : en_423 4 = .inl (cy 0, 4, .inl (fun _ => 0)) := by rw [hen_423, va_up_ne _ _ (by decide)]; exact e4_422
  have he4a_423 : ad_423 4 = q_400 := by rw [had_423, va_up_ne _ _ (by decide)]; exact he4a_421
  have e5_423 : en_423 5 = .inl (cy 0, 160, .inl (fun _ => 0)) := by rw [hen_423, va_up_ne _ _ (by decide)]; exact e5_422
  have he5a_423 : ad_423 5 = q_402 := by rw [had_423, va_up_ne _ _ (by decide)]; exact he5a_421
  have e6_423 : en_423 6 = .inl (cy 1, 117, .inr (.inl (fun _ => 0))) := by rw [hen_423, va_up_ne _ _ (by decide)]; exact e6_422
  have he6a_423 : ad_423 6 = q_404 := by rw [had_423, va_up_ne _ _ (by decide)]; exact he6a_421
  have e7_423 : en_423 7 = .inl (cy 0, 13, .inl (fun _ => 0)) := by rw [hen_423, va_up_ne _ _ (by decide)]; exact e7_422
  have he7a_423 : ad_423 7 = q_406 := by rw [had_423, va_up_ne _ _ (by decide)]; exact he7a_421
  have e8_423 : en_423 8 = .inl (cy 1, 6, .inr (.inl (fun _ => 0))) := by rw [hen_423, va_up_ne _ _ (by decide)]; exact e8_422
  have he8a_423 : ad_423 8 = q_408 := by rw [had_423, va_up_ne _ _ (by decide)]; exact he8a_421
  have e9_423 : en_423 9 = .inl (cy 1, 6, .inr (.inl (fun _ => 0))) := by rw [hen_423, va_up_ne _ _ (by decide)]; exact e9_422
  have he9a_423 : ad_423 9 = q_410 := by rw [had_423, va_up_ne _ _ (by decide)]; exact he9a_421
  have e10_423 : en_423 10 = .inl (cy 0, 12, .inl (fun _ => 0)) := by rw [hen_423, va_up_ne _ _ (by decide)]; exact e10_422
  have he10a_423 : ad_423 10 = q_412 := by rw [had_423, va_up_ne _ _ (by decide)]; exact he10a_421
  have e11_423 : en_423 11 = .inl (cy 0, 12, .inl (fun _ => 0)) := by rw [hen_423, va_up_ne _ _ (by decide)]; exact e11_422
  have he11a_423 : ad_423 11 = q_414 := by rw [had_423, va_up_ne _ _ (by decide)]; exact he11a_421
  have e12_423 : en_423 12 = .inl (cy 0, 12, .inl (fun _ => 0)) := by rw [hen_423, va_up_ne _ _ (by decide)]; exact e12_422
  have he12a_423 : ad_423 12 = q_416 := by rw [had_423, va_up_ne _ _ (by decide)]; exact he12a_421
  have e13_423 : en_423 13 = .inl (cy 0, 12, .inl (fun _ => 0)) := by rw [hen_423, va_up_ne _ _ (by decide)]; exact e13_422
  have he13a_423 : ad_423 13 = q_418 := by rw [had_423, va_up_ne _ _ (by decide)]; exact he13a_421
  have e14_423 : en_423 14 = .inl (cy 1, 18009, .inr (.inl (fun _ => 0))) := by rw [hen_423, va_up_ne _ _ (by decide)]; exact e14_422
  have he14a_423 : ad_423 14 = q_421 := by rw [had_423, va_up_ne _ _ (by decide)]; exact he14a_421
  have e15_423 : en_423 15 = .inl (cy 0, 2001, .inl (fun _ => 0)) := by rw [hen_423]; exact va_up_self _ _ _
  have he15a_423 : ad_423 15 = q_423 := by rw [had_423]; exact va_up_self _ _ _
  refine W.widen (k := 15) (n := 20458) (Nat.le_refl _) (Nat.le_refl _) ?_
  refine hp_putF hx hb hts ix12 tyX12 tyX12_ok nmX12 hown hK hh (q := 0) heta_423 (List.mem_range.mpr (by decide)) et_423 rfl 27 (by decide) (hts _ tw_906) (fun _ h9 => h9) rfl hin rfl (ty := (.array .int)) (by decide +kernel) rfl rfl (Nat.le_of_ble_eq_true rfl) dX12_init_153 (fun H locs en_424 hen_424 hh => ?_)
  have e1_424 : en_424 1 = .inl (cy 0, 54, .inl (fun _ => 0)) := by rw [hen_424, va_up_ne _ _ (by decide)]; exact e1_423
  have e2_424 : en_424 2 = .inl (cy 2, 36, .inl (fun _ => 0)) := by rw [hen_424, va_up_ne _ _ (by decide)]; exact e2_423
  have e3_424 : en_424 3 = .inl (cy 0, 4, .inl (upd (upd (upd (upd (fun _ => 0) (0 : Int32).toNatClampNeg (-9)) (1 : Int32).toNatClampNeg (-9)) (2 : Int32).toNatClampNeg (-9)) (3 : Int32).toNatClampNeg (-9))) := by rw [hen_424, va_up_ne _ _ (by decide)]; exact e3_423
  have e4_424 : en_424 4 = .inl (cy 0, 4, .inl (fun _ => 0)) := by rw [hen_424, va_up_ne _ _ (by decide)]; exact e4_423
  have e5_424 : en_424 5 = .inl (cy 0, 160, .inl (fun _ => 0)) := by rw [hen_424, va_up_ne _ _ (by decide)]; exact e5_423
  have e6_424 : en_424 6 = .inl (cy 1, 117, .inr (.inl (fun _ => 0))) := by rw [hen_424, va_up_ne _ _ (by decide)]; exact e6_423
  have e7_424 : en_424 7 = .inl (cy 0, 13, .inl (fun _ => 0)) := by rw [hen_424, va_up_ne _ _ (by decide)]; exact e7_423
  have e8_424 : en_424 8 = .inl (cy 1, 6, .inr (.inl (fun _ => 0))) := by rw [hen_424, va_up_ne _ _ (by decide)]; exact e8_423
  have e9_424 : en_424 9 = .inl (cy 1, 6, .inr (.inl (fun _ => 0))) := by rw [hen_424, va_up_ne _ _ (by decide)]; exact e9_423
  have e10_424 : en_424 10 = .inl (cy 0, 12, .inl (fun _ => 0)) := by rw [hen_424, va_up_ne _ _ (by decide)]; exact e10_423
  have e11_424 : en_424 11 = .inl (cy 0, 12, .inl (fun _ => 0)) := by rw [hen_424, va_up_ne _ _ (by decide)]; exact e11_423
  have e12_424 : en_424 12 = .inl (cy 0, 12, .inl (fun _ => 0)) := by rw [hen_424, va_up_ne _ _ (by decide)]; exact e12_423
  have e13_424 : en_424 13 = .inl (cy 0, 12, .inl (fun _ => 0)) := by rw [hen_424, va_up_ne _ _ (by decide)]; exact e13_423
  have e14_424 : en_424 14 = .inl (cy 1, 18009, .inr (.inl (fun _ => 0))) := by rw [hen_424, va_up_ne _ _ (by decide)]; exact e14_423
  have e15_424 : en_424 15 = .inl (cy 0, 2001, .inl (fun _ => 0)) := by rw [hen_424, va_up_ne _ _ (by decide)]; exact e15_423
  have et_424 : en_424 0 = .inr (11, [.int 0, .int 0, .int 2, .int 0, .int 0, .ref q_390, .ref q_392, .ref q_394, .ref q_400, .ref q_402, .ref q_404, .ref q_406, .ref q_408, .ref q_410, .int 0, .long 0, .long 0, .long 0, .long 0, .ref q_412, .ref q_414, .ref q_416, .int 0, .long 0, .ref q_418, .int (-9), .ref q_421, .ref q_423, .null, .null, .int 0, .null, .null]) := by rw [hen_424]; exact va_up_self _ _ _
  refine lv_aload_n hx hb dX12_init_156 rfl (lv_at hl 0 rfl) ?_
  refine lv_sipush (v := 4096) hx hb dX12_init_157 (by decide) ?_
  refine hq_newa (atype := .int) (ty := .int) hx hb (hts _ tw_121) rfl hK hh hA 0 rfl (N' := 4096) (a0 := (4096, .inl (fun _ => 0))) (fun _ => rfl) (by decide) (by decide) (by decide) (Nat.le_of_ble_eq_true rfl) (Nat.le_of_ble_eq_true rfl) dX12_init_160 (fun q_425 H ad_425 en_425 had_425 hen_425 hh => ?_)
  have hh : Hp D A A s.heap H _ (List.range 17) ad_425 en_425 := hh
  have et_425 : en_425 0 = .inr (11, [.int 0, .int 0, .int 2, .int 0, .int 0, .ref q_390, .ref q_392, .ref q_394, .ref q_400, .ref q_402, .ref q_404, .ref q_406, .ref q_408, .ref q_410, .int 0, .long 0, .long 0, .long 0, .long 0, .ref q_412, .ref q_414, .ref q_416, .int 0, .long 0, .ref q_418, .int (-9), .ref q_421, .ref q_423, .null, .null, .int 0, .null, .null]) := by rw [hen_425, va_up_ne _ _ (by decide)]; exact et_424
  have heta_425 : ad_425 0 = (ad 0) := by rw [had_425, va_up_ne _ _ (by decide)]; exact heta_423
  have e1_425 : en_425 1 = .inl (cy 0, 54, .inl (fun _ => 0)) := by rw [hen_425, va_up_ne _ _ (by decide)]; exact e1_424
  have he1a_425 : ad_425 1 = q_390 := by rw [had_425, va_up_ne _ _ (by decide)]; exact he1a_423
  have e2_425 : en_425 2 = .inl (cy 2, 36, .inl (fun _ => 0)) := by rw [hen_425, va_up_ne _ _ (by decide)]; exact e2_424
  have he2a_425 : ad_425 2 = q_392 := by rw [had_425, va_up_ne _ _ (by decide)]; exact he2a_423
  have e3_425 : en_425 3 = .inl (cy 0, 4, .inl (upd (upd (upd (upd (fun _ => 0) (0 : Int32).toNatClampNeg (-9)) (1 : Int32).toNatClampNeg (-9)) (2 : Int32).toNatClampNeg (-9)) (3 : Int32).toNatClampNeg (-9))) := by rw [hen_425, va_up_ne _ _ (by decide)]; exact e3_424
  have he3a_425 : ad_425 3 = q_394 := by rw [had_425, va_up_ne _ _ (by decide)]; exact he3a_423
  have e4_425 : en_425 4 = .inl (cy 0, 4, .inl (fun _ => 0)) := by rw [hen_425, va_up_ne _ _ (by decide)]; exact e4_424
  have he4a_425 : ad_425 4 = q_400 := by rw [had_425, va_up_ne _ _ (by decide)]; exact he4a_423
  have e5_425 : en_425 5 = .inl (cy 0, 160, .inl (fun _ => 0)) := by rw [hen_425, va_up_ne _ _ (by decide)]; exact e5_424
  have he5a_425 : ad_425 5 = q_402 := by rw [had_425, va_up_ne _ _ (by decide)]; exact he5a_423
  have e6_425 : en_425 6 = .inl (cy 1, 117, .inr (.inl (fun _ => 0))) := by rw [hen_425, va_up_ne _ _ (by decide)]; exact e6_424
  have he6a_425 : ad_425 6 = q_404 := by rw [had_425, va_up_ne _ _ (by decide)]; exact he6a_423
  have e7_425 : en_425 7 = .inl (cy 0, 13, .inl (fun _ => 0)) := by rw [hen_425, va_up_ne _ _ (by decide)]; exact e7_424
  have he7a_425 : ad_425 7 = q_406 := by rw [had_425, va_up_ne _ _ (by decide)]; exact he7a_423
  have e8_425 : en_425 8 = .inl (cy 1, 6, .inr (.inl (fun _ => 0))) := by rw [hen_425, va_up_ne _ _ (by decide)]; exact e8_424
  have he8a_425 : ad_425 8 = q_408 := by rw [had_425, va_up_ne _ _ (by decide)]; exact he8a_423
  have e9_425 : en_425 9 = .inl (cy 1, 6, .inr (.inl (fun _ => 0))) := by rw [hen_425, va_up_ne _ _ (by decide)]; exact e9_424
  have he9a_425 : ad_425 9 = q_410 := by rw [had_425, va_up_ne _ _ (by decide)]; exact he9a_423
  have e10_425 : en_425 10 = .inl (cy 0, 12, .inl (fun _ => 0)) := by rw [hen_425, va_up_ne _ _ (by decide)]; exact e10_424
  have he10a_425 : ad_425 10 = q_412 := by rw [had_425, va_up_ne _ _ (by decide)]; exact he10a_423
  have e11_425 : en_425 11 = .inl (cy 0, 12, .inl (fun _ => 0)) := by rw [hen_425, va_up_ne _ _ (by decide)]; exact e11_424
  have he11a_425 : ad_425 11 = q_414 := by rw [had_425, va_up_ne _ _ (by decide)]; exact he11a_423
  have e12_425 : en_425 12 = .inl (cy 0, 12, .inl (fun _ => 0)) := by rw [hen_425, va_up_ne _ _ (by decide)]; exact e12_424
  have he12a_425 : ad_425 12 = q_416 := by rw [had_425, va_up_ne _ _ (by decide)]; exact he12a_423
  have e13_425 : en_425 13 = .inl (cy 0, 12, .inl (fun _ => 0)) := by rw [hen_425, va_up_ne _ _ (by decide)]; exact e13_424
  have he13a_425 : ad_425 13 = q_418 := by rw [had_425, va_up_ne _ _ (by decide)]; exact he13a_423
  have e14_425 : en_425 14 = .inl (cy 1, 18009, .inr (.inl (fun _ => 0))) := by rw [hen_425, va_up_ne _ _ (by decide)]; exact e14_424
  have he14a_425 : ad_425 14 = q_421 := by rw [had_425, va_up_ne _ _ (by decide)]; exact he14a_423
  have e15_425 : en_425 15 = .inl (cy 0, 2001, .inl (fun _ => 0)) := by rw [hen_425, va_up_ne _ _ (by decide)]; exact e15_424
  have he15a_425 : ad_425 15 = q_423 := by rw [had_425, va_up_ne _ _ (by decide)]; exact he15a_423
  have e16_425 : en_425 16 = .inl (cy 0, 4096, .inl (fun _ => 0)) := by rw [hen_425]; exact va_up_self _ _ _
  have he16a_425 : ad_425 16 = q_425 := by rw [had_425]; exact va_up_self _ _ _
  refine W.widen (k := 16) (n := 24554) (Nat.le_refl _) (Nat.le_refl _) ?_
  refine hp_putF hx hb hts ix12 tyX12 tyX12_ok nmX12 hown hK hh (q := 0) heta_425 (List.mem_range.mpr (by decide)) et_425 rfl 28 (by decide) (hts _ tw_907) (fun _ h9 => h9) rfl hin rfl (ty := (.array .int)) (by decide +kernel) rfl rfl (Nat.le_of_ble_eq_true rfl) dX12_init_162 (fun H locs en_426 hen_426 hh => ?_)
  have e1_426 : en_426 1 = .inl (cy 0, 54, .inl (fun _ => 0)) := by rw [hen_426, va_up_ne _ _ (by decide)]; exact e1_425
  have e2_426 : en_426 2 = .inl (cy 2, 36, .inl (fun _ => 0)) := by rw [hen_426, va_up_ne _ _ (by decide)]; exact e2_425
  have e3_426 : en_426 3 = .inl (cy 0, 4, .inl (upd (upd (upd (upd (fun _ => 0) (0 : Int32).toNatClampNeg (-9)) (1 : Int32).toNatClampNeg (-9)) (2 : Int32).toNatClampNeg (-9)) (3 : Int32).toNatClampNeg (-9))) := by rw [hen_426, va_up_ne _ _ (by decide)]; exact e3_425
  have e4_426 : en_426 4 = .inl (cy 0, 4, .inl (fun _ => 0)) := by rw [hen_426, va_up_ne _ _ (by decide)]; exact e4_425
  have e5_426 : en_426 5 = .inl (cy 0, 160, .inl (fun _ => 0)) := by rw [hen_426, va_up_ne _ _ (by decide)]; exact e5_425
  have e6_426 : en_426 6 = .inl (cy 1, 117, .inr (.inl (fun _ => 0))) := by rw [hen_426, va_up_ne _ _ (by decide)]; exact e6_425
  have e7_426 : en_426 7 = .inl (cy 0, 13, .inl (fun _ => 0)) := by rw [hen_426, va_up_ne _ _ (by decide)]; exact e7_425
  have e8_426 : en_426 8 = .inl (cy 1, 6, .inr (.inl (fun _ => 0))) := by rw [hen_426, va_up_ne _ _ (by decide)]; exact e8_425
  have e9_426 : en_426 9 = .inl (cy 1, 6, .inr (.inl (fun _ => 0))) := by rw [hen_426, va_up_ne _ _ (by decide)]; exact e9_425
  have e10_426 : en_426 10 = .inl (cy 0, 12, .inl (fun _ => 0)) := by rw [hen_426, va_up_ne _ _ (by decide)]; exact e10_425
  have e11_426 : en_426 11 = .inl (cy 0, 12, .inl (fun _ => 0)) := by rw [hen_426, va_up_ne _ _ (by decide)]; exact e11_425
  have e12_426 : en_426 12 = .inl (cy 0, 12, .inl (fun _ => 0)) := by rw [hen_426, va_up_ne _ _ (by decide)]; exact e12_425
  have e13_426 : en_426 13 = .inl (cy 0, 12, .inl (fun _ => 0)) := by rw [hen_426, va_up_ne _ _ (by decide)]; exact e13_425
  have e14_426 : en_426 14 = .inl (cy 1, 18009, .inr (.inl (fun _ => 0))) := by rw [hen_426, va_up_ne _ _ (by decide)]; exact e14_425
  have e15_426 : en_426 15 = .inl (cy 0, 2001, .inl (fun _ => 0)) := by rw [hen_426, va_up_ne _ _ (by decide)]; exact e15_425
  have e16_426 : en_426 16 = .inl (cy 0, 4096, .inl (fun _ => 0)) := by rw [hen_426, va_up_ne _ _ (by decide)]; exact e16_425
  have et_426 : en_426 0 = .inr (11, [.int 0, .int 0, .int 2, .int 0, .int 0, .ref q_390, .ref q_392, .ref q_394, .ref q_400, .ref q_402, .ref q_404, .ref q_406, .ref q_408, .ref q_410, .int 0, .long 0, .long 0, .long 0, .long 0, .ref q_412, .ref q_414, .ref q_416, .int 0, .long 0, .ref q_418, .int (-9), .ref q_421, .ref q_423, .ref q_425, .null, .int 0, .null, .null]) := by rw [hen_426]; exact va_up_self _ _ _
  refine lv_aload_n hx hb dX12_init_165 rfl (lv_at hl 0 rfl) ?_
  refine lv_sipush (v := 2001) hx hb dX12_init_166 (by decide) ?_
  refine hq_newa (atype := .int) (ty := .int) hx hb (hts _ tw_121) rfl hK hh hA 0 rfl (N' := 2001) (a0 := (2001, .inl (fun _ => 0))) (fun _ => rfl) (by decide) (by decide) (by decide) (Nat.le_of_ble_eq_true rfl) (Nat.le_of_ble_eq_true rfl) dX12_init_169 (fun q_427 H ad_427 en_427 had_427 hen_427 hh => ?_)
  have hh : Hp D A A s.heap H _ (List.range 18) ad_427 en_427 := hh
  have et_427 : en_427 0 = .inr (11, [.int 0, .int 0, .int 2, .int 0, .int 0, .ref q_390, .ref q_392, .ref q_394, .ref q_400, .ref q_402, .ref q_404, .ref q_406, .ref q_408, .ref q_410, .int 0, .long 0, .long 0, .long 0, .long 0, .ref q_412, .ref q_414, .ref q_416, .int 0, .long 0, .ref q_418, .int (-9), .ref q_421, .ref q_423, .ref q_425, .null, .int 0, .null, .null]) := by rw [hen_427, va_up_ne _ _ (by decide)]; exact et_426
  have heta_427 : ad_427 0 = (ad 0) := by rw [had_427, va_up_ne _ _ (by decide)]; exact heta_425
  have e1_427 : en_427 1 = .inl (cy 0, 54, .inl (fun _ => 0)) := by rw [hen_427, va_up_ne _ _ (by decide)]; exact e1_426
  have he1a_427 : ad_427 1 = q_390 := by rw [had_427, va_up_ne _ _ (by decide)]; exact he1a_425
  have e2_427 : en_427 2 = .inl (cy 2, 36, .inl (fun _ => 0)) := by rw [hen_427, va_up_ne _ _ (by decide)]; exact e2_426
  have he2a_427 : ad_427 2 = q_392 := by rw [had_427, va_up_ne _ _ (by decide)]; exact he2a_425
  have e3_427 : en_427 3 = .inl (cy 0, 4, .inl (upd (upd (upd (upd (fun _ => 0) (0 : Int32).toNatClampNeg (-9)) (1 : Int32).toNatClampNeg (-9)) (2 : Int32).toNatClampNeg (-9)) (3 : Int32).toNatClampNeg (-9))) := by rw [hen_427, va_up_ne _ _ (by decide)]; exact e3_426
  have he3a_427 : ad_427 3 = q_394 := by rw [had_427, va_up_ne _ _ (by decide)]; exact he3a_425
  have e4_427 : en_427 4 = .inl (cy 0, 4, .inl (fun _ => 0)) := by rw [hen_427, va_up_ne _ _ (by decide)]; exact e4_426
  have he4a_427 : ad_427 4 = q_400 := by rw [had_427, va_up_ne _ _ (by decide)]; exact he4a_425
  have e5_427 : en_427 5 = .inl (cy 0, 160, .inl (fun _ => 0)) := by rw [hen_427, va_up_ne _ _ (by decide)]; exact e5_426
  have he5a_427 : ad_427 5 = q_402 := by rw [had_427, va_up_ne _ _ (by decide)]; exact he5a_425
  have e6_427 : en_427 6 = .inl (cy 1, 117, .inr (.inl (fun _ => 0))) := by rw [hen_427, va_up_ne _ _ (by decide)]; exact e6_426
  have he6a_427 : ad_427 6 = q_404 := by rw [had_427, va_up_ne _ _ (by decide)]; exact he6a_425
  have e7_427 : en_427 7 = .inl (cy 0, 13, .inl (fun _ => 0)) := by rw [hen_427, va_up_ne _ _ (by decide)]; exact e7_426
  have he7a_427 : ad_427 7 = q_406 := by rw [had_427, va_up_ne _ _ (by decide)]; exact he7a_425
  have e8_427 : en_427 8 = .inl (cy 1, 6, .inr (.inl (fun _ => 0))) := by rw [hen_427, va_up_ne _ _ (by decide)]; exact e8_426
  have he8a_427 : ad_427 8 = q_408 := by rw [had_427, va_up_ne _ _ (by decide)]; exact he8a_425
  have e9_427 : en_427 9 = .inl (cy 1, 6, .inr (.inl (fun _ => 0))) := by rw [hen_427, va_up_ne _ _ (by decide)]; exact e9_426
  have he9a_427 : ad_427 9 = q_410 := by rw [had_427, va_up_ne _ _ (by decide)]; exact he9a_425
  have e10_427 : en_427 10 = .inl (cy 0, 12, .inl (fun _ => 0)) := by rw [hen_427, va_up_ne _ _ (by decide)]; exact e10_426
  have he10a_427 : ad_427 10 = q_412 := by rw [had_427, va_up_ne _ _ (by decide)]; exact he10a_425
  have e11_427 : en_427 11 = .inl (cy 0, 12, .inl (fun _ => 0)) := by rw [hen_427, va_up_ne _ _ (by decide)]; exact e11_426
  have he11a_427 : ad_427 11 = q_414 := by rw [had_427, va_up_ne _ _ (by decide)]; exact he11a_425
  have e12_427 : en_427 12 = .inl (cy 0, 12, .inl (fun _ => 0)) := by rw [hen_427, va_up_ne _ _ (by decide)]; exact e12_426
  have he12a_427 : ad_427 12 = q_416 := by rw [had_427, va_up_ne _ _ (by decide)]; exact he12a_425
  have e13_427 : en_427 13 = .inl (cy 0, 12, .inl (fun _ => 0)) := by rw [hen_427, va_up_ne _ _ (by decide)]; exact e13_426
  have he13a_427 : ad_427 13 = q_418 := by rw [had_427, va_up_ne _ _ (by decide)]; exact he13a_425
  have e14_427 : en_427 14 = .inl (cy 1, 18009, .inr (.inl (fun _ => 0))) := by rw [hen_427, va_up_ne _ _ (by decide)]; exact e14_426
  have he14a_427 : ad_427 14 = q_421 := by rw [had_427, va_up_ne _ _ (by decide)]; exact he14a_425
  have e15_427 : en_427 15 = .inl (cy 0, 2001, .inl (fun _ => 0)) := by rw [hen_427, va_up_ne _ _ (by decide)]; exact e15_426
  have he15a_427 : ad_427 15 = q_423 := by rw [had_427, va_up_ne _ _ (by decide)]; exact he15a_425
  have e16_427 : en_427 16 = .inl (cy 0, 4096, .inl (fun _ => 0)) := by rw [hen_427, va_up_ne _ _ (by decide)]; exact e16_426
  have he16a_427 : ad_427 16 = q_425 := by rw [had_427, va_up_ne _ _ (by decide)]; exact he16a_425
  have e17_427 : en_427 17 = .inl (cy 0, 2001, .inl (fun _ => 0)) := by rw [hen_427]; exact va_up_self _ _ _
  have he17a_427 : ad_427 17 = q_427 := by rw [had_427]; exact va_up_self _ _ _
  refine W.widen (k := 17) (n := 26555) (Nat.le_refl _) (Nat.le_refl _) ?_
  refine hp_putF hx hb hts ix12 tyX12 tyX12_ok nmX12 hown hK hh (q := 0) heta_427 (List.mem_range.mpr (by decide)) et_427 rfl 29 (by decide) (hts _ tw_908) (fun _ h9 => h9) rfl hin rfl (ty := (.array .int)) (by decide +kernel) rfl rfl (Nat.le_of_ble_eq_true rfl) dX12_init_171 (fun H locs en_428 hen_428 hh => ?_)
  have e1_428 : en_428 1 = .inl (cy 0, 54, .inl (fun _ => 0)) := by rw [hen_428, va_up_ne _ _ (by decide)]; exact e1_427
  have e2_428 : en_428 2 = .inl (cy 2, 36, .inl (fun _ => 0)) := by rw [hen_428, va_up_ne _ _ (by decide)]; exact e2_427
  have e3_428 : en_428 3 = .inl (cy 0, 4, .inl (upd (upd (upd (upd (fun _ => 0) (0 : Int32).toNatClampNeg (-9)) (1 : Int32).toNatClampNeg (-9)) (2 : Int32).toNatClampNeg (-9)) (3 : Int32).toNatClampNeg (-9))) := by rw [hen_428, va_up_ne _ _ (by decide)]; exact e3_427
  have e4_428 : en_428 4 = .inl (cy 0, 4, .inl (fun _ => 0)) := by rw [hen_428, va_up_ne _ _ (by decide)]; exact e4_427
  have e5_428 : en_428 5 = .inl (cy 0, 160, .inl (fun _ => 0)) := by rw [hen_428, va_up_ne _ _ (by decide)]; exact e5_427
  have e6_428 : en_428 6 = .inl (cy 1, 117, .inr (.inl (fun _ => 0))) := by rw [hen_428, va_up_ne _ _ (by decide)]; exact e6_427
  have e7_428 : en_428 7 = .inl (cy 0, 13, .inl (fun _ => 0)) := by rw [hen_428, va_up_ne _ _ (by decide)]; exact e7_427
  have e8_428 : en_428 8 = .inl (cy 1, 6, .inr (.inl (fun _ => 0))) := by rw [hen_428, va_up_ne _ _ (by decide)]; exact e8_427
  have e9_428 : en_428 9 = .inl (cy 1, 6, .inr (.inl (fun _ => 0))) := by rw [hen_428, va_up_ne _ _ (by decide)]; exact e9_427
  have e10_428 : en_428 10 = .inl (cy 0, 12, .inl (fun _ => 0)) := by rw [hen_428, va_up_ne _ _ (by decide)]; exact e10_427
  have e11_428 : en_428 11 = .inl (cy 0, 12, .inl (fun _ => 0)) := by rw [hen_428, va_up_ne _ _ (by decide)]; exact e11_427
  have e12_428 : en_428 12 = .inl (cy 0, 12, .inl (fun _ => 0)) := by rw [hen_428, va_up_ne _ _ (by decide)]; exact e12_427
  have e13_428 : en_428 13 = .inl (cy 0, 12, .inl (fun _ => 0)) := by rw [hen_428, va_up_ne _ _ (by decide)]; exact e13_427
  have e14_428 : en_428 14 = .inl (cy 1, 18009, .inr (.inl (fun _ => 0))) := by rw [hen_428, va_up_ne _ _ (by decide)]; exact e14_427
  have e15_428 : en_428 15 = .inl (cy 0, 2001, .inl (fun _ => 0)) := by rw [hen_428, va_up_ne _ _ (by decide)]; exact e15_427
  have e16_428 : en_428 16 = .inl (cy 0, 4096, .inl (fun _ => 0)) := by rw [hen_428, va_up_ne _ _ (by decide)]; exact e16_427
  have e17_428 : en_428 17 = .inl (cy 0, 2001, .inl (fun _ => 0)) := by rw [hen_428, va_up_ne _ _ (by decide)]; exact e17_427
  have et_428 : en_428 0 = .inr (11, [.int 0, .int 0, .int 2, .int 0, .int 0, .ref q_390, .ref q_392, .ref q_394, .ref q_400, .ref q_402, .ref q_404, .ref q_406, .ref q_408, .ref q_410, .int 0, .long 0, .long 0, .long 0, .long 0, .ref q_412, .ref q_414, .ref q_416, .int 0, .long 0, .ref q_418, .int (-9), .ref q_421, .ref q_423, .ref q_425, .ref q_427, .int 0, .null, .null]) := by rw [hen_428]; exact va_up_self _ _ _
  refine lv_aload_n hx hb dX12_init_174 rfl (lv_at hl 0 rfl) ?_
  refine lv_bipush (v := 120) hx hb dX12_init_175 (by decide) ?_
  refine hq_newa (atype := .int) (ty := .int) hx hb (hts _ tw_121) rfl hK hh hA 0 rfl (N' := 120) (a0 := (120, .inl (fun _ => 0))) (fun _ => rfl) (by decide) (by decide) (by decide) (Nat.le_of_ble_eq_true rfl) (Nat.le_of_ble_eq_true rfl) dX12_init_177 (fun q_429 H ad_429 en_429 had_429 hen_429 hh => ?_)
  have hh : Hp D A A s.heap H _ (List.range 19) ad_429 en_429 := hh
  have et_429 : en_429 0 = .inr (11, [.int 0, .int 0, .int 2, .int 0, .int 0, .ref q_390, .ref q_392, .ref q_394, .ref q_400, .ref q_402, .ref q_404, .ref q_406, .ref q_408, .ref q_410, .int 0, .long 0, .long 0, .long 0, .long 0, .ref q_412, .ref q_414, .ref q_416, .int 0, .long 0, .ref q_418, .int (-9), .ref q_421, .ref q_423, .ref q_425, .ref q_427, .int 0, .null, .null]) := by rw [hen_429, va_up_ne _ _ (by decide)]; exact et_428
  have heta_429 : ad_429 0 = (ad 0) := by rw [had_429, va_up_ne _ _ (by decide)]; exact heta_427
  have e1_429 : en_429 1 = .inl (cy 0, 54, .inl (fun _ => 0)) := by rw [hen_429, va_up_ne _ _ (by decide)]; exact e1_428
  have he1a_429 : ad_429 1 = q_390 := by rw [had_429, va_up_ne _ _ (by decide)]; exact he1a_427
  have e2_429 : en_429 2 = .inl (cy 2, 36, .inl (fun _ => 0)) := by rw [hen_429, va_up_ne _ _ (by decide)]; exact e2_428
  have he2a_429 : ad_429 2 = q_392 := by rw [had_429, va_up_ne _ _ (by decide)]; exact he2a_427
  have e3_429 : en_429 3 = .inl (cy 0, 4, .inl (upd (upd (upd (upd (fun _ => 0) (0 : Int32).toNatClampNeg (-9)) (1 : Int32).toNatClampNeg (-9)) (2 : Int32).toNatClampNeg (-9)) (3 : Int32).toNatClampNeg (-9))) := by rw [hen_429, va_up_ne _ _ (by decide)]; exact e3_428
  have he3a_429 : ad_429 3 = q_394 := by rw [had_429, va_up_ne _ _ (by decide)]; exact he3a_427
  have e4_429 : en_429 4 = .inl (cy 0, 4, .inl (fun _ => 0)) := by rw [hen_429, va_up_ne _ _ (by decide)]; exact e4_428
  have he4a_429 : ad_429 4 = q_400 := by rw [had_429, va_up_ne _ _ (by decide)]; exact he4a_427
  have e5_429 : en_429 5 = .inl (cy 0, 160, .inl (fun _ => 0)) := by rw [hen_429, va_up_ne _ _ (by decide)]; exact e5_428
  have he5a_429 : ad_429 5 = q_402 := by rw [had_429, va_up_ne _ _ (by decide)]; exact he5a_427
  have e6_429 : en_429 6 = .inl (cy 1, 117, .inr (.inl (fun _ => 0))) := by rw [hen_429, va_up_ne _ _ (by decide)]; exact e6_428
  have he6a_429 : ad_429 6 = q_404 := by rw [had_429, va_up_ne _ _ (by decide)]; exact he6a_427
  have e7_429 : en_429 7 = .inl (cy 0, 13, .inl (fun _ => 0)) := by rw [hen_429, va_up_ne _ _ (by decide)]; exact e7_428
  have he7a_429 : ad_429 7 = q_406 := by rw [had_429, va_up_ne _ _ (by decide)]; exact he7a_427
  have e8_429 : en_429 8 = .inl (cy 1, 6, .inr (.inl (fun _ => 0))) := by rw [hen_429, va_up_ne _ _ (by decide)]; exact e8_428
  have he8a_429 : ad_429 8 = q_408 := by rw [had_429, va_up_ne _ _ (by decide)]; exact he8a_427
  have e9_429 : en_429 9 = .inl (cy 1, 6, .inr (.inl (fun _ => 0))) := by rw [hen_429, va_up_ne _ _ (by decide)]; exact e9_428
  have he9a_429 : ad_429 9 = q_410 := by rw [had_429, va_up_ne _ _ (by decide)]; exact he9a_427
  have e10_429 : en_429 10 = .inl (cy 0, 12, .inl (fun _ => 0)) := by rw [hen_429, va_up_ne _ _ (by decide)]; exact e10_428
  have he10a_429 : ad_429 10 = q_412 := by rw [had_429, va_up_ne _ _ (by decide)]; exact he10a_427
  have e11_429 : en_429 11 = .inl (cy 0, 12, .inl (fun _ => 0)) := by rw [hen_429, va_up_ne _ _ (by decide)]; exact e11_428
  have he11a_429 : ad_429 11 = q_414 := by rw [had_429, va_up_ne _ _ (by decide)]; exact he11a_427
  have e12_429 : en_429 12 = .inl (cy 0, 12, .inl (fun _ => 0)) := by rw [hen_429, va_up_ne _ _ (by decide)]; exact e12_428
  have he12a_429 : ad_429 12 = q_416 := by rw [had_429, va_up_ne _ _ (by decide)]; exact he12a_427
  have e13_429 : en_429 13 = .inl (cy 0, 12, .inl (fun _ => 0)) := by rw [hen_429, va_up_ne _ _ (by decide)]; exact e13_428
  have he13a_429 : ad_429 13 = q_418 := by rw [had_429, va_up_ne _ _ (by decide)]; exact he13a_427
  have e14_429 : en_429 14 = .inl (cy 1, 18009, .inr (.inl (fun _ => 0))) := by rw [hen_429, va_up_ne _ _ (by decide)]; exact e14_428
  have he14a_429 : ad_429 14 = q_421 := by rw [had_429, va_up_ne _ _ (by decide)]; exact he14a_427
  have e15_429 : en_429 15 = .inl (cy 0, 2001, .inl (fun _ => 0)) := by rw [hen_429, va_up_ne _ _ (by decide)]; exact e15_428
  have he15a_429 : ad_429 15 = q_423 := by rw [had_429, va_up_ne _ _ (by decide)]; exact he15a_427
  have e16_429 : en_429 16 = .inl (cy 0, 4096, .inl (fun _ => 0)) := by rw [hen_429, va_up_ne _ _ (by decide)]; exact e16_428
  have he16a_429 : ad_429 16 = q_425 := by rw [had_429, va_up_ne _ _ (by decide)]; exact he16a_427
  have e17_429 : en_429 17 = .inl (cy 0, 2001, .inl (fun _ => 0)) := by rw [hen_429, va_up_ne _ _ (by decide)]; exact e17_428
  have he17a_429 : ad_429 17 = q_427 := by rw [had_429, va_up_ne _ _ (by decide)]; exact he17a_427
  have e18_429 : en_429 18 = .inl (cy 0, 120, .inl (fun _ => 0)) := by rw [hen_429]; exact va_up_self _ _ _
  have he18a_429 : ad_429 18 = q_429 := by rw [had_429]; exact va_up_self _ _ _
  refine W.widen (k := 18) (n := 26675) (Nat.le_refl _) (Nat.le_refl _) ?_
  refine hp_putF hx hb hts ix12 tyX12 tyX12_ok nmX12 hown hK hh (q := 0) heta_429 (List.mem_range.mpr (by decide)) et_429 rfl 31 (by decide) (hts _ tw_910) (fun _ h9 => h9) rfl hin rfl (ty := (.array .int)) (by decide +kernel) rfl rfl (Nat.le_of_ble_eq_true rfl) dX12_init_179 (fun H locs en_430 hen_430 hh => ?_)
  have e1_430 : en_430 1 = .inl (cy 0, 54, .inl (fun _ => 0)) := by rw [hen_430, va_up_ne _ _ (by decide)]; exact e1_429
  have e2_430 : en_430 2 = .inl (cy 2, 36, .inl (fun _ => 0)) := by rw [hen_430, va_up_ne _ _ (by decide)]; exact e2_429
  have e3_430 : en_430 3 = .inl (cy 0, 4, .inl (upd (upd (upd (upd (fun _ => 0) (0 : Int32).toNatClampNeg (-9)) (1 : Int32).toNatClampNeg (-9)) (2 : Int32).toNatClampNeg (-9)) (3 : Int32).toNatClampNeg (-9))) := by rw [hen_430, va_up_ne _ _ (by decide)]; exact e3_429
  have e4_430 : en_430 4 = .inl (cy 0, 4, .inl (fun _ => 0)) := by rw [hen_430, va_up_ne _ _ (by decide)]; exact e4_429
  have e5_430 : en_430 5 = .inl (cy 0, 160, .inl (fun _ => 0)) := by rw [hen_430, va_up_ne _ _ (by decide)]; exact e5_429
  have e6_430 : en_430 6 = .inl (cy 1, 117, .inr (.inl (fun _ => 0))) := by rw [hen_430, va_up_ne _ _ (by decide)]; exact e6_429
  have e7_430 : en_430 7 = .inl (cy 0, 13, .inl (fun _ => 0)) := by rw [hen_430, va_up_ne _ _ (by decide)]; exact e7_429
  have e8_430 : en_430 8 = .inl (cy 1, 6, .inr (.inl (fun _ => 0))) := by rw [hen_430, va_up_ne _ _ (by decide)]; exact e8_429
  have e9_430 : en_430 9 = .inl (cy 1, 6, .inr (.inl (fun _ => 0))) := by rw [hen_430, va_up_ne _ _ (by decide)]; exact e9_429
  have e10_430 : en_430 10 = .inl (cy 0, 12, .inl (fun _ => 0)) := by rw [hen_430, va_up_ne _ _ (by decide)]; exact e10_429
  have e11_430 : en_430 11 = .inl (cy 0, 12, .inl (fun _ => 0)) := by rw [hen_430, va_up_ne _ _ (by decide)]; exact e11_429
  have e12_430 : en_430 12 = .inl (cy 0, 12, .inl (fun _ => 0)) := by rw [hen_430, va_up_ne _ _ (by decide)]; exact e12_429
  have e13_430 : en_430 13 = .inl (cy 0, 12, .inl (fun _ => 0)) := by rw [hen_430, va_up_ne _ _ (by decide)]; exact e13_429
  have e14_430 : en_430 14 = .inl (cy 1, 18009, .inr (.inl (fun _ => 0))) := by rw [hen_430, va_up_ne _ _ (by decide)]; exact e14_429
  have e15_430 : en_430 15 = .inl (cy 0, 2001, .inl (fun _ => 0)) := by rw [hen_430, va_up_ne _ _ (by decide)]; exact e15_429
  have e16_430 : en_430 16 = .inl (cy 0, 4096, .inl (fun _ => 0)) := by rw [hen_430, va_up_ne _ _ (by decide)]; exact e16_429
  have e17_430 : en_430 17 = .inl (cy 0, 2001, .inl (fun _ => 0)) := by rw [hen_430, va_up_ne _ _ (by decide)]; exact e17_429
  have e18_430 : en_430 18 = .inl (cy 0, 120, .inl (fun _ => 0)) := by rw [hen_430, va_up_ne _ _ (by decide)]; exact e18_429
  have et_430 : en_430 0 = .inr (11, [.int 0, .int 0, .int 2, .int 0, .int 0, .ref q_390, .ref q_392, .ref q_394, .ref q_400, .ref q_402, .ref q_404, .ref q_406, .ref q_408, .ref q_410, .int 0, .long 0, .long 0, .long 0, .long 0, .ref q_412, .ref q_414, .ref q_416, .int 0, .long 0, .ref q_418, .int (-9), .ref q_421, .ref q_423, .ref q_425, .ref q_427, .int 0, .ref q_429, .null]) := by rw [hen_430]; exact va_up_self _ _ _
  refine lv_aload_n hx hb dX12_init_182 rfl (lv_at hl 0 rfl) ?_
  refine lv_bipush (v := 10) hx hb dX12_init_183 (by decide) ?_
  refine hq_newa (atype := .int) (ty := .int) hx hb (hts _ tw_121) rfl hK hh hA 0 rfl (N' := 10) (a0 := (10, .inl (fun _ => 0))) (fun _ => rfl) (by decide) (by decide) (by decide) (Nat.le_of_ble_eq_true rfl) (Nat.le_of_ble_eq_true rfl) dX12_init_185 (fun q_431 H ad_431 en_431 had_431 hen_431 hh => ?_)
  have hh : Hp D A A s.heap H _ (List.range 20) ad_431 en_431 := hh
  have et_431 : en_431 0 = .inr (11, [.int 0, .int 0, .int 2, .int 0, .int 0, .ref q_390, .ref q_392, .ref q_394, .ref q_400, .ref q_402, .ref q_404, .ref q_406, .ref q_408, .ref q_410, .int 0, .long 0, .long 0, .long 0, .long 0, .ref q_412, .ref q_414, .ref q_416, .int 0, .long 0, .ref q_418, .int (-9), .ref q_421, .ref q_423, .ref q_425, .ref q_427, .int 0, .ref q_429, .null]) := by rw [hen_431, va_up_ne _ _ (by decide)]; exact et_430
  have heta_431 : ad_431 0 = (ad 0) := by rw [had_431, va_up_ne _ _ (by decide)]; exact heta_429
  have e1_431 : en_431 1 = .inl (cy 0, 54, .inl (fun _ => 0)) := by rw [hen_431, va_up_ne _ _ (by decide)]; exact e1_430
  have he1a_431 : ad_431 1 = q_390 := by rw [had_431, va_up_ne _ _ (by decide)]; exact he1a_429
  have e2_431 : en_431 2 = .inl (cy 2, 36, .inl (fun _ => 0)) := by rw [hen_431, va_up_ne _ _ (by decide)]; exact e2_430
  have he2a_431 : ad_431 2 = q_392 := by rw [had_431, va_up_ne _ _ (by decide)]; exact he2a_429
  have e3_431 : en_431 3 = .inl (cy 0, 4, .inl (upd (upd (upd (upd (fun _ => 0) (0 : Int32).toNatClampNeg (-9)) (1 : Int32).toNatClampNeg (-9)) (2 : Int32).toNatClampNeg (-9)) (3 : Int32).toNatClampNeg (-9))) := by rw [hen_431, va_up_ne _ _ (by decide)]; exact e3_430
  have he3a_431 : ad_431 3 = q_394 := by rw [had_431, va_up_ne _ _ (by decide)]; exact he3a_429
  have e4_431 : en_431 4 = .inl (cy 0, 4, .inl (fun _ => 0)) := by rw [hen_431, va_up_ne _ _ (by decide)]; exact e4_430
  have he4a_431 : ad_431 4 = q_400 := by rw [had_431, va_up_ne _ _ (by decide)]; exact he4a_429
  have e5_431 : en_431 5 = .inl (cy 0, 160, .inl (fun _ => 0)) := by rw [hen_431, va_up_ne _ _ (by decide)]; exact e5_430
  have he5a_431 : ad_431 5 = q_402 := by rw [had_431, va_up_ne _ _ (by decide)]; exact he5a_429
  have e6_431 : en_431 6 = .inl (cy 1, 117, .inr (.inl (fun _ => 0))) := by rw [hen_431, va_up_ne _ _ (by decide)]; exact e6_430
  have he6a_431 : ad_431 6 = q_404 := by rw [had_431, va_up_ne _ _ (by decide)]; exact he6a_429
  have e7_431 : en_431 7 = .inl (cy 0, 13, .inl (fun _ => 0)) := by rw [hen_431, va_up_ne _ _ (by decide)]; exact e7_430
  have he7a_431 : ad_431 7 = q_406 := by rw [had_431, va_up_ne _ _ (by decide)]; exact he7a_429
  have e8_431 : en_431 8 = .inl (cy 1, 6, .inr (.inl (fun _ => 0))) := by rw [hen_431, va_up_ne _ _ (by decide)]; exact e8_430
  have he8a_431 : ad_431 8 = q_408 := by rw [had_431, va_up_ne _ _ (by decide)]; exact he8a_429
  have e9_431 : en_431 9 = .inl (cy 1, 6, .inr (.inl (fun _ => 0))) := by rw [hen_431, va_up_ne _ _ (by decide)]; exact e9_430
  have he9a_431 : ad_431 9 = q_410 := by rw [had_431, va_up_ne _ _ (by decide)]; exact he9a_429
  have e10_431 : en_431 10 = .inl (cy 0, 12, .inl (fun _ => 0)) := by rw [hen_431, va_up_ne _ _ (by decide)]; exact e10_430
  have he10a_431 : ad_431 10 = q_412 := by rw [had_431, va_up_ne _ _ (by decide)]; exact he10a_429
  have e11_431 : en_431 11 = .inl (cy 0, 12, .inl (fun _ => 0)) := by rw [hen_431, va_up_ne _ _ (by decide)]; exact e11_430
  have he11a_431 : ad_431 11 = q_414 := by rw [had_431, va_up_ne _ _ (by decide)]; exact he11a_429
  have e12_431 : en_431 12 = .inl (cy 0, 12, .inl (fun _ => 0)) := by rw [hen_431, va_up_ne _ _ (by decide)]; exact e12_430
  have he12a_431 : ad_431 12 = q_416 := by rw [had_431, va_up_ne _ _ (by decide)]; exact he12a_429
  have e13_431 : en_431 13 = .inl (cy 0, 12, .inl (fun _ => 0)) := by rw [hen_431, va_up_ne _ _ (by decide)]; exact e13_430
  have he13a_431 : ad_431 13 = q_418 := by rw [had_431, va_up_ne _ _ (by decide)]; exact he13a_429
  have e14_431 : en_431 14 = .inl (cy 1, 18009, .inr (.inl (fun _ => 0))) := by rw [hen_431, va_up_ne _ _ (by decide)]; exact e14_430
  have he14a_431 : ad_431 14 = q_421 := by rw [had_431, va_up_ne _ _ (by decide)]; exact he14a_429
  have e15_431 : en_431 15 = .inl (cy 0, 2001, .inl (fun _ => 0)) := by rw [hen_431, va_up_ne _ _ (by decide)]; exact e15_430
  have he15a_431 : ad_431 15 = q_423 := by rw [had_431, va_up_ne _ _ (by decide)]; exact he15a_429
  have e16_431 : en_431 16 = .inl (cy 0, 4096, .inl (fun _ => 0)) := by rw [hen_431, va_up_ne _ _ (by decide)]; exact e16_430
  have he16a_431 : ad_431 16 = q_425 := by rw [had_431, va_up_ne _ _ (by decide)]; exact he16a_429
  have e17_431 : en_431 17 = .inl (cy 0, 2001, .inl (fun _ => 0)) := by rw [hen_431, va_up_ne _ _ (by decide)]; exact e17_430
  have he17a_431 : ad_431 17 = q_427 := by rw [had_431, va_up_ne _ _ (by decide)]; exact he17a_429
  have e18_431 : en_431 18 = .inl (cy 0, 120, .inl (fun _ => 0)) := by rw [hen_431, va_up_ne _ _ (by decide)]; exact e18_430
  have he18a_431 : ad_431 18 = q_429 := by rw [had_431, va_up_ne _ _ (by decide)]; exact he18a_429
  have e19_431 : en_431 19 = .inl (cy 0, 10, .inl (fun _ => 0)) := by rw [hen_431]; exact va_up_self _ _ _
  have he19a_431 : ad_431 19 = q_431 := by rw [had_431]; exact va_up_self _ _ _
  refine W.widen (k := 19) (n := 26685) (Nat.le_refl _) (Nat.le_refl _) ?_
  refine hp_putF hx hb hts ix12 tyX12 tyX12_ok nmX12 hown hK hh (q := 0) heta_431 (List.mem_range.mpr (by decide)) et_431 rfl 32 (by decide) (hts _ tw_911) (fun _ h9 => h9) rfl hin rfl (ty := (.array .int)) (by decide +kernel) rfl rfl (Nat.le_of_ble_eq_true rfl) dX12_init_187 (fun H locs en_432 hen_432 hh => ?_)
  have e1_432 : en_432 1 = .inl (cy 0, 54, .inl (fun _ => 0)) := by rw [hen_432, va_up_ne _ _ (by decide)]; exact e1_431
  have e2_432 : en_432 2 = .inl (cy 2, 36, .inl (fun _ => 0)) := by rw [hen_432, va_up_ne _ _ (by decide)]; exact e2_431
  have e3_432 : en_432 3 = .inl (cy 0, 4, .inl (upd (upd (upd (upd (fun _ => 0) (0 : Int32).toNatClampNeg (-9)) (1 : Int32).toNatClampNeg (-9)) (2 : Int32).toNatClampNeg (-9)) (3 : Int32).toNatClampNeg (-9))) := by rw [hen_432, va_up_ne _ _ (by decide)]; exact e3_431
  have e4_432 : en_432 4 = .inl (cy 0, 4, .inl (fun _ => 0)) := by rw [hen_432, va_up_ne _ _ (by decide)]; exact e4_431
  have e5_432 : en_432 5 = .inl (cy 0, 160, .inl (fun _ => 0)) := by rw [hen_432, va_up_ne _ _ (by decide)]; exact e5_431
  have e6_432 : en_432 6 = .inl (cy 1, 117, .inr (.inl (fun _ => 0))) := by rw [hen_432, va_up_ne _ _ (by decide)]; exact e6_431
  have e7_432 : en_432 7 = .inl (cy 0, 13, .inl (fun _ => 0)) := by rw [hen_432, va_up_ne _ _ (by decide)]; exact e7_431
  have e8_432 : en_432 8 = .inl (cy 1, 6, .inr (.inl (fun _ => 0))) := by rw [hen_432, va_up_ne _ _ (by decide)]; exact e8_431
  have e9_432 : en_432 9 = .inl (cy 1, 6, .inr (.inl (fun _ => 0))) := by rw [hen_432, va_up_ne _ _ (by decide)]; exact e9_431
  have e10_432 : en_432 10 = .inl (cy 0, 12, .inl (fun _ => 0)) := by rw [hen_432, va_up_ne _ _ (by decide)]; exact e10_431
  have e11_432 : en_432 11 = .inl (cy 0, 12, .inl (fun _ => 0)) := by rw [hen_432, va_up_ne _ _ (by decide)]; exact e11_431
  have e12_432 : en_432 12 = .inl (cy 0, 12, .inl (fun _ => 0)) := by rw [hen_432, va_up_ne _ _ (by decide)]; exact e12_431
  have e13_432 : en_432 13 = .inl (cy 0, 12, .inl (fun _ => 0)) := by rw [hen_432, va_up_ne _ _ (by decide)]; exact e13_431
  have e14_432 : en_432 14 = .inl (cy 1, 18009, .inr (.inl (fun _ => 0))) := by rw [hen_432, va_up_ne _ _ (by decide)]; exact e14_431
  have e15_432 : en_432 15 = .inl (cy 0, 2001, .inl (fun _ => 0)) := by rw [hen_432, va_up_ne _ _ (by decide)]; exact e15_431
  have e16_432 : en_432 16 = .inl (cy 0, 4096, .inl (fun _ => 0)) := by rw [hen_432, va_up_ne _ _ (by decide)]; exact e16_431
  have e17_432 : en_432 17 = .inl (cy 0, 2001, .inl (fun _ => 0)) := by rw [hen_432, va_up_ne _ _ (by decide)]; exact e17_431
  have e18_432 : en_432 18 = .inl (cy 0, 120, .inl (fun _ => 0)) := by rw [hen_432, va_up_ne _ _ (by decide)]; exact e18_431
  have e19_432 : en_432 19 = .inl (cy 0, 10, .inl (fun _ => 0)) := by rw [hen_432, va_up_ne _ _ (by decide)]; exact e19_431
  have et_432 : en_432 0 = .inr (11, [.int 0, .int 0, .int 2, .int 0, .int 0, .ref q_390, .ref q_392, .ref q_394, .ref q_400, .ref q_402, .ref q_404, .ref q_406, .ref q_408, .ref q_410, .int 0, .long 0, .long 0, .long 0, .long 0, .ref q_412, .ref q_414, .ref q_416, .int 0, .long 0, .ref q_418, .int (-9), .ref q_421, .ref q_423, .ref q_425, .ref q_427, .int 0, .ref q_429, .ref q_431]) := by rw [hen_432]; exact va_up_self _ _ _
  exact hq_vret hx hb hr hlocks hh (⟨(fun i hi => by dsimp only; rw [had_431, va_up_ne _ _ (Nat.ne_of_lt (Nat.lt_of_lt_of_le hi (by decide))), had_429, va_up_ne _ _ (Nat.ne_of_lt (Nat.lt_of_lt_of_le hi (by decide))), had_427, va_up_ne _ _ (Nat.ne_of_lt (Nat.lt_of_lt_of_le hi (by decide))), had_425, va_up_ne _ _ (Nat.ne_of_lt (Nat.lt_of_lt_of_le hi (by decide))), had_423, va_up_ne _ _ (Nat.ne_of_lt (Nat.lt_of_lt_of_le hi (by decide))), had_421, va_up_ne _ _ (Nat.ne_of_lt (Nat.lt_of_lt_of_le hi (by decide))), had_418, va_up_ne _ _ (Nat.ne_of_lt (Nat.lt_of_lt_of_le hi (by decide))), had_416, va_up_ne _ _ (Nat.ne_of_lt (Nat.lt_of_lt_of_le hi (by decide))), had_414, va_up_ne _ _ (Nat.ne_of_lt (Nat.lt_of_lt_of_le hi (by decide))), had_412, va_up_ne _ _ (Nat.ne_of_lt (Nat.lt_of_lt_of_le hi (by decide))), had_410, va_up_ne _ _ (Nat.ne_of_lt (Nat.lt_of_lt_of_le hi (by decide))), had_408, va_up_ne _ _ (Nat.ne_of_lt (Nat.lt_of_lt_of_le hi (by decide))), had_406, va_up_ne _ _ (Nat.ne_of_lt (Nat.lt_of_lt_of_le hi (by decide))), had_404, va_up_ne _ _ (Nat.ne_of_lt (Nat.lt_of_lt_of_le hi (by decide))), had_402, va_up_ne _ _ (Nat.ne_of_lt (Nat.lt_of_lt_of_le hi (by decide))), had_400, va_up_ne _ _ (Nat.ne_of_lt (Nat.lt_of_lt_of_le hi (by decide))), had_394, va_up_ne _ _ (Nat.ne_of_lt (Nat.lt_of_lt_of_le hi (by decide))), had_392, va_up_ne _ _ (Nat.ne_of_lt (Nat.lt_of_lt_of_le hi (by decide))), had_390, va_up_ne _ _ (Nat.ne_of_lt (Nat.lt_of_lt_of_le hi (by decide)))]), (fun i hi hne => by dsimp only; rw [hen_432, va_up_ne _ _ hne, hen_431, va_up_ne _ _ (Nat.ne_of_lt (Nat.lt_of_lt_of_le hi (by decide))), hen_430, va_up_ne _ _ hne, hen_429, va_up_ne _ _ (Nat.ne_of_lt (Nat.lt_of_lt_of_le hi (by decide))), hen_428, va_up_ne _ _ hne, hen_427, va_up_ne _ _ (Nat.ne_of_lt (Nat.lt_of_lt_of_le hi (by decide))), hen_426, va_up_ne _ _ hne, hen_425, va_up_ne _ _ (Nat.ne_of_lt (Nat.lt_of_lt_of_le hi (by decide))), hen_424, va_up_ne _ _ hne, hen_423, va_up_ne _ _ (Nat.ne_of_lt (Nat.lt_of_lt_of_le hi (by decide))), hen_422, va_up_ne _ _ hne, hen_421, va_up_ne _ _ (Nat.ne_of_lt (Nat.lt_of_lt_of_le hi (by decide))), hen_420, va_up_ne _ _ hne, hen_419, va_up_ne _ _ hne, hen_418, va_up_ne _ _ (Nat.ne_of_lt (Nat.lt_of_lt_of_le hi (by decide))), hen_417, va_up_ne _ _ hne, hen_416, va_up_ne _ _ (Nat.ne_of_lt (Nat.lt_of_lt_of_le hi (by decide))), hen_415, va_up_ne _ _ hne, hen_414, va_up_ne _ _ (Nat.ne_of_lt (Nat.lt_of_lt_of_le hi (by decide))), hen_413, va_up_ne _ _ hne, hen_412, va_up_ne _ _ (Nat.ne_of_lt (Nat.lt_of_lt_of_le hi (by decide))), hen_411, va_up_ne _ _ hne, hen_410, va_up_ne _ _ (Nat.ne_of_lt (Nat.lt_of_lt_of_le hi (by decide))), hen_409, va_up_ne _ _ hne, hen_408, va_up_ne _ _ (Nat.ne_of_lt (Nat.lt_of_lt_of_le hi (by decide))), hen_407, va_up_ne _ _ hne, hen_406, va_up_ne _ _ (Nat.ne_of_lt (Nat.lt_of_lt_of_le hi (by decide))), hen_405, va_up_ne _ _ hne, hen_404, va_up_ne _ _ (Nat.ne_of_lt (Nat.lt_of_lt_of_le hi (by decide))), hen_403, va_up_ne _ _ hne, hen_402, va_up_ne _ _ (Nat.ne_of_lt (Nat.lt_of_lt_of_le hi (by decide))), hen_401, va_up_ne _ _ hne, hen_400, va_up_ne _ _ (Nat.ne_of_lt (Nat.lt_of_lt_of_le hi (by decide))), hen_399, va_up_ne _ _ hne, hen_398, va_up_ne _ _ (Nat.ne_of_lt (Nat.lt_of_lt_of_le hi (by decide))), hen_397, va_up_ne _ _ (Nat.ne_of_lt (Nat.lt_of_lt_of_le hi (by decide))), hen_396, va_up_ne _ _ (Nat.ne_of_lt (Nat.lt_of_lt_of_le hi (by decide))), hen_395, va_up_ne _ _ (Nat.ne_of_lt (Nat.lt_of_lt_of_le hi (by decide))), hen_394, va_up_ne _ _ (Nat.ne_of_lt (Nat.lt_of_lt_of_le hi (by decide))), hen_393, va_up_ne _ _ hne, hen_392, va_up_ne _ _ (Nat.ne_of_lt (Nat.lt_of_lt_of_le hi (by decide))), hen_391, va_up_ne _ _ hne, hen_390, va_up_ne _ _ (Nat.ne_of_lt (Nat.lt_of_lt_of_le hi (by decide))), hen_389, va_up_ne _ _ hne]), (by dsimp only; rw [he1a_431, he2a_431, he3a_431, he4a_431, he5a_431, he6a_431, he7a_431, he8a_431, he9a_431, he10a_431, he11a_431, he12a_431, he13a_431, he14a_431, he15a_431, he16a_431, he17a_431, he18a_431, he19a_431]; exact et_432), e2_432, ⟨_, e3_432, fun j hj => by rcases (show j = 0 ∨ j = 1 ∨ j = 2 ∨ j = 3 by omega) with rfl | rfl | rfl | rfl <;> rfl⟩, e4_432, e5_432, e6_432, e7_432⟩) dX12_init_190
theorem kw_X12_init {R : Room} {s : State} {args : Array Value} {own : String} {idx : Nat} (hts : ∀ w ∈ TB, w.before args s = true) (hl : Cond.methodLink own idx yX12_init ∈ TB) (hR : 1 + 1 ≤ R.frames ∧ 8 + (1 + 11) + 40 * 1 ≤ R.locals) : CallB R s args own idx yX12_init cX12_init 1 none (Cond.code yX12_init cX12_init 1 none :: TB) (rmC 1 19 26685) 19 26685 0 ∧ yX12_init.name = "<init>" ∧ (Cond.instanceMethod yX12_init).before args s = true := cwI 0 hts (TB_W tw_877) rfl rfl rfl (hts _ tw_9) (hts _ hl) (hts _ tw_876) rfl (by decide +kernel) hR
