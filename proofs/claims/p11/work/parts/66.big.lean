set_option maxHeartbeats 8000000 in
set_option maxRecDepth 100000 in
/-- Closure(tables) -/
theorem c_X0_init (l : Launch) (D : va_G) (cy : Nat → ClassId) (sz : Nat) (ad : Nat → Nat) (en : Nat → va_E)  (et : en 70 = .inr (0, [.null, .null, .null, .null, .null, .null, .null, .int 0, .int 0, .int 0, .int 0, .int 0, .int 0])) : Met l yX0_init (Cond.code yX0_init cX0_init 2 none :: TB) (rmC 1 3 27) (va_Pc [.ref (ad 70), .ref (ad 1)] (PreC D cy 71 ad en sz)) (va_Qv (S := (Nat → Nat) × (Nat → va_E)) (fun u => (∀ i, i < 71 → u.1 i = ad i) ∧ (∀ i, i < 71 → i ≠ 70 → u.2 i = en i) ∧ u.2 70 = .inr (0, [.ref (u.1 1), .ref (u.1 71), .ref (u.1 72), .ref (u.1 73), .null, .null, .null, .int 0, .int 0, .int 0, .int 0, .int 0, .int 0]) ∧ u.2 71 = .inl (cy 1, 9, .inr (.inl (fun _ => 0))) ∧ u.2 72 = .inl (cy 1, 9, .inr (.inl (fun _ => 0))) ∧ u.2 73 = .inl (cy 1, 9, .inr (.inl (fun _ => 0)))) (PostC D 74 (Af (List.range 71) ad sz)) (Af (List.range 71) ad sz)) 3 27 (Af (List.range 71) ad sz) := by
  refine Met.ofW (cc := cX0_init) (maxL := 2) (ret := none) (by decide) rfl ?_
  intro p e s m args below meth c s₁ B hml hv
  obtain ⟨rfl, ⟨hsz, hP, hK, hD0⟩, hX⟩ := hv
  have hx := B.exec
  have hb := B.bytes
  have hr := B.returns
  have hts : ∀ w ∈ TB, w.before _ s = true := fun w h => atoms_spec (ws := _ :: TB) B.pre w (List.mem_cons_of_mem _ h)
  have hown : s.vm.findClass RX0 = some m.cls := findClass_of_methodNamed B.named
  have hlocks := B.notSynchronized
  have hin : meth.name = "<init>" := (name_of_methodNamed B.named B.method).1
  have hh : Hp D (Af (List.range 71) ad sz) (Af (List.range 71) ad sz) s.heap s.heap [] (List.range 71) ad en := ⟨hP, Af_self hD0, va_S.rf⟩
  have hA : ∀ q : Nat, s.heap.size ≤ q → (Af (List.range 71) ad sz) q := fun q h => Or.inr (by rw [hsz] at h; exact h)
  generalize (Af (List.range 71) ad sz) = A at hh hA ⊢
  have hl := lv_entry ([.ref (ad 70), .ref (ad 1)]) (n := 2) (Nat.le_of_ble_eq_true rfl)
  rw [lg_entry_eq]
  generalize (lg_sl ([.ref (ad 70), .ref (ad 1)]) ++ List.replicate (2 - (lg_sl ([.ref (ad 70), .ref (ad 1)])).length) Slot.unset).toArray = ls at hl ⊢
  have hl : lv_has ls 2 [(0, .ref (ad 70)), (1, .ref (ad 1))] := hl
  refine lv_aload_n hx hb dX0_init_0 rfl (lv_at hl 0 rfl) ?_
  refine W.objInit hx hb hown (hts _ tw_146) (hts _ tw_23) (hts _ tw_24) rfl (by rw [hml]; exact hl.1) rfl dX0_init_1 (Nat.le_of_ble_eq_true rfl) (Nat.le_of_ble_eq_true rfl) ?_
  refine W.eq (g2 := F0 m 4 ls []) rfl ?_
  refine lv_aload_n hx hb dX0_init_4 rfl (lv_at hl 0 rfl) ?_
  refine lv_bipush (v := 9) hx hb dX0_init_5 (by decide) ?_
  refine hq_newa (atype := .long) (ty := .long) hx hb (hts _ tw_61) rfl hK hh hA 1 rfl (N' := 9) (a0 := (9, .inr (.inl (fun _ => 0)))) (fun _ => rfl) (by decide) (by decide) (by decide) (Nat.le_of_ble_eq_true rfl) (Nat.le_of_ble_eq_true rfl) dX0_init_7 (fun q_345 H ad_345 en_345 had_345 hen_345 hh => ?_)
  have hh : Hp D A A s.heap H _ (List.range 72) ad_345 en_345 := hh
  have et_345 : en_345 70 = .inr (0, [.null, .null, .null, .null, .null, .null, .null, .int 0, .int 0, .int 0, .int 0, .int 0, .int 0]) := by rw [hen_345, va_up_ne _ _ (by decide)]; exact et
  have heta_345 : ad_345 70 = (ad 70) := by rw [had_345, va_up_ne _ _ (by decide)]
  have hex1a_345 : ad_345 1 = (ad 1) := by rw [had_345, va_up_ne _ _ (by decide)]
  have e71_345 : en_345 71 = .inl (cy 1, 9, .inr (.inl (fun _ => 0))) := by rw [hen_345]; exact va_up_self _ _ _
  have he71a_345 : ad_345 71 = q_345 := by rw [had_345]; exact va_up_self _ _ _
  refine W.widen (k := 1) (n := 9) (Nat.le_refl _) (Nat.le_refl _) ?_
  refine hp_putF hx hb hts ix0 tyX0 tyX0_ok nmX0 hown hK hh (q := 70) heta_345 (List.mem_range.mpr (by decide)) et_345 rfl 1 (by decide) (hts _ tw_148) (fun _ h9 => h9) rfl hin rfl (ty := (.array .long)) (by decide +kernel) rfl rfl (Nat.le_of_ble_eq_true rfl) dX0_init_9 (fun H locs en_346 hen_346 hh => ?_)
  have e71_346 : en_346 71 = .inl (cy 1, 9, .inr (.inl (fun _ => 0))) := by rw [hen_346, va_up_ne _ _ (by decide)]; exact e71_345
  have et_346 : en_346 70 = .inr (0, [.null, .ref q_345, .null, .null, .null, .null, .null, .int 0, .int 0, .int 0, .int 0, .int 0, .int 0]) := by rw [hen_346]; exact va_up_self _ _ _
  clear et_345 e71_345
  refine lv_aload_n hx hb dX0_init_12 rfl (lv_at hl 0 rfl) ?_
  refine lv_bipush (v := 9) hx hb dX0_init_13 (by decide) ?_
  refine hq_newa (atype := .long) (ty := .long) hx hb (hts _ tw_61) rfl hK hh hA 1 rfl (N' := 9) (a0 := (9, .inr (.inl (fun _ => 0)))) (fun _ => rfl) (by decide) (by decide) (by decide) (Nat.le_of_ble_eq_true rfl) (Nat.le_of_ble_eq_true rfl) dX0_init_15 (fun q_347 H ad_347 en_347 had_347 hen_347 hh => ?_)
  have hh : Hp D A A s.heap H _ (List.range 73) ad_347 en_347 := hh
  have et_347 : en_347 70 = .inr (0, [.null, .ref q_345, .null, .null, .null, .null, .null, .int 0, .int 0, .int 0, .int 0, .int 0, .int 0]) := by rw [hen_347, va_up_ne _ _ (by decide)]; exact et_346
  have heta_347 : ad_347 70 = (ad 70) := by rw [had_347, va_up_ne _ _ (by decide)]; exact heta_345
  have hex1a_347 : ad_347 1 = (ad 1) := by rw [had_347, va_up_ne _ _ (by decide)]; exact hex1a_345
  have e71_347 : en_347 71 = .inl (cy 1, 9, .inr (.inl (fun _ => 0))) := by rw [hen_347, va_up_ne _ _ (by decide)]; exact e71_346
  have he71a_347 : ad_347 71 = q_345 := by rw [had_347, va_up_ne _ _ (by decide)]; exact he71a_345
  have e72_347 : en_347 72 = .inl (cy 1, 9, .inr (.inl (fun _ => 0))) := by rw [hen_347]; exact va_up_self _ _ _
  have he72a_347 : ad_347 72 = q_347 := by rw [had_347]; exact va_up_self _ _ _
  clear heta_345 hex1a_345 he71a_345 e71_346 et_346
  refine W.widen (k := 2) (n := 18) (Nat.le_refl _) (Nat.le_refl _) ?_
  refine hp_putF hx hb hts ix0 tyX0 tyX0_ok nmX0 hown hK hh (q := 70) heta_347 (List.mem_range.mpr (by decide)) et_347 rfl 2 (by decide) (hts _ tw_149) (fun _ h9 => h9) rfl hin rfl (ty := (.array .long)) (by decide +kernel) rfl rfl (Nat.le_of_ble_eq_true rfl) dX0_init_17 (fun H locs en_348 hen_348 hh => ?_)
  have e71_348 : en_348 71 = .inl (cy 1, 9, .inr (.inl (fun _ => 0))) := by rw [hen_348, va_up_ne _ _ (by decide)]; exact e71_347
  have e72_348 : en_348 72 = .inl (cy 1, 9, .inr (.inl (fun _ => 0))) := by rw [hen_348, va_up_ne _ _ (by decide)]; exact e72_347
  have et_348 : en_348 70 = .inr (0, [.null, .ref q_345, .ref q_347, .null, .null, .null, .null, .int 0, .int 0, .int 0, .int 0, .int 0, .int 0]) := by rw [hen_348]; exact va_up_self _ _ _
  clear et_347 e71_347 e72_347
  refine lv_aload_n hx hb dX0_init_20 rfl (lv_at hl 0 rfl) ?_
  refine lv_bipush (v := 9) hx hb dX0_init_21 (by decide) ?_
  refine hq_newa (atype := .long) (ty := .long) hx hb (hts _ tw_61) rfl hK hh hA 1 rfl (N' := 9) (a0 := (9, .inr (.inl (fun _ => 0)))) (fun _ => rfl) (by decide) (by decide) (by decide) (Nat.le_of_ble_eq_true rfl) (Nat.le_of_ble_eq_true rfl) dX0_init_23 (fun q_349 H ad_349 en_349 had_349 hen_349 hh => ?_)
  have hh : Hp D A A s.heap H _ (List.range 74) ad_349 en_349 := hh
  have et_349 : en_349 70 = .inr (0, [.null, .ref q_345, .ref q_347, .null, .null, .null, .null, .int 0, .int 0, .int 0, .int 0, .int 0, .int 0]) := by rw [hen_349, va_up_ne _ _ (by decide)]; exact et_348
  have heta_349 : ad_349 70 = (ad 70) := by rw [had_349, va_up_ne _ _ (by decide)]; exact heta_347
  have hex1a_349 : ad_349 1 = (ad 1) := by rw [had_349, va_up_ne _ _ (by decide)]; exact hex1a_347
  have e71_349 : en_349 71 = .inl (cy 1, 9, .inr (.inl (fun _ => 0))) := by rw [hen_349, va_up_ne _ _ (by decide)]; exact e71_348
  have he71a_349 : ad_349 71 = q_345 := by rw [had_349, va_up_ne _ _ (by decide)]; exact he71a_347
  have e72_349 : en_349 72 = .inl (cy 1, 9, .inr (.inl (fun _ => 0))) := by rw [hen_349, va_up_ne _ _ (by decide)]; exact e72_348
  have he72a_349 : ad_349 72 = q_347 := by rw [had_349, va_up_ne _ _ (by decide)]; exact he72a_347
  have e73_349 : en_349 73 = .inl (cy 1, 9, .inr (.inl (fun _ => 0))) := by rw [hen_349]; exact va_up_self _ _ _
  have he73a_349 : ad_349 73 = q_349 := by rw [had_349]; exact va_up_self _ _ _
  clear heta_347 hex1a_347 he71a_347 he72a_347 e71_348 e72_348 et_348
  refine W.widen (k := 3) (n := 27) (Nat.le_refl _) (Nat.le_refl _) ?_
  refine hp_putF hx hb hts ix0 tyX0 tyX0_ok nmX0 hown hK hh (q := 70) heta_349 (List.mem_range.mpr (by decide)) et_349 rfl 3 (by decide) (hts _ tw_150) (fun _ h9 => h9) rfl hin rfl (ty := (.array .long)) (by decide +kernel) rfl rfl (Nat.le_of_ble_eq_true rfl) dX0_init_25 (fun H locs en_350 hen_350 hh => ?_)
  have e71_350 : en_350 71 = .inl (cy 1, 9, .inr (.inl (fun _ => 0))) := by rw [hen_350, va_up_ne _ _ (by decide)]; exact e71_349
  have e72_350 : en_350 72 = .inl (cy 1, 9, .inr (.inl (fun _ => 0))) := by rw [hen_350, va_up_ne _ _ (by decide)]; exact e72_349
  have e73_350 : en_350 73 = .inl (cy 1, 9, .inr (.inl (fun _ => 0))) := by rw [hen_350, va_up_ne _ _ (by decide)]; exact e73_349
  have et_350 : en_350 70 = .inr (0, [.null, .ref q_345, .ref q_347, .ref q_349, .null, .null, .null, .int 0, .int 0, .int 0, .int 0, .int 0, .int 0]) := by rw [hen_350]; exact va_up_self _ _ _
  clear et_349 e71_349 e72_349 e73_349
  refine lv_aload_n hx hb dX0_init_28 rfl (lv_at hl 0 rfl) ?_
  refine lv_iconst (v := 0) hx hb dX0_init_29 (by decide) ?_
  refine hp_put hx hb hts ix0 tyX0 tyX0_ok nmX0 hown hK hh (q := 70) heta_349 (List.mem_range.mpr (by decide)) et_350 rfl 7 (by decide) (hts _ tw_154) (fun _ h9 => h9) rfl (ty := .int) (by decide +kernel) rfl rfl (Nat.le_of_ble_eq_true rfl) dX0_init_30 (fun H locs en_351 hen_351 hh => ?_)
  have hid_351 : en_351 = en_350 := hen_351.trans (va_up_id et_350)
  rw [hid_351] at hh
  refine lv_aload_n hx hb dX0_init_33 rfl (lv_at hl 0 rfl) ?_
  refine lv_aload_n hx hb dX0_init_34 rfl (lv_at hl 1 rfl) ?_
  refine hp_putF hx hb hts ix0 tyX0 tyX0_ok nmX0 hown hK hh (q := 70) heta_349 (List.mem_range.mpr (by decide)) et_350 rfl 0 (by decide) (hts _ tw_147) (fun _ h9 => h9) rfl hin rfl (ty := (.object "AnyOrder$Tables")) (by decide +kernel) rfl rfl (Nat.le_of_ble_eq_true rfl) dX0_init_35 (fun H locs en_352 hen_352 hh => ?_)
  have e71_352 : en_352 71 = .inl (cy 1, 9, .inr (.inl (fun _ => 0))) := by rw [hen_352, va_up_ne _ _ (by decide)]; exact e71_350
  have e72_352 : en_352 72 = .inl (cy 1, 9, .inr (.inl (fun _ => 0))) := by rw [hen_352, va_up_ne _ _ (by decide)]; exact e72_350
  have e73_352 : en_352 73 = .inl (cy 1, 9, .inr (.inl (fun _ => 0))) := by rw [hen_352, va_up_ne _ _ (by decide)]; exact e73_350
  have et_352 : en_352 70 = .inr (0, [.ref (ad 1), .ref q_345, .ref q_347, .ref q_349, .null, .null, .null, .int 0, .int 0, .int 0, .int 0, .int 0, .int 0]) := by rw [hen_352]; exact va_up_self _ _ _
  exact hq_vret hx hb hr hlocks hh (⟨(fun i hi => by dsimp only; rw [had_349, va_up_ne _ _ (Nat.ne_of_lt (Nat.lt_of_lt_of_le hi (by decide))), had_347, va_up_ne _ _ (Nat.ne_of_lt (Nat.lt_of_lt_of_le hi (by decide))), had_345, va_up_ne _ _ (Nat.ne_of_lt (Nat.lt_of_lt_of_le hi (by decide)))]), (fun i hi hne => by dsimp only; rw [hen_352, va_up_ne _ _ hne, hen_350, va_up_ne _ _ hne, hen_349, va_up_ne _ _ (Nat.ne_of_lt (Nat.lt_of_lt_of_le hi (by decide))), hen_348, va_up_ne _ _ hne, hen_347, va_up_ne _ _ (Nat.ne_of_lt (Nat.lt_of_lt_of_le hi (by decide))), hen_346, va_up_ne _ _ hne, hen_345, va_up_ne _ _ (Nat.ne_of_lt (Nat.lt_of_lt_of_le hi (by decide)))]), (by dsimp only; rw [hex1a_349, he71a_349, he72a_349, he73a_349]; exact et_352), e71_352, e72_352, e73_352⟩) dX0_init_38
theorem kw_X0_init {R : Room} {s : State} {args : Array Value} {own : String} {idx : Nat} (hts : ∀ w ∈ TB, w.before args s = true) (hl : Cond.methodLink own idx yX0_init ∈ TB) (hR : 1 + 1 ≤ R.frames ∧ 8 + (2 + 11) + 40 * 1 ≤ R.locals) : CallB R s args own idx yX0_init cX0_init 2 none (Cond.code yX0_init cX0_init 2 none :: TB) (rmC 1 3 27) 3 27 1 ∧ yX0_init.name = "<init>" ∧ (Cond.instanceMethod yX0_init).before args s = true := cwI 1 hts (TB_W tw_145) rfl rfl rfl (hts _ tw_5) (hts _ hl) (hts _ tw_144) rfl (by decide +kernel) hR
set_option maxHeartbeats 8000000 in
set_option maxRecDepth 100000 in
/-- Tables() -/
theorem c_X8_init (l : Launch) (D : va_G) (cy : Nat → ClassId) (sz : Nat) (ad : Nat → Nat) (en : Nat → va_E)  (et : en 1 = .inr (7, [.null, .null, .null, .null, .int 0, .int 0, .int 0])) : Met l yX8_init (Cond.code yX8_init cX8_init 1 none :: TB) (rmC 1 10 111) (va_Pc [.ref (ad 1)] (PreC D cy 2 ad en sz)) (va_Qv (S := (Nat → Nat) × (Nat → va_E)) (fun u => (∀ i, i < 2 → u.1 i = ad i) ∧ (∀ i, i < 2 → i ≠ 1 → u.2 i = en i) ∧ u.2 1 = .inr (7, [.ref (u.1 2), .ref (u.1 3), .ref (u.1 10), .ref (u.1 11), .int 0, .int 2, .int 0]) ∧ (∃ f : Nat → Option Nat, u.2 2 = .inl (cy 3, 6, .inr (.inr (.inr (.inr f))))) ∧ u.2 3 = .inl (cy 8, 6, .inr (.inr (.inr (.inr (rfA u.1 6 4))))) ∧ (∀ j, j < 6 → u.2 (4 + j) = .inl (cy 1, 9, .inr (.inl (fun _ => 0)))) ∧ (∃ f : Nat → Int32, u.2 10 = .inl (cy 2, 36, .inl f) ∧ ∀ i, i < 36 → f i = 1) ∧ u.2 11 = .inl (cy 1, 9, .inr (.inl (fun _ => 0)))) (PostC D 12 (Af (List.range 2) ad sz)) (Af (List.range 2) ad sz)) 10 111 (Af (List.range 2) ad sz) := by
  refine Met.ofW (cc := cX8_init) (maxL := 1) (ret := none) (by decide) rfl ?_
  intro p e s m args below meth c s₁ B hml hv
  obtain ⟨rfl, ⟨hsz, hP, hK, hD0⟩, hX⟩ := hv
  have hx := B.exec
  have hb := B.bytes
  have hr := B.returns
  have hts : ∀ w ∈ TB, w.before _ s = true := fun w h => atoms_spec (ws := _ :: TB) B.pre w (List.mem_cons_of_mem _ h)
  have hown : s.vm.findClass RX8 = some m.cls := findClass_of_methodNamed B.named
  have hlocks := B.notSynchronized
  have hin : meth.name = "<init>" := (name_of_methodNamed B.named B.method).1
  have hh : Hp D (Af (List.range 2) ad sz) (Af (List.range 2) ad sz) s.heap s.heap [] (List.range 2) ad en := ⟨hP, Af_self hD0, va_S.rf⟩
  have hA : ∀ q : Nat, s.heap.size ≤ q → (Af (List.range 2) ad sz) q := fun q h => Or.inr (by rw [hsz] at h; exact h)
  generalize (Af (List.range 2) ad sz) = A at hh hA ⊢
  have hl := lv_entry ([.ref (ad 1)]) (n := 1) (Nat.le_of_ble_eq_true rfl)
  rw [lg_entry_eq]
  generalize (lg_sl ([.ref (ad 1)]) ++ List.replicate (1 - (lg_sl ([.ref (ad 1)])).length) Slot.unset).toArray = ls at hl ⊢
  have hl : lv_has ls 1 [(0, .ref (ad 1))] := hl
  refine lv_aload_n hx hb dX8_init_0 rfl (lv_at hl 0 rfl) ?_
  refine W.objInit hx hb hown (hts _ tw_30) (hts _ tw_23) (hts _ tw_24) rfl (by rw [hml]; exact hl.1) rfl dX8_init_1 (Nat.le_of_ble_eq_true rfl) (Nat.le_of_ble_eq_true rfl) ?_
  refine W.eq (g2 := F0 m 4 ls []) rfl ?_
  refine lv_aload_n hx hb dX8_init_4 rfl (lv_at hl 0 rfl) ?_
  refine lv_bipush (v := 6) hx hb dX8_init_5 (by decide) ?_
  refine hq_newq hx hb hown (hts _ tw_31) hX.1 hK hh hA 3 rfl (N' := 6) (by decide) (by decide) (by decide) (Nat.le_of_ble_eq_true rfl) (Nat.le_of_ble_eq_true rfl) dX8_init_7 (fun q_353 H ad_353 en_353 had_353 hen_353 hh => ?_)
  have hh : Hp D A A s.heap H _ (List.range 3) ad_353 en_353 := hh
  have et_353 : en_353 1 = .inr (7, [.null, .null, .null, .null, .int 0, .int 0, .int 0]) := by rw [hen_353, va_up_ne _ _ (by decide)]; exact et
  have heta_353 : ad_353 1 = (ad 1) := by rw [had_353, va_up_ne _ _ (by decide)]
  have e2_353 : en_353 2 = .inl (cy 3, 6, .inr (.inr (.inr (.inr (fun _ => none))))) := by rw [hen_353]; exact va_up_self _ _ _
  have he2a_353 : ad_353 2 = q_353 := by rw [had_353]; exact va_up_self _ _ _
  refine W.widen (k := 1) (n := 6) (Nat.le_refl _) (Nat.le_refl _) ?_
  refine hp_putF hx hb hts ix8 tyX8 tyX8_ok nmX8 hown hK hh (q := 1) heta_353 (List.mem_range.mpr (by decide)) et_353 rfl 0 (by decide) (hts _ tw_39) (fun _ h9 => h9) rfl hin rfl (ty := (.array (.object "AnyOrder$Table"))) (by decide +kernel) rfl rfl (Nat.le_of_ble_eq_true rfl) dX8_init_10 (fun H locs en_354 hen_354 hh => ?_)
  have e2_354 : en_354 2 = .inl (cy 3, 6, .inr (.inr (.inr (.inr (fun _ => none))))) := by rw [hen_354, va_up_ne _ _ (by decide)]; exact e2_353
  have et_354 : en_354 1 = .inr (7, [.ref q_353, .null, .null, .null, .int 0, .int 0, .int 0]) := by rw [hen_354]; exact va_up_self _ _ _
  clear et_353 e2_353
  refine lv_aload_n hx hb dX8_init_13 rfl (lv_at hl 0 rfl) ?_
  refine lv_bipush (v := 6) hx hb dX8_init_14 (by decide) ?_
  refine lv_bipush (v := 9) hx hb dX8_init_16 (by decide) ?_
  refine hq_mna (ty := .long) hx hb 8 1 rfl ((hK.2 1 _ rfl).2) hown (hts _ tw_33) hX.2.2.2.2.2.1 (hts _ tw_61) hK hh hA (N' := 6) (K' := 9) (z := (9, .inr (.inl (fun _ => 0)))) (by decide) (by decide) (by decide) (by decide) (by decide) (by decide) (by decide) rfl rfl (Nat.le_of_ble_eq_true rfl) (Nat.le_of_ble_eq_true rfl) (fun c => arrV_new c 9 _) dX8_init_18 (fun q_355 r_355 H ad_355 en_355 had_355 hen_355 hh => ?_)
  have hh : Hp D A A s.heap H _ (List.range 10) ad_355 en_355 := hh
  have et_355 : en_355 1 = .inr (7, [.ref q_353, .null, .null, .null, .int 0, .int 0, .int 0]) := by rw [hen_355, mEn_lt (by decide)]; exact et_354
  have heta_355 : ad_355 1 = (ad 1) := by rw [had_355, mAd_lt (by decide)]; exact heta_353
  have e2_355 : en_355 2 = .inl (cy 3, 6, .inr (.inr (.inr (.inr (fun _ => none))))) := by rw [hen_355, mEn_lt (by decide)]; exact e2_354
  have he2a_355 : ad_355 2 = q_353 := by rw [had_355, mAd_lt (by decide)]; exact he2a_353
  have e3_355 : en_355 3 = .inl (cy 8, 6, .inr (.inr (.inr (.inr (fun i => if i < 6 then some (r_355 i) else none))))) := by rw [hen_355]; exact mEn_n
  have he3a_355 : ad_355 3 = q_355 := by rw [had_355]; exact mAd_n
  have hr3_355 : ∀ i, i < 6 → ad_355 (4 + i) = r_355 i := fun i _ => by rw [had_355]; exact mAd_r i
  have hi3_355 : ∀ i, i < 6 → en_355 (4 + i) = .inl (cy 1, 9, .inr (.inl (fun _ => 0))) := fun i _ => by rw [hen_355]; exact mEn_r i
  clear heta_353 he2a_353 e2_354 et_354
  refine W.widen (k := 8) (n := 66) (Nat.le_refl _) (Nat.le_refl _) ?_
  refine hp_putF hx hb hts ix8 tyX8 tyX8_ok nmX8 hown hK hh (q := 1) heta_355 (List.mem_range.mpr (by decide)) et_355 rfl 1 (by decide) (hts _ tw_40) (fun _ h9 => h9) rfl hin rfl (ty := (.array (.array .long))) (by decide +kernel) rfl rfl (Nat.le_of_ble_eq_true rfl) dX8_init_22 (fun H locs en_356 hen_356 hh => ?_)
  have e2_356 : en_356 2 = .inl (cy 3, 6, .inr (.inr (.inr (.inr (fun _ => none))))) := by rw [hen_356, va_up_ne _ _ (by decide)]; exact e2_355
  have e3_356 : en_356 3 = .inl (cy 8, 6, .inr (.inr (.inr (.inr (fun i => if i < 6 then some (r_355 i) else none))))) := by rw [hen_356, va_up_ne _ _ (by decide)]; exact e3_355
  have hrw_356 : ∀ j, j < 6 → en_356 (4 + j) = .inl (cy 1, 9, .inr (.inl (fun _ => 0))) := fun j hj => by rw [hen_356, va_up_ne _ _ (by omega)]; exact hi3_355 j hj
  have et_356 : en_356 1 = .inr (7, [.ref q_353, .ref q_355, .null, .null, .int 0, .int 0, .int 0]) := by rw [hen_356]; exact va_up_self _ _ _
  clear et_355 e2_355 e3_355
  refine lv_aload_n hx hb dX8_init_25 rfl (lv_at hl 0 rfl) ?_
  refine lv_bipush (v := 36) hx hb dX8_init_26 (by decide) ?_
  refine hq_newa (atype := .boolean) (ty := .boolean) hx hb (hts _ tw_62) rfl hK hh hA 2 rfl (N' := 36) (a0 := (36, .inl (fun _ => 0))) (fun _ => rfl) (by decide) (by decide) (by decide) (Nat.le_of_ble_eq_true rfl) (Nat.le_of_ble_eq_true rfl) dX8_init_28 (fun q_357 H ad_357 en_357 had_357 hen_357 hh => ?_)
  have hh : Hp D A A s.heap H _ (List.range 11) ad_357 en_357 := hh
  have et_357 : en_357 1 = .inr (7, [.ref q_353, .ref q_355, .null, .null, .int 0, .int 0, .int 0]) := by rw [hen_357, va_up_ne _ _ (by decide)]; exact et_356
  have heta_357 : ad_357 1 = (ad 1) := by rw [had_357, va_up_ne _ _ (by decide)]; exact heta_355
  have e2_357 : en_357 2 = .inl (cy 3, 6, .inr (.inr (.inr (.inr (fun _ => none))))) := by rw [hen_357, va_up_ne _ _ (by decide)]; exact e2_356
  have he2a_357 : ad_357 2 = q_353 := by rw [had_357, va_up_ne _ _ (by decide)]; exact he2a_355
  have e3_357 : en_357 3 = .inl (cy 8, 6, .inr (.inr (.inr (.inr (fun i => if i < 6 then some (r_355 i) else none))))) := by rw [hen_357, va_up_ne _ _ (by decide)]; exact e3_356
  have he3a_357 : ad_357 3 = q_355 := by rw [had_357, va_up_ne _ _ (by decide)]; exact he3a_355
  have hrw_357 : ∀ j, j < 6 → en_357 (4 + j) = .inl (cy 1, 9, .inr (.inl (fun _ => 0))) := fun j hj => by rw [hen_357, va_up_ne _ _ (by omega)]; exact hrw_356 j hj
  have e10_357 : en_357 10 = .inl (cy 2, 36, .inl (fun _ => 0)) := by rw [hen_357]; exact va_up_self _ _ _
  have he10a_357 : ad_357 10 = q_357 := by rw [had_357]; exact va_up_self _ _ _
  clear heta_355 he2a_355 he3a_355 e2_356 e3_356 hrw_356 et_356
  refine W.widen (k := 9) (n := 102) (Nat.le_refl _) (Nat.le_refl _) ?_
  refine hp_putF hx hb hts ix8 tyX8 tyX8_ok nmX8 hown hK hh (q := 1) heta_357 (List.mem_range.mpr (by decide)) et_357 rfl 2 (by decide) (hts _ tw_41) (fun _ h9 => h9) rfl hin rfl (ty := (.array .boolean)) (by decide +kernel) rfl rfl (Nat.le_of_ble_eq_true rfl) dX8_init_30 (fun H locs en_358 hen_358 hh => ?_)
  have e2_358 : en_358 2 = .inl (cy 3, 6, .inr (.inr (.inr (.inr (fun _ => none))))) := by rw [hen_358, va_up_ne _ _ (by decide)]; exact e2_357
  have e3_358 : en_358 3 = .inl (cy 8, 6, .inr (.inr (.inr (.inr (fun i => if i < 6 then some (r_355 i) else none))))) := by rw [hen_358, va_up_ne _ _ (by decide)]; exact e3_357
  have e10_358 : en_358 10 = .inl (cy 2, 36, .inl (fun _ => 0)) := by rw [hen_358, va_up_ne _ _ (by decide)]; exact e10_357
  have hrw_358 : ∀ j, j < 6 → en_358 (4 + j) = .inl (cy 1, 9, .inr (.inl (fun _ => 0))) := fun j hj => by rw [hen_358, va_up_ne _ _ (by omega)]; exact hrw_357 j hj
  have et_358 : en_358 1 = .inr (7, [.ref q_353, .ref q_355, .ref q_357, .null, .int 0, .int 0, .int 0]) := by rw [hen_358]; exact va_up_self _ _ _
  clear et_357 e2_357 e3_357 hrw_357 e10_357
  refine lv_aload_n hx hb dX8_init_33 rfl (lv_at hl 0 rfl) ?_
  refine lv_bipush (v := 9) hx hb dX8_init_34 (by decide) ?_
  refine hq_newa (atype := .long) (ty := .long) hx hb (hts _ tw_61) rfl hK hh hA 1 rfl (N' := 9) (a0 := (9, .inr (.inl (fun _ => 0)))) (fun _ => rfl) (by decide) (by decide) (by decide) (Nat.le_of_ble_eq_true rfl) (Nat.le_of_ble_eq_true rfl) dX8_init_36 (fun q_359 H ad_359 en_359 had_359 hen_359 hh => ?_)
  have hh : Hp D A A s.heap H _ (List.range 12) ad_359 en_359 := hh
  have et_359 : en_359 1 = .inr (7, [.ref q_353, .ref q_355, .ref q_357, .null, .int 0, .int 0, .int 0]) := by rw [hen_359, va_up_ne _ _ (by decide)]; exact et_358
  have heta_359 : ad_359 1 = (ad 1) := by rw [had_359, va_up_ne _ _ (by decide)]; exact heta_357
  have e2_359 : en_359 2 = .inl (cy 3, 6, .inr (.inr (.inr (.inr (fun _ => none))))) := by rw [hen_359, va_up_ne _ _ (by decide)]; exact e2_358
  have he2a_359 : ad_359 2 = q_353 := by rw [had_359, va_up_ne _ _ (by decide)]; exact he2a_357
  have e3_359 : en_359 3 = .inl (cy 8, 6, .inr (.inr (.inr (.inr (fun i => if i < 6 then some (r_355 i) else none))))) := by rw [hen_359, va_up_ne _ _ (by decide)]; exact e3_358
  have he3a_359 : ad_359 3 = q_355 := by rw [had_359, va_up_ne _ _ (by decide)]; exact he3a_357
  have e10_359 : en_359 10 = .inl (cy 2, 36, .inl (fun _ => 0)) := by rw [hen_359, va_up_ne _ _ (by decide)]; exact e10_358
  have he10a_359 : ad_359 10 = q_357 := by rw [had_359, va_up_ne _ _ (by decide)]; exact he10a_357
  have hrw_359 : ∀ j, j < 6 → en_359 (4 + j) = .inl (cy 1, 9, .inr (.inl (fun _ => 0))) := fun j hj => by rw [hen_359, va_up_ne _ _ (by omega)]; exact hrw_358 j hj
  have e11_359 : en_359 11 = .inl (cy 1, 9, .inr (.inl (fun _ => 0))) := by rw [hen_359]; exact va_up_self _ _ _
  have he11a_359 : ad_359 11 = q_359 := by rw [had_359]; exact va_up_self _ _ _
  clear heta_357 he2a_357 he3a_357 he10a_357 e2_358 e3_358 e10_358 hrw_358 et_358
  refine W.widen (k := 10) (n := 111) (Nat.le_refl _) (Nat.le_refl _) ?_
  refine hp_putF hx hb hts ix8 tyX8 tyX8_ok nmX8 hown hK hh (q := 1) heta_359 (List.mem_range.mpr (by decide)) et_359 rfl 3 (by decide) (hts _ tw_42) (fun _ h9 => h9) rfl hin rfl (ty := (.array .long)) (by decide +kernel) rfl rfl (Nat.le_of_ble_eq_true rfl) dX8_init_38 (fun H locs en_360 hen_360 hh => ?_)
  have e2_360 : en_360 2 = .inl (cy 3, 6, .inr (.inr (.inr (.inr (fun _ => none))))) := by rw [hen_360, va_up_ne _ _ (by decide)]; exact e2_359
  have e3_360 : en_360 3 = .inl (cy 8, 6, .inr (.inr (.inr (.inr (fun i => if i < 6 then some (r_355 i) else none))))) := by rw [hen_360, va_up_ne _ _ (by decide)]; exact e3_359
  have e10_360 : en_360 10 = .inl (cy 2, 36, .inl (fun _ => 0)) := by rw [hen_360, va_up_ne _ _ (by decide)]; exact e10_359
  have e11_360 : en_360 11 = .inl (cy 1, 9, .inr (.inl (fun _ => 0))) := by rw [hen_360, va_up_ne _ _ (by decide)]; exact e11_359
  have hrw_360 : ∀ j, j < 6 → en_360 (4 + j) = .inl (cy 1, 9, .inr (.inl (fun _ => 0))) := fun j hj => by rw [hen_360, va_up_ne _ _ (by omega)]; exact hrw_359 j hj
  have et_360 : en_360 1 = .inr (7, [.ref q_353, .ref q_355, .ref q_357, .ref q_359, .int 0, .int 0, .int 0]) := by rw [hen_360]; exact va_up_self _ _ _
  clear et_359 e2_359 e3_359 e10_359 hrw_359 e11_359
  refine lv_aload_n hx hb dX8_init_41 rfl (lv_at hl 0 rfl) ?_
  refine lv_iconst (v := 2) hx hb dX8_init_42 (by decide) ?_
  refine hp_put hx hb hts ix8 tyX8 tyX8_ok nmX8 hown hK hh (q := 1) heta_359 (List.mem_range.mpr (by decide)) et_360 rfl 5 (by decide) (hts _ tw_44) (fun _ h9 => h9) rfl (ty := .int) (by decide +kernel) rfl rfl (Nat.le_of_ble_eq_true rfl) dX8_init_43 (fun H locs en_361 hen_361 hh => ?_)
  have e2_361 : en_361 2 = .inl (cy 3, 6, .inr (.inr (.inr (.inr (fun _ => none))))) := by rw [hen_361, va_up_ne _ _ (by decide)]; exact e2_360
  have e3_361 : en_361 3 = .inl (cy 8, 6, .inr (.inr (.inr (.inr (fun i => if i < 6 then some (r_355 i) else none))))) := by rw [hen_361, va_up_ne _ _ (by decide)]; exact e3_360
  have e10_361 : en_361 10 = .inl (cy 2, 36, .inl (fun _ => 0)) := by rw [hen_361, va_up_ne _ _ (by decide)]; exact e10_360
  have e11_361 : en_361 11 = .inl (cy 1, 9, .inr (.inl (fun _ => 0))) := by rw [hen_361, va_up_ne _ _ (by decide)]; exact e11_360
  have hrw_361 : ∀ j, j < 6 → en_361 (4 + j) = .inl (cy 1, 9, .inr (.inl (fun _ => 0))) := fun j hj => by rw [hen_361, va_up_ne _ _ (by omega)]; exact hrw_360 j hj
  have et_361 : en_361 1 = .inr (7, [.ref q_353, .ref q_355, .ref q_357, .ref q_359, .int 0, .int 2, .int 0]) := by rw [hen_361]; exact va_up_self _ _ _
  clear e2_360 e3_360 e10_360 e11_360 hrw_360 et_360
  refine lv_aload_n hx hb dX8_init_46 rfl (lv_at hl 0 rfl) ?_
  refine W.eq (g2 := F0 m 47 ls [.ref (ad_359 1)]) (by rw [heta_359]) ?_
  have ev_362 : en_361 1 = .inr (7, [.ref (ad_359 2), .ref (ad_359 3), .ref (ad_359 10), .ref (ad_359 11), .int 0, .int 2, .int 0]) := by rw [he2a_359, he3a_359, he10a_359, he11a_359]; exact et_361
  clear heta_359
  refine hp_callMv (va_runV (As := []) (rest := []) ⟨hx, hb, hml, hown, hts⟩ (c_X8_allowAll l D cy _ _ ad_359 en_361 (List.mem_range.mpr (by decide)) (List.mem_range.mpr (by decide)) 0 2 0 (fun _ => 0) ev_362 e10_361) (kw_X8_allowAll hts tw_35 ⟨by decide, by decide⟩) (preV_of hh hK (List.mem_range.mpr (by decide)) et_361 rfl) rfl rfl hl.1 rfl (lv_room (Nat.le_of_ble_eq_true rfl)) dX8_init_47 ⟨Nat.le_of_ble_eq_true rfl, Nat.le_of_ble_eq_true rfl⟩) hh hA (fun H locs en_362 hw_362 hh => ?_)
  obtain ⟨f_362, hen_362, hf9_362⟩ := hw_362
  have et_362 : en_362 1 = .inr (7, [.ref q_353, .ref q_355, .ref q_357, .ref q_359, .int 0, .int 2, .int 0]) := by rw [hen_362, va_up_ne _ _ (by decide)]; exact et_361
  have e2_362 : en_362 2 = .inl (cy 3, 6, .inr (.inr (.inr (.inr (fun _ => none))))) := by rw [hen_362, va_up_ne _ _ (by decide)]; exact e2_361
  have e3_362 : en_362 3 = .inl (cy 8, 6, .inr (.inr (.inr (.inr (fun i => if i < 6 then some (r_355 i) else none))))) := by rw [hen_362, va_up_ne _ _ (by decide)]; exact e3_361
  have e11_362 : en_362 11 = .inl (cy 1, 9, .inr (.inl (fun _ => 0))) := by rw [hen_362, va_up_ne _ _ (by decide)]; exact e11_361
  have hrw_362 : ∀ j, j < 6 → en_362 (4 + j) = .inl (cy 1, 9, .inr (.inl (fun _ => 0))) := fun j hj => by rw [hen_362, va_up_ne _ _ (by omega)]; exact hrw_361 j hj
  have e10_362 : en_362 10 = .inl (cy 2, 36, .inl f_362) := by rw [hen_362]; exact va_up_self _ _ _
  have hh := hp_refs (g := (rfA ad_359 6 4)) hh e3_362 (fun j hj => by have hj9 : 4 + j < 10 := (Nat.add_lt_add_left hj 4); show (if j < 6 then some (r_355 j) else none) = rfA ad_359 6 4 j; unfold rfA; rw [if_pos hj, if_pos hj, had_359, va_up_ne _ _ (Nat.ne_of_lt (Nat.lt_of_lt_of_le hj9 (by decide))), had_357, va_up_ne _ _ (Nat.ne_of_lt (Nat.lt_of_lt_of_le hj9 (by decide))), hr3_355 j hj])
  obtain ⟨en_363, hen_363⟩ : ∃ z, z = va_up en_362 3 (.inl (cy 8, 6, .inr (.inr (.inr (.inr (rfA ad_359 6 4)))))) := ⟨_, rfl⟩
  rw [← hen_363] at hh
  have et_363 : en_363 1 = .inr (7, [.ref q_353, .ref q_355, .ref q_357, .ref q_359, .int 0, .int 2, .int 0]) := by rw [hen_363, va_up_ne _ _ (by decide)]; exact et_362
  have e2_363 : en_363 2 = .inl (cy 3, 6, .inr (.inr (.inr (.inr (fun _ => none))))) := by rw [hen_363, va_up_ne _ _ (by decide)]; exact e2_362
  have e10_363 : en_363 10 = .inl (cy 2, 36, .inl f_362) := by rw [hen_363, va_up_ne _ _ (by decide)]; exact e10_362
  have e11_363 : en_363 11 = .inl (cy 1, 9, .inr (.inl (fun _ => 0))) := by rw [hen_363, va_up_ne _ _ (by decide)]; exact e11_362
  have hrw_363 : ∀ j, j < 6 → en_363 (4 + j) = .inl (cy 1, 9, .inr (.inl (fun _ => 0))) := fun j hj => by rw [hen_363, va_up_ne _ _ (by omega)]; exact hrw_362 j hj
  have e3_363 : en_363 3 = .inl (cy 8, 6, .inr (.inr (.inr (.inr (rfA ad_359 6 4))))) := by rw [hen_363]; exact va_up_self _ _ _
  exact hq_vret hx hb hr hlocks hh (⟨(fun i hi => by dsimp only; rw [had_359, va_up_ne _ _ (Nat.ne_of_lt (Nat.lt_of_lt_of_le hi (by decide))), had_357, va_up_ne _ _ (Nat.ne_of_lt (Nat.lt_of_lt_of_le hi (by decide))), had_355, mAd_lt (Nat.lt_of_lt_of_le hi (by decide)), had_353, va_up_ne _ _ (Nat.ne_of_lt (Nat.lt_of_lt_of_le hi (by decide)))]), (fun i hi hne => by dsimp only; rw [hen_363, va_up_ne _ _ (Nat.ne_of_lt (Nat.lt_of_lt_of_le hi (by decide))), hen_362, va_up_ne _ _ (Nat.ne_of_lt (Nat.lt_of_lt_of_le hi (by decide))), hen_361, va_up_ne _ _ hne, hen_360, va_up_ne _ _ hne, hen_359, va_up_ne _ _ (Nat.ne_of_lt (Nat.lt_of_lt_of_le hi (by decide))), hen_358, va_up_ne _ _ hne, hen_357, va_up_ne _ _ (Nat.ne_of_lt (Nat.lt_of_lt_of_le hi (by decide))), hen_356, va_up_ne _ _ hne, hen_355, mEn_lt (Nat.lt_of_lt_of_le hi (by decide)), hen_354, va_up_ne _ _ hne, hen_353, va_up_ne _ _ (Nat.ne_of_lt (Nat.lt_of_lt_of_le hi (by decide)))]), (by dsimp only; rw [he2a_359, he3a_359, he10a_359, he11a_359]; exact et_363), ⟨_, e2_363⟩, e3_363, hrw_363, ⟨_, e10_363, hf9_362⟩, e11_363⟩) dX8_init_50
theorem kw_X8_init {R : Room} {s : State} {args : Array Value} {own : String} {idx : Nat} (hts : ∀ w ∈ TB, w.before args s = true) (hl : Cond.methodLink own idx yX8_init ∈ TB) (hR : 1 + 1 ≤ R.frames ∧ 8 + (1 + 11) + 40 * 1 ≤ R.locals) : CallB R s args own idx yX8_init cX8_init 1 none (Cond.code yX8_init cX8_init 1 none :: TB) (rmC 1 10 111) 10 111 0 ∧ yX8_init.name = "<init>" ∧ (Cond.instanceMethod yX8_init).before args s = true := cwI 0 hts (TB_W tw_29) rfl rfl rfl (hts _ tw_2) (hts _ hl) (hts _ tw_28) rfl (by decide +kernel) hR
set_option maxHeartbeats 8000000 in
set_option maxRecDepth 100000 in
/-- Lengths(tables) -/
theorem c_X2_init (l : Launch) (D : va_G) (cy : Nat → ClassId) (sz : Nat) (ad : Nat → Nat) (en : Nat → va_E)  (et : en 12 = .inr (2, [.null, .null, .null, .null, .null, .int 0])) : Met l yX2_init (Cond.code yX2_init cX2_init 3 none :: TB) (rmC 3 57 466) (va_Pc [.ref (ad 12), .ref (ad 1)] (PreC D cy 13 ad en sz)) (va_Qv (S := (Nat → Nat) × (Nat → va_E)) (fun u => (∀ i, i < 13 → u.1 i = ad i) ∧ (∀ i, i < 13 → i ≠ 12 → u.2 i = en i) ∧ u.2 12 = .inr (2, [.ref (u.1 1), .ref (u.1 13), .ref (u.1 14), .ref (u.1 24), .ref (u.1 33), .int 0]) ∧ u.2 13 = .inl (cy 4, 9, .inr (.inr (.inr (.inr (rfB u.1 9 34 4))))) ∧ u.2 14 = .inl (cy 7, 9, .inr (.inr (.inr (.inr (rfA u.1 9 15))))) ∧ (∀ j, j < 9 → u.2 (15 + j) = .inl (cy 0, 6, .inl (fun _ => 0))) ∧ u.2 24 = .inl (cy 8, 8, .inr (.inr (.inr (.inr (rfA u.1 8 25))))) ∧ (∀ j, j < 8 → u.2 (25 + j) = .inl (cy 1, 9, .inr (.inl (fun _ => 0)))) ∧ u.2 33 = .inl (cy 0, 8, .inl (fun _ => 0)) ∧ (∀ j, j < 9 → u.2 (34 + 4 * j) = .inr (5, [.ref (u.1 (35 + 4 * j)), .ref (u.1 (36 + 4 * j)), .ref (u.1 (37 + 4 * j)), .int 0, .int 0, .int 0, .long 0, .long 0, .long 0, .long 0])) ∧ (∀ j, j < 9 → u.2 (35 + 4 * j) = .inl (cy 0, 8, .inl (fun _ => 0))) ∧ (∀ j, j < 9 → u.2 (36 + 4 * j) = .inl (cy 0, 8, .inl (fun _ => 0))) ∧ (∀ j, j < 9 → u.2 (37 + 4 * j) = .inl (cy 0, 8, .inl (fun _ => 0)))) (PostC D 70 (Af (List.range 13) ad sz)) (Af (List.range 13) ad sz)) 57 466 (Af (List.range 13) ad sz) := by
  refine Met.ofW (cc := cX2_init) (maxL := 3) (ret := none) (by decide) rfl ?_
  intro p e s m args below meth c s₁ B hml hv
  obtain ⟨rfl, ⟨hsz, hP, hK, hD0⟩, hX⟩ := hv
  have hx := B.exec
  have hb := B.bytes
  have hr := B.returns
  have hts : ∀ w ∈ TB, w.before _ s = true := fun w h => atoms_spec (ws := _ :: TB) B.pre w (List.mem_cons_of_mem _ h)
  have hown : s.vm.findClass RX2 = some m.cls := findClass_of_methodNamed B.named
  have hlocks := B.notSynchronized
  have hin : meth.name = "<init>" := (name_of_methodNamed B.named B.method).1
  have hh : Hp D (Af (List.range 13) ad sz) (Af (List.range 13) ad sz) s.heap s.heap [] (List.range 13) ad en := ⟨hP, Af_self hD0, va_S.rf⟩
  have hA : ∀ q : Nat, s.heap.size ≤ q → (Af (List.range 13) ad sz) q := fun q h => Or.inr (by rw [hsz] at h; exact h)
  generalize (Af (List.range 13) ad sz) = A at hh hA ⊢
  have hl := lv_entry ([.ref (ad 12), .ref (ad 1)]) (n := 3) (Nat.le_of_ble_eq_true rfl)
  rw [lg_entry_eq]
  generalize (lg_sl ([.ref (ad 12), .ref (ad 1)]) ++ List.replicate (3 - (lg_sl ([.ref (ad 12), .ref (ad 1)])).length) Slot.unset).toArray = ls at hl ⊢
  have hl : lv_has ls 3 [(0, .ref (ad 12)), (1, .ref (ad 1))] := hl
  refine lv_aload_n hx hb dX2_init_0 rfl (lv_at hl 0 rfl) ?_
  refine W.objInit hx hb hown (hts _ tw_68) (hts _ tw_23) (hts _ tw_24) rfl (by rw [hml]; exact hl.1) rfl dX2_init_1 (Nat.le_of_ble_eq_true rfl) (Nat.le_of_ble_eq_true rfl) ?_
  refine W.eq (g2 := F0 m 4 ls []) rfl ?_
  refine lv_aload_n hx hb dX2_init_4 rfl (lv_at hl 0 rfl) ?_
  refine lv_bipush (v := 9) hx hb dX2_init_5 (by decide) ?_
  refine hq_newq hx hb hown (hts _ tw_69) hX.2.1 hK hh hA 4 rfl (N' := 9) (by decide) (by decide) (by decide) (Nat.le_of_ble_eq_true rfl) (Nat.le_of_ble_eq_true rfl) dX2_init_7 (fun q_364 H ad_364 en_364 had_364 hen_364 hh => ?_)
  have hh : Hp D A A s.heap H _ (List.range 14) ad_364 en_364 := hh
  have et_364 : en_364 12 = .inr (2, [.null, .null, .null, .null, .null, .int 0]) := by rw [hen_364, va_up_ne _ _ (by decide)]; exact et
  have heta_364 : ad_364 12 = (ad 12) := by rw [had_364, va_up_ne _ _ (by decide)]
  have hex1a_364 : ad_364 1 = (ad 1) := by rw [had_364, va_up_ne _ _ (by decide)]
  have e13_364 : en_364 13 = .inl (cy 4, 9, .inr (.inr (.inr (.inr (fun _ => none))))) := by rw [hen_364]; exact va_up_self _ _ _
  have he13a_364 : ad_364 13 = q_364 := by rw [had_364]; exact va_up_self _ _ _
  refine W.widen (k := 1) (n := 9) (Nat.le_refl _) (Nat.le_refl _) ?_
  refine hp_putF hx hb hts ix2 tyX2 tyX2_ok nmX2 hown hK hh (q := 12) heta_364 (List.mem_range.mpr (by decide)) et_364 rfl 1 (by decide) (hts _ tw_123) (fun _ h9 => h9) rfl hin rfl (ty := (.array (.object "AnyOrder$Survey"))) (by decide +kernel) rfl rfl (Nat.le_of_ble_eq_true rfl) dX2_init_10 (fun H locs en_365 hen_365 hh => ?_)
  have e13_365 : en_365 13 = .inl (cy 4, 9, .inr (.inr (.inr (.inr (fun _ => none))))) := by rw [hen_365, va_up_ne _ _ (by decide)]; exact e13_364
  have et_365 : en_365 12 = .inr (2, [.null, .ref q_364, .null, .null, .null, .int 0]) := by rw [hen_365]; exact va_up_self _ _ _
  clear et_364 e13_364
  refine lv_aload_n hx hb dX2_init_13 rfl (lv_at hl 0 rfl) ?_
  refine lv_bipush (v := 9) hx hb dX2_init_14 (by decide) ?_
  refine lv_bipush (v := 6) hx hb dX2_init_16 (by decide) ?_
  refine hq_mna (ty := .int) hx hb 7 0 rfl ((hK.2 0 _ rfl).2) hown (hts _ tw_71) hX.2.2.2.2.1 (hts _ tw_121) hK hh hA (N' := 9) (K' := 6) (z := (6, .inl (fun _ => 0))) (by decide) (by decide) (by decide) (by decide) (by decide) (by decide) (by decide) rfl rfl (Nat.le_of_ble_eq_true rfl) (Nat.le_of_ble_eq_true rfl) (fun c => arrV_new c 6 _) dX2_init_18 (fun q_366 r_366 H ad_366 en_366 had_366 hen_366 hh => ?_)
  have hh : Hp D A A s.heap H _ (List.range 24) ad_366 en_366 := hh
  have et_366 : en_366 12 = .inr (2, [.null, .ref q_364, .null, .null, .null, .int 0]) := by rw [hen_366, mEn_lt (by decide)]; exact et_365
  have heta_366 : ad_366 12 = (ad 12) := by rw [had_366, mAd_lt (by decide)]; exact heta_364
  have hex1a_366 : ad_366 1 = (ad 1) := by rw [had_366, mAd_lt (by decide)]; exact hex1a_364
  have e13_366 : en_366 13 = .inl (cy 4, 9, .inr (.inr (.inr (.inr (fun _ => none))))) := by rw [hen_366, mEn_lt (by decide)]; exact e13_365
  have he13a_366 : ad_366 13 = q_364 := by rw [had_366, mAd_lt (by decide)]; exact he13a_364
  have e14_366 : en_366 14 = .inl (cy 7, 9, .inr (.inr (.inr (.inr (fun i => if i < 9 then some (r_366 i) else none))))) := by rw [hen_366]; exact mEn_n
  have he14a_366 : ad_366 14 = q_366 := by rw [had_366]; exact mAd_n
  have hr14_366 : ∀ i, i < 9 → ad_366 (15 + i) = r_366 i := fun i _ => by rw [had_366]; exact mAd_r i
  have hi14_366 : ∀ i, i < 9 → en_366 (15 + i) = .inl (cy 0, 6, .inl (fun _ => 0)) := fun i _ => by rw [hen_366]; exact mEn_r i
  clear heta_364 hex1a_364 he13a_364 e13_365 et_365
  refine W.widen (k := 11) (n := 72) (Nat.le_refl _) (Nat.le_refl _) ?_
  refine hp_putF hx hb hts ix2 tyX2 tyX2_ok nmX2 hown hK hh (q := 12) heta_366 (List.mem_range.mpr (by decide)) et_366 rfl 2 (by decide) (hts _ tw_124) (fun _ h9 => h9) rfl hin rfl (ty := (.array (.array .int))) (by decide +kernel) rfl rfl (Nat.le_of_ble_eq_true rfl) dX2_init_22 (fun H locs en_367 hen_367 hh => ?_)
  have e13_367 : en_367 13 = .inl (cy 4, 9, .inr (.inr (.inr (.inr (fun _ => none))))) := by rw [hen_367, va_up_ne _ _ (by decide)]; exact e13_366
  have e14_367 : en_367 14 = .inl (cy 7, 9, .inr (.inr (.inr (.inr (fun i => if i < 9 then some (r_366 i) else none))))) := by rw [hen_367, va_up_ne _ _ (by decide)]; exact e14_366
  have hwy_367 : ∀ j, j < 9 → en_367 (15 + j) = .inl (cy 0, 6, .inl (fun _ => 0)) := fun j hj => by rw [hen_367, va_up_ne _ _ (by omega)]; exact hi14_366 j hj
  have et_367 : en_367 12 = .inr (2, [.null, .ref q_364, .ref q_366, .null, .null, .int 0]) := by rw [hen_367]; exact va_up_self _ _ _
  clear et_366 e13_366 e14_366
  refine lv_aload_n hx hb dX2_init_25 rfl (lv_at hl 0 rfl) ?_
  refine lv_bipush (v := 8) hx hb dX2_init_26 (by decide) ?_
  refine lv_bipush (v := 9) hx hb dX2_init_28 (by decide) ?_
  refine hq_mna (ty := .long) hx hb 8 1 rfl ((hK.2 1 _ rfl).2) hown (hts _ tw_73) hX.2.2.2.2.2.1 (hts _ tw_61) hK hh hA (N' := 8) (K' := 9) (z := (9, .inr (.inl (fun _ => 0)))) (by decide) (by decide) (by decide) (by decide) (by decide) (by decide) (by decide) rfl rfl (Nat.le_of_ble_eq_true rfl) (Nat.le_of_ble_eq_true rfl) (fun c => arrV_new c 9 _) dX2_init_30 (fun q_368 r_368 H ad_368 en_368 had_368 hen_368 hh => ?_)
  have hh : Hp D A A s.heap H _ (List.range 33) ad_368 en_368 := hh
  have et_368 : en_368 12 = .inr (2, [.null, .ref q_364, .ref q_366, .null, .null, .int 0]) := by rw [hen_368, mEn_lt (by decide)]; exact et_367
  have heta_368 : ad_368 12 = (ad 12) := by rw [had_368, mAd_lt (by decide)]; exact heta_366
  have hex1a_368 : ad_368 1 = (ad 1) := by rw [had_368, mAd_lt (by decide)]; exact hex1a_366
  have e13_368 : en_368 13 = .inl (cy 4, 9, .inr (.inr (.inr (.inr (fun _ => none))))) := by rw [hen_368, mEn_lt (by decide)]; exact e13_367
  have he13a_368 : ad_368 13 = q_364 := by rw [had_368, mAd_lt (by decide)]; exact he13a_366
  have e14_368 : en_368 14 = .inl (cy 7, 9, .inr (.inr (.inr (.inr (fun i => if i < 9 then some (r_366 i) else none))))) := by rw [hen_368, mEn_lt (by decide)]; exact e14_367
  have he14a_368 : ad_368 14 = q_366 := by rw [had_368, mAd_lt (by decide)]; exact he14a_366
  have hwy_368 : ∀ j, j < 9 → en_368 (15 + j) = .inl (cy 0, 6, .inl (fun _ => 0)) := fun j hj => by rw [hen_368, mEn_lt (by omega)]; exact hwy_367 j hj
  have e24_368 : en_368 24 = .inl (cy 8, 8, .inr (.inr (.inr (.inr (fun i => if i < 8 then some (r_368 i) else none))))) := by rw [hen_368]; exact mEn_n
  have he24a_368 : ad_368 24 = q_368 := by rw [had_368]; exact mAd_n
  have hr24_368 : ∀ i, i < 8 → ad_368 (25 + i) = r_368 i := fun i _ => by rw [had_368]; exact mAd_r i
  have hi24_368 : ∀ i, i < 8 → en_368 (25 + i) = .inl (cy 1, 9, .inr (.inl (fun _ => 0))) := fun i _ => by rw [hen_368]; exact mEn_r i
  clear heta_366 hex1a_366 he13a_366 he14a_366 e13_367 e14_367 hwy_367 et_367
  refine W.widen (k := 20) (n := 152) (Nat.le_refl _) (Nat.le_refl _) ?_
  refine hp_putF hx hb hts ix2 tyX2 tyX2_ok nmX2 hown hK hh (q := 12) heta_368 (List.mem_range.mpr (by decide)) et_368 rfl 3 (by decide) (hts _ tw_125) (fun _ h9 => h9) rfl hin rfl (ty := (.array (.array .long))) (by decide +kernel) rfl rfl (Nat.le_of_ble_eq_true rfl) dX2_init_34 (fun H locs en_369 hen_369 hh => ?_)
  have e13_369 : en_369 13 = .inl (cy 4, 9, .inr (.inr (.inr (.inr (fun _ => none))))) := by rw [hen_369, va_up_ne _ _ (by decide)]; exact e13_368
  have e14_369 : en_369 14 = .inl (cy 7, 9, .inr (.inr (.inr (.inr (fun i => if i < 9 then some (r_366 i) else none))))) := by rw [hen_369, va_up_ne _ _ (by decide)]; exact e14_368
  have e24_369 : en_369 24 = .inl (cy 8, 8, .inr (.inr (.inr (.inr (fun i => if i < 8 then some (r_368 i) else none))))) := by rw [hen_369, va_up_ne _ _ (by decide)]; exact e24_368
  have hwy_369 : ∀ j, j < 9 → en_369 (15 + j) = .inl (cy 0, 6, .inl (fun _ => 0)) := fun j hj => by rw [hen_369, va_up_ne _ _ (by omega)]; exact hwy_368 j hj
  have hpf_369 : ∀ j, j < 8 → en_369 (25 + j) = .inl (cy 1, 9, .inr (.inl (fun _ => 0))) := fun j hj => by rw [hen_369, va_up_ne _ _ (by omega)]; exact hi24_368 j hj
  have et_369 : en_369 12 = .inr (2, [.null, .ref q_364, .ref q_366, .ref q_368, .null, .int 0]) := by rw [hen_369]; exact va_up_self _ _ _
  clear et_368 e13_368 e14_368 hwy_368 e24_368
  refine lv_aload_n hx hb dX2_init_37 rfl (lv_at hl 0 rfl) ?_
  refine lv_bipush (v := 8) hx hb dX2_init_38 (by decide) ?_
  refine hq_newa (atype := .int) (ty := .int) hx hb (hts _ tw_121) rfl hK hh hA 0 rfl (N' := 8) (a0 := (8, .inl (fun _ => 0))) (fun _ => rfl) (by decide) (by decide) (by decide) (Nat.le_of_ble_eq_true rfl) (Nat.le_of_ble_eq_true rfl) dX2_init_40 (fun q_370 H ad_370 en_370 had_370 hen_370 hh => ?_)
  have hh : Hp D A A s.heap H _ (List.range 34) ad_370 en_370 := hh
  have et_370 : en_370 12 = .inr (2, [.null, .ref q_364, .ref q_366, .ref q_368, .null, .int 0]) := by rw [hen_370, va_up_ne _ _ (by decide)]; exact et_369
  have heta_370 : ad_370 12 = (ad 12) := by rw [had_370, va_up_ne _ _ (by decide)]; exact heta_368
  have hex1a_370 : ad_370 1 = (ad 1) := by rw [had_370, va_up_ne _ _ (by decide)]; exact hex1a_368
  have e13_370 : en_370 13 = .inl (cy 4, 9, .inr (.inr (.inr (.inr (fun _ => none))))) := by rw [hen_370, va_up_ne _ _ (by decide)]; exact e13_369
  have he13a_370 : ad_370 13 = q_364 := by rw [had_370, va_up_ne _ _ (by decide)]; exact he13a_368
  have e14_370 : en_370 14 = .inl (cy 7, 9, .inr (.inr (.inr (.inr (fun i => if i < 9 then some (r_366 i) else none))))) := by rw [hen_370, va_up_ne _ _ (by decide)]; exact e14_369
  have he14a_370 : ad_370 14 = q_366 := by rw [had_370, va_up_ne _ _ (by decide)]; exact he14a_368
  have e24_370 : en_370 24 = .inl (cy 8, 8, .inr (.inr (.inr (.inr (fun i => if i < 8 then some (r_368 i) else none))))) := by rw [hen_370, va_up_ne _ _ (by decide)]; exact e24_369
  have he24a_370 : ad_370 24 = q_368 := by rw [had_370, va_up_ne _ _ (by decide)]; exact he24a_368
  have hwy_370 : ∀ j, j < 9 → en_370 (15 + j) = .inl (cy 0, 6, .inl (fun _ => 0)) := fun j hj => by rw [hen_370, va_up_ne _ _ (by omega)]; exact hwy_369 j hj
  have hpf_370 : ∀ j, j < 8 → en_370 (25 + j) = .inl (cy 1, 9, .inr (.inl (fun _ => 0))) := fun j hj => by rw [hen_370, va_up_ne _ _ (by omega)]; exact hpf_369 j hj
  have e33_370 : en_370 33 = .inl (cy 0, 8, .inl (fun _ => 0)) := by rw [hen_370]; exact va_up_self _ _ _
  have he33a_370 : ad_370 33 = q_370 := by rw [had_370]; exact va_up_self _ _ _
  clear heta_368 hex1a_368 he13a_368 he14a_368 he24a_368 e13_369 e14_369 e24_369 hwy_369 hpf_369 et_369
  refine W.widen (k := 21) (n := 160) (Nat.le_refl _) (Nat.le_refl _) ?_
  refine hp_putF hx hb hts ix2 tyX2 tyX2_ok nmX2 hown hK hh (q := 12) heta_370 (List.mem_range.mpr (by decide)) et_370 rfl 4 (by decide) (hts _ tw_126) (fun _ h9 => h9) rfl hin rfl (ty := (.array .int)) (by decide +kernel) rfl rfl (Nat.le_of_ble_eq_true rfl) dX2_init_42 (fun H locs en_371 hen_371 hh => ?_)
  have e13_371 : en_371 13 = .inl (cy 4, 9, .inr (.inr (.inr (.inr (fun _ => none))))) := by rw [hen_371, va_up_ne _ _ (by decide)]; exact e13_370
  have e14_371 : en_371 14 = .inl (cy 7, 9, .inr (.inr (.inr (.inr (fun i => if i < 9 then some (r_366 i) else none))))) := by rw [hen_371, va_up_ne _ _ (by decide)]; exact e14_370
  have e24_371 : en_371 24 = .inl (cy 8, 8, .inr (.inr (.inr (.inr (fun i => if i < 8 then some (r_368 i) else none))))) := by rw [hen_371, va_up_ne _ _ (by decide)]; exact e24_370
  have e33_371 : en_371 33 = .inl (cy 0, 8, .inl (fun _ => 0)) := by rw [hen_371, va_up_ne _ _ (by decide)]; exact e33_370
  have hwy_371 : ∀ j, j < 9 → en_371 (15 + j) = .inl (cy 0, 6, .inl (fun _ => 0)) := fun j hj => by rw [hen_371, va_up_ne _ _ (by omega)]; exact hwy_370 j hj
  have hpf_371 : ∀ j, j < 8 → en_371 (25 + j) = .inl (cy 1, 9, .inr (.inl (fun _ => 0))) := fun j hj => by rw [hen_371, va_up_ne _ _ (by omega)]; exact hpf_370 j hj
  have et_371 : en_371 12 = .inr (2, [.null, .ref q_364, .ref q_366, .ref q_368, .ref q_370, .int 0]) := by rw [hen_371]; exact va_up_self _ _ _
  clear et_370 e13_370 e14_370 e24_370 hwy_370 hpf_370 e33_370
  refine lv_aload_n hx hb dX2_init_45 rfl (lv_at hl 0 rfl) ?_
  refine lv_aload_n hx hb dX2_init_46 rfl (lv_at hl 1 rfl) ?_
  refine hp_putF hx hb hts ix2 tyX2 tyX2_ok nmX2 hown hK hh (q := 12) heta_370 (List.mem_range.mpr (by decide)) et_371 rfl 0 (by decide) (hts _ tw_122) (fun _ h9 => h9) rfl hin rfl (ty := (.object "AnyOrder$Tables")) (by decide +kernel) rfl rfl (Nat.le_of_ble_eq_true rfl) dX2_init_47 (fun H locs en_372 hen_372 hh => ?_)
  have e13_372 : en_372 13 = .inl (cy 4, 9, .inr (.inr (.inr (.inr (fun _ => none))))) := by rw [hen_372, va_up_ne _ _ (by decide)]; exact e13_371
  have e14_372 : en_372 14 = .inl (cy 7, 9, .inr (.inr (.inr (.inr (fun i => if i < 9 then some (r_366 i) else none))))) := by rw [hen_372, va_up_ne _ _ (by decide)]; exact e14_371
  have e24_372 : en_372 24 = .inl (cy 8, 8, .inr (.inr (.inr (.inr (fun i => if i < 8 then some (r_368 i) else none))))) := by rw [hen_372, va_up_ne _ _ (by decide)]; exact e24_371
  have e33_372 : en_372 33 = .inl (cy 0, 8, .inl (fun _ => 0)) := by rw [hen_372, va_up_ne _ _ (by decide)]; exact e33_371
  have hwy_372 : ∀ j, j < 9 → en_372 (15 + j) = .inl (cy 0, 6, .inl (fun _ => 0)) := fun j hj => by rw [hen_372, va_up_ne _ _ (by omega)]; exact hwy_371 j hj
  have hpf_372 : ∀ j, j < 8 → en_372 (25 + j) = .inl (cy 1, 9, .inr (.inl (fun _ => 0))) := fun j hj => by rw [hen_372, va_up_ne _ _ (by omega)]; exact hpf_371 j hj
  have et_372 : en_372 12 = .inr (2, [.ref (ad 1), .ref q_364, .ref q_366, .ref q_368, .ref q_370, .int 0]) := by rw [hen_372]; exact va_up_self _ _ _
  clear e13_371 e14_371 e24_371 e33_371 hwy_371 hpf_371 et_371
  refine lv_iconst (v := 0) hx hb dX2_init_50 (by decide) ?_
  refine lv_istore_n (lv' := [(2, .int 0), (0, .ref (ad 12)), (1, .ref (ad 1))]) hx hb dX2_init_51 rfl hl (by decide) rfl (fun ls hl => ?_)
  refine lv_iload_n hx hb dX2_init_52 rfl (lv_at hl 0 rfl) ?_
  refine lv_bipush (v := 8) hx hb dX2_init_53 (by decide) ?_
  refine lv_icmp_gt (tgt := 77) hx hb dX2_init_55 (by decide) (fun c_0 => absurd c_0 (by decide)) (fun _ => ?_)
  refine lv_aload_n hx hb dX2_init_58 rfl (lv_at hl 1 rfl) ?_
  refine hp_get hx hb hts ix2 hown hK hh (q := 12) heta_370 (List.mem_range.mpr (by decide)) et_372 rfl 1 (by decide) (hts _ tw_123) (fun _ h9 => h9) rfl dX2_init_59 ?_
  refine lv_iload_n hx hb dX2_init_62 rfl (lv_at hl 0 rfl) ?_
  refine hq_new (ci := 5) (fs := [.null, .null, .null, .int 0, .int 0, .int 0, .long 0, .long 0, .long 0, .long 0]) hx hb hts ix6 tyX6 tyX6_ok hown (hts _ tw_69) (hts _ tw_74) (hts _ tw_4) hK hh hA rfl (fun j hj => by rcases (show j = 0 ∨ j = 1 ∨ j = 2 ∨ j = 3 ∨ j = 4 ∨ j = 5 ∨ j = 6 ∨ j = 7 ∨ j = 8 ∨ j = 9 by omega) with rfl | rfl | rfl | rfl | rfl | rfl | rfl | rfl | rfl | rfl <;> rfl) (Nat.le_of_ble_eq_true rfl) (Nat.le_of_ble_eq_true rfl) dX2_init_63 (fun q_373 H ad_373 en_373 had_373 hen_373 hh => ?_)
  have hh : Hp D A A s.heap H _ (List.range 35) ad_373 en_373 := hh
  have et_373 : en_373 12 = .inr (2, [.ref (ad 1), .ref q_364, .ref q_366, .ref q_368, .ref q_370, .int 0]) := by rw [hen_373, va_up_ne _ _ (by decide)]; exact et_372
  have heta_373 : ad_373 12 = (ad 12) := by rw [had_373, va_up_ne _ _ (by decide)]; exact heta_370
  have hex1a_373 : ad_373 1 = (ad 1) := by rw [had_373, va_up_ne _ _ (by decide)]; exact hex1a_370
  have e13_373 : en_373 13 = .inl (cy 4, 9, .inr (.inr (.inr (.inr (fun _ => none))))) := by rw [hen_373, va_up_ne _ _ (by decide)]; exact e13_372
  have he13a_373 : ad_373 13 = q_364 := by rw [had_373, va_up_ne _ _ (by decide)]; exact he13a_370
  have e14_373 : en_373 14 = .inl (cy 7, 9, .inr (.inr (.inr (.inr (fun i => if i < 9 then some (r_366 i) else none))))) := by rw [hen_373, va_up_ne _ _ (by decide)]; exact e14_372
  have he14a_373 : ad_373 14 = q_366 := by rw [had_373, va_up_ne _ _ (by decide)]; exact he14a_370
  have e24_373 : en_373 24 = .inl (cy 8, 8, .inr (.inr (.inr (.inr (fun i => if i < 8 then some (r_368 i) else none))))) := by rw [hen_373, va_up_ne _ _ (by decide)]; exact e24_372
  have he24a_373 : ad_373 24 = q_368 := by rw [had_373, va_up_ne _ _ (by decide)]; exact he24a_370
  have e33_373 : en_373 33 = .inl (cy 0, 8, .inl (fun _ => 0)) := by rw [hen_373, va_up_ne _ _ (by decide)]; exact e33_372
  have he33a_373 : ad_373 33 = q_370 := by rw [had_373, va_up_ne _ _ (by decide)]; exact he33a_370
  have hwy_373 : ∀ j, j < 9 → en_373 (15 + j) = .inl (cy 0, 6, .inl (fun _ => 0)) := fun j hj => by rw [hen_373, va_up_ne _ _ (by omega)]; exact hwy_372 j hj
  have hpf_373 : ∀ j, j < 8 → en_373 (25 + j) = .inl (cy 1, 9, .inr (.inl (fun _ => 0))) := fun j hj => by rw [hen_373, va_up_ne _ _ (by omega)]; exact hpf_372 j hj
  have e34_373 : en_373 34 = .inr (5, [.null, .null, .null, .int 0, .int 0, .int 0, .long 0, .long 0, .long 0, .long 0]) := by rw [hen_373]; exact va_up_self _ _ _
  have he34a_373 : ad_373 34 = q_373 := by rw [had_373]; exact va_up_self _ _ _
  clear heta_370 hex1a_370 he13a_370 he14a_370 he24a_370 he33a_370 e13_372 e14_372 e24_372 e33_372 hwy_372 hpf_372 et_372
  refine W.widen (k := 22) (n := 170) (Nat.le_refl _) (Nat.le_refl _) ?_
  refine lv_dup hx hb dX2_init_66 rfl ?_
  refine W.eq (g2 := F0 m 67 ls [.ref (ad_373 34), .ref q_373, .int 0, .ref q_364]) (by rw [he34a_373]) ?_
  refine hq_callC (va_runIN (As := []) (rest := [.ref q_373, .int 0, .ref q_364]) ⟨hx, hb, hml, hown, hts⟩ (c_X6_init l D cy _ ad_373 en_373 35 34 (by decide) e34_373) (kw_X6_init hts hX.2.2.2.2.2.2.1 ⟨by decide, by decide⟩) (preC_of hh hK hX) rfl rfl hl.1 rfl (lv_room (Nat.le_of_ble_eq_true rfl)) dX2_init_67 ⟨Nat.le_of_ble_eq_true rfl, Nat.le_of_ble_eq_true rfl⟩) hh hA (fun H locs ad_374 en_374 hw_374 hh => ?_)
  have hh : Hp D A A s.heap H _ (List.range 38) ad_374 en_374 := hh
  obtain ⟨hda_374, hue_374, ew_374, ewa_374, ewb_374, ewc_374⟩ := hw_374
  dsimp only at hda_374 hue_374 ew_374 ewa_374 ewb_374 ewc_374
  have et_374 : en_374 12 = .inr (2, [.ref (ad 1), .ref q_364, .ref q_366, .ref q_368, .ref q_370, .int 0]) := by rw [hue_374 _ (by decide) (by decide)]; exact et_373
  have heta_374 : ad_374 12 = (ad 12) := by rw [hda_374 _ (by decide)]; exact heta_373
  have hex1a_374 : ad_374 1 = (ad 1) := by rw [hda_374 _ (by decide)]; exact hex1a_373
  have e13_374 : en_374 13 = .inl (cy 4, 9, .inr (.inr (.inr (.inr (fun _ => none))))) := by rw [hue_374 _ (by decide) (by decide)]; exact e13_373
  have he13a_374 : ad_374 13 = q_364 := by rw [hda_374 _ (by decide)]; exact he13a_373
  have e14_374 : en_374 14 = .inl (cy 7, 9, .inr (.inr (.inr (.inr (fun i => if i < 9 then some (r_366 i) else none))))) := by rw [hue_374 _ (by decide) (by decide)]; exact e14_373
  have he14a_374 : ad_374 14 = q_366 := by rw [hda_374 _ (by decide)]; exact he14a_373
  have e24_374 : en_374 24 = .inl (cy 8, 8, .inr (.inr (.inr (.inr (fun i => if i < 8 then some (r_368 i) else none))))) := by rw [hue_374 _ (by decide) (by decide)]; exact e24_373
  have he24a_374 : ad_374 24 = q_368 := by rw [hda_374 _ (by decide)]; exact he24a_373
  have e33_374 : en_374 33 = .inl (cy 0, 8, .inl (fun _ => 0)) := by rw [hue_374 _ (by decide) (by decide)]; exact e33_373
  have he33a_374 : ad_374 33 = q_370 := by rw [hda_374 _ (by decide)]; exact he33a_373
  have he34a_374 : ad_374 34 = q_373 := by rw [hda_374 _ (by decide)]; exact he34a_373
  have hwy_374 : ∀ j, j < 9 → en_374 (15 + j) = .inl (cy 0, 6, .inl (fun _ => 0)) := fun j hj => by rw [hue_374 _ (by omega) (by omega)]; exact hwy_373 j hj
  have hpf_374 : ∀ j, j < 8 → en_374 (25 + j) = .inl (cy 1, 9, .inr (.inl (fun _ => 0))) := fun j hj => by rw [hue_374 _ (by omega) (by omega)]; exact hpf_373 j hj
  have ew34_374 := ew_374
  have hv_375 : ∀ j, j < 1 → en_374 (34 + 4 * j) = .inr (5, [.ref (ad_374 (35 + 4 * j)), .ref (ad_374 (36 + 4 * j)), .ref (ad_374 (37 + 4 * j)), .int 0, .int 0, .int 0, .long 0, .long 0, .long 0, .long 0]) := fun j hj => by have e0 : j = 0 := (by omega); subst e0; exact ew_374
  have hva_376 : ∀ j, j < 1 → en_374 (35 + 4 * j) = .inl (cy 0, 8, .inl (fun _ => 0)) := fun j hj => by have e0 : j = 0 := (by omega); subst e0; exact ewa_374
  have hvb_377 : ∀ j, j < 1 → en_374 (36 + 4 * j) = .inl (cy 0, 8, .inl (fun _ => 0)) := fun j hj => by have e0 : j = 0 := (by omega); subst e0; exact ewb_374
  have hvc_378 : ∀ j, j < 1 → en_374 (37 + 4 * j) = .inl (cy 0, 8, .inl (fun _ => 0)) := fun j hj => by have e0 : j = 0 := (by omega); subst e0; exact ewc_374
  clear et_373 heta_373 hex1a_373 e13_373 he13a_373 e14_373 he14a_373 e24_373 he24a_373 e33_373 he33a_373 hwy_373 hpf_373 e34_373 he34a_373
  refine W.widen (k := 25) (n := 194) (Nat.le_refl _) (Nat.le_refl _) ?_
  refine hp_astq hx hb hK hh (q := 13) (v := 34) he13a_374 (List.mem_range.mpr (by decide)) he34a_374 (List.mem_range.mpr (by decide)) e13_374 ew34_374 rfl rfl (vp_in_iff.mpr (by decide)) dX2_init_70 (fun H locs en_379 hen_379 hh => ?_)
  have et_379 : en_379 12 = .inr (2, [.ref (ad 1), .ref q_364, .ref q_366, .ref q_368, .ref q_370, .int 0]) := by rw [hen_379, va_up_ne _ _ (by decide)]; exact et_374
  have e14_379 : en_379 14 = .inl (cy 7, 9, .inr (.inr (.inr (.inr (fun i => if i < 9 then some (r_366 i) else none))))) := by rw [hen_379, va_up_ne _ _ (by decide)]; exact e14_374
  have e24_379 : en_379 24 = .inl (cy 8, 8, .inr (.inr (.inr (.inr (fun i => if i < 8 then some (r_368 i) else none))))) := by rw [hen_379, va_up_ne _ _ (by decide)]; exact e24_374
  have e33_379 : en_379 33 = .inl (cy 0, 8, .inl (fun _ => 0)) := by rw [hen_379, va_up_ne _ _ (by decide)]; exact e33_374
  have ew34_379 : en_379 34 = .inr (5, [.ref (ad_374 35), .ref (ad_374 36), .ref (ad_374 37), .int 0, .int 0, .int 0, .long 0, .long 0, .long 0, .long 0]) := by rw [hen_379, va_up_ne _ _ (by decide)]; exact ew34_374
  have hwy_379 : ∀ j, j < 9 → en_379 (15 + j) = .inl (cy 0, 6, .inl (fun _ => 0)) := fun j hj => by rw [hen_379, va_up_ne _ _ (by omega)]; exact hwy_374 j hj
  have hpf_379 : ∀ j, j < 8 → en_379 (25 + j) = .inl (cy 1, 9, .inr (.inl (fun _ => 0))) := fun j hj => by rw [hen_379, va_up_ne _ _ (by omega)]; exact hpf_374 j hj
  have hv_379 : ∀ j, j < 1 → en_379 (34 + 4 * j) = .inr (5, [.ref (ad_374 (35 + 4 * j)), .ref (ad_374 (36 + 4 * j)), .ref (ad_374 (37 + 4 * j)), .int 0, .int 0, .int 0, .long 0, .long 0, .long 0, .long 0]) := fun j hj => by rw [hen_379, va_up_ne _ _ (fne2 34 4 13 (by decide))]; exact hv_375 j hj
  have hva_379 : ∀ j, j < 1 → en_379 (35 + 4 * j) = .inl (cy 0, 8, .inl (fun _ => 0)) := fun j hj => by rw [hen_379, va_up_ne _ _ (fne2 35 4 13 (by decide))]; exact hva_376 j hj
  have hvb_379 : ∀ j, j < 1 → en_379 (36 + 4 * j) = .inl (cy 0, 8, .inl (fun _ => 0)) := fun j hj => by rw [hen_379, va_up_ne _ _ (fne2 36 4 13 (by decide))]; exact hvb_377 j hj
  have hvc_379 : ∀ j, j < 1 → en_379 (37 + 4 * j) = .inl (cy 0, 8, .inl (fun _ => 0)) := fun j hj => by rw [hen_379, va_up_ne _ _ (fne2 37 4 13 (by decide))]; exact hvc_378 j hj
  have e13_379 : en_379 13 = .inl (cy 4, 9, .inr (.inr (.inr (.inr (va_up (fun _ => none) (0 : Int32).toNatClampNeg (some q_373)))))) := by rw [hen_379]; exact va_up_self _ _ _
  clear et_374 e13_374 e14_374 e24_374 e33_374 hwy_374 hpf_374 hv_375 hva_376 hvb_377 hvc_378 ew34_379
  refine lv_iinc (v := 1) (lv' := [(2, .int 1), (0, .ref (ad 12)), (1, .ref (ad 1))]) hx hb dX2_init_71 hl (k := 0) rfl (by decide) (by decide) rfl (fun ls hl => ?_)
  refine lv_goto (tgt := 52) hx hb dX2_init_74 (by decide) ?_
  refine lv_iload_n hx hb dX2_init_52 rfl (lv_at hl 0 rfl) ?_
  refine lv_bipush (v := 8) hx hb dX2_init_53 (by decide) ?_
  refine lv_icmp_gt (tgt := 77) hx hb dX2_init_55 (by decide) (fun c_0 => absurd c_0 (by decide)) (fun _ => ?_)
  refine lv_aload_n hx hb dX2_init_58 rfl (lv_at hl 1 rfl) ?_
  refine hp_get hx hb hts ix2 hown hK hh (q := 12) heta_374 (List.mem_range.mpr (by decide)) et_379 rfl 1 (by decide) (hts _ tw_123) (fun _ h9 => h9) rfl dX2_init_59 ?_
  refine lv_iload_n hx hb dX2_init_62 rfl (lv_at hl 0 rfl) ?_
  refine hq_new (ci := 5) (fs := [.null, .null, .null, .int 0, .int 0, .int 0, .long 0, .long 0, .long 0, .long 0]) hx hb hts ix6 tyX6 tyX6_ok hown (hts _ tw_69) (hts _ tw_74) (hts _ tw_4) hK hh hA rfl (fun j hj => by rcases (show j = 0 ∨ j = 1 ∨ j = 2 ∨ j = 3 ∨ j = 4 ∨ j = 5 ∨ j = 6 ∨ j = 7 ∨ j = 8 ∨ j = 9 by omega) with rfl | rfl | rfl | rfl | rfl | rfl | rfl | rfl | rfl | rfl <;> rfl) (Nat.le_of_ble_eq_true rfl) (Nat.le_of_ble_eq_true rfl) dX2_init_63 (fun q_380 H ad_380 en_380 had_380 hen_380 hh => ?_)
  have hh : Hp D A A s.heap H _ (List.range 39) ad_380 en_380 := hh
  have et_380 : en_380 12 = .inr (2, [.ref (ad 1), .ref q_364, .ref q_366, .ref q_368, .ref q_370, .int 0]) := by rw [hen_380, va_up_ne _ _ (by decide)]; exact et_379
  have heta_380 : ad_380 12 = (ad 12) := by rw [had_380, va_up_ne _ _ (by decide)]; exact heta_374
  have hex1a_380 : ad_380 1 = (ad 1) := by rw [had_380, va_up_ne _ _ (by decide)]; exact hex1a_374
  have e13_380 : en_380 13 = .inl (cy 4, 9, .inr (.inr (.inr (.inr (va_up (fun _ => none) (0 : Int32).toNatClampNeg (some q_373)))))) := by rw [hen_380, va_up_ne _ _ (by decide)]; exact e13_379
  have he13a_380 : ad_380 13 = q_364 := by rw [had_380, va_up_ne _ _ (by decide)]; exact he13a_374
  have e14_380 : en_380 14 = .inl (cy 7, 9, .inr (.inr (.inr (.inr (fun i => if i < 9 then some (r_366 i) else none))))) := by rw [hen_380, va_up_ne _ _ (by decide)]; exact e14_379
  have he14a_380 : ad_380 14 = q_366 := by rw [had_380, va_up_ne _ _ (by decide)]; exact he14a_374
  have e24_380 : en_380 24 = .inl (cy 8, 8, .inr (.inr (.inr (.inr (fun i => if i < 8 then some (r_368 i) else none))))) := by rw [hen_380, va_up_ne _ _ (by decide)]; exact e24_379
  have he24a_380 : ad_380 24 = q_368 := by rw [had_380, va_up_ne _ _ (by decide)]; exact he24a_374
  have e33_380 : en_380 33 = .inl (cy 0, 8, .inl (fun _ => 0)) := by rw [hen_380, va_up_ne _ _ (by decide)]; exact e33_379
  have he33a_380 : ad_380 33 = q_370 := by rw [had_380, va_up_ne _ _ (by decide)]; exact he33a_374
  have hew34a_380 : ad_380 34 = q_373 := by rw [had_380, va_up_ne _ _ (by decide)]; exact he34a_374
  have hwy_380 : ∀ j, j < 9 → en_380 (15 + j) = .inl (cy 0, 6, .inl (fun _ => 0)) := fun j hj => by rw [hen_380, va_up_ne _ _ (by omega)]; exact hwy_379 j hj
  have hpf_380 : ∀ j, j < 8 → en_380 (25 + j) = .inl (cy 1, 9, .inr (.inl (fun _ => 0))) := fun j hj => by rw [hen_380, va_up_ne _ _ (by omega)]; exact hpf_379 j hj
  have hv_380 : ∀ j, j < 1 → en_380 (34 + 4 * j) = .inr (5, [.ref (ad_380 (35 + 4 * j)), .ref (ad_380 (36 + 4 * j)), .ref (ad_380 (37 + 4 * j)), .int 0, .int 0, .int 0, .long 0, .long 0, .long 0, .long 0]) := fun j hj => by rw [hen_380, va_up_ne _ _ (fne 34 4 38 hj (by decide)), had_380, va_up_ne _ _ (fne 35 4 38 hj (by decide)), va_up_ne _ _ (fne 36 4 38 hj (by decide)), va_up_ne _ _ (fne 37 4 38 hj (by decide))]; exact hv_379 j hj
  have hva_380 : ∀ j, j < 1 → en_380 (35 + 4 * j) = .inl (cy 0, 8, .inl (fun _ => 0)) := fun j hj => by rw [hen_380, va_up_ne _ _ (fne 35 4 38 hj (by decide))]; exact hva_379 j hj
  have hvb_380 : ∀ j, j < 1 → en_380 (36 + 4 * j) = .inl (cy 0, 8, .inl (fun _ => 0)) := fun j hj => by rw [hen_380, va_up_ne _ _ (fne 36 4 38 hj (by decide))]; exact hvb_379 j hj
  have hvc_380 : ∀ j, j < 1 → en_380 (37 + 4 * j) = .inl (cy 0, 8, .inl (fun _ => 0)) := fun j hj => by rw [hen_380, va_up_ne _ _ (fne 37 4 38 hj (by decide))]; exact hvc_379 j hj
  have e38_380 : en_380 38 = .inr (5, [.null, .null, .null, .int 0, .int 0, .int 0, .long 0, .long 0, .long 0, .long 0]) := by rw [hen_380]; exact va_up_self _ _ _
  have he38a_380 : ad_380 38 = q_380 := by rw [had_380]; exact va_up_self _ _ _
  clear heta_374 hex1a_374 he13a_374 he14a_374 he24a_374 he33a_374 he34a_374 et_379 e14_379 e24_379 e33_379 hwy_379 hpf_379 hv_379 hva_379 hvb_379 hvc_379 e13_379
  refine W.widen (k := 26) (n := 204) (Nat.le_refl _) (Nat.le_refl _) ?_
  refine lv_dup hx hb dX2_init_66 rfl ?_
  refine W.eq (g2 := F0 m 67 ls [.ref (ad_380 38), .ref q_380, .int 1, .ref q_364]) (by rw [he38a_380]) ?_
  refine hq_callC (va_runIN (As := []) (rest := [.ref q_380, .int 1, .ref q_364]) ⟨hx, hb, hml, hown, hts⟩ (c_X6_init l D cy _ ad_380 en_380 39 38 (by decide) e38_380) (kw_X6_init hts hX.2.2.2.2.2.2.1 ⟨by decide, by decide⟩) (preC_of hh hK hX) rfl rfl hl.1 rfl (lv_room (Nat.le_of_ble_eq_true rfl)) dX2_init_67 ⟨Nat.le_of_ble_eq_true rfl, Nat.le_of_ble_eq_true rfl⟩) hh hA (fun H locs ad_381 en_381 hw_381 hh => ?_)
  have hh : Hp D A A s.heap H _ (List.range 42) ad_381 en_381 := hh
  obtain ⟨hda_381, hue_381, ew_381, ewa_381, ewb_381, ewc_381⟩ := hw_381
  dsimp only at hda_381 hue_381 ew_381 ewa_381 ewb_381 ewc_381
  have et_381 : en_381 12 = .inr (2, [.ref (ad 1), .ref q_364, .ref q_366, .ref q_368, .ref q_370, .int 0]) := by rw [hue_381 _ (by decide) (by decide)]; exact et_380
  have heta_381 : ad_381 12 = (ad 12) := by rw [hda_381 _ (by decide)]; exact heta_380
  have hex1a_381 : ad_381 1 = (ad 1) := by rw [hda_381 _ (by decide)]; exact hex1a_380
  have e13_381 : en_381 13 = .inl (cy 4, 9, .inr (.inr (.inr (.inr (va_up (fun _ => none) (0 : Int32).toNatClampNeg (some q_373)))))) := by rw [hue_381 _ (by decide) (by decide)]; exact e13_380
  have he13a_381 : ad_381 13 = q_364 := by rw [hda_381 _ (by decide)]; exact he13a_380
  have e14_381 : en_381 14 = .inl (cy 7, 9, .inr (.inr (.inr (.inr (fun i => if i < 9 then some (r_366 i) else none))))) := by rw [hue_381 _ (by decide) (by decide)]; exact e14_380
  have he14a_381 : ad_381 14 = q_366 := by rw [hda_381 _ (by decide)]; exact he14a_380
  have e24_381 : en_381 24 = .inl (cy 8, 8, .inr (.inr (.inr (.inr (fun i => if i < 8 then some (r_368 i) else none))))) := by rw [hue_381 _ (by decide) (by decide)]; exact e24_380
  have he24a_381 : ad_381 24 = q_368 := by rw [hda_381 _ (by decide)]; exact he24a_380
  have e33_381 : en_381 33 = .inl (cy 0, 8, .inl (fun _ => 0)) := by rw [hue_381 _ (by decide) (by decide)]; exact e33_380
  have he33a_381 : ad_381 33 = q_370 := by rw [hda_381 _ (by decide)]; exact he33a_380
  have hew34a_381 : ad_381 34 = q_373 := by rw [hda_381 _ (by decide)]; exact hew34a_380
  have he38a_381 : ad_381 38 = q_380 := by rw [hda_381 _ (by decide)]; exact he38a_380
  have hwy_381 : ∀ j, j < 9 → en_381 (15 + j) = .inl (cy 0, 6, .inl (fun _ => 0)) := fun j hj => by rw [hue_381 _ (by omega) (by omega)]; exact hwy_380 j hj
  have hpf_381 : ∀ j, j < 8 → en_381 (25 + j) = .inl (cy 1, 9, .inr (.inl (fun _ => 0))) := fun j hj => by rw [hue_381 _ (by omega) (by omega)]; exact hpf_380 j hj
  have hv_381 : ∀ j, j < 1 → en_381 (34 + 4 * j) = .inr (5, [.ref (ad_381 (35 + 4 * j)), .ref (ad_381 (36 + 4 * j)), .ref (ad_381 (37 + 4 * j)), .int 0, .int 0, .int 0, .long 0, .long 0, .long 0, .long 0]) := fun j hj => by rw [hue_381 _ (flt 34 4 39 hj (by decide)) (fne 34 4 38 hj (by decide)), hda_381 _ (flt 35 4 39 hj (by decide)), hda_381 _ (flt 36 4 39 hj (by decide)), hda_381 _ (flt 37 4 39 hj (by decide))]; exact hv_380 j hj
  have hva_381 : ∀ j, j < 1 → en_381 (35 + 4 * j) = .inl (cy 0, 8, .inl (fun _ => 0)) := fun j hj => by rw [hue_381 _ (flt 35 4 39 hj (by decide)) (fne 35 4 38 hj (by decide))]; exact hva_380 j hj
  have hvb_381 : ∀ j, j < 1 → en_381 (36 + 4 * j) = .inl (cy 0, 8, .inl (fun _ => 0)) := fun j hj => by rw [hue_381 _ (flt 36 4 39 hj (by decide)) (fne 36 4 38 hj (by decide))]; exact hvb_380 j hj
  have hvc_381 : ∀ j, j < 1 → en_381 (37 + 4 * j) = .inl (cy 0, 8, .inl (fun _ => 0)) := fun j hj => by rw [hue_381 _ (flt 37 4 39 hj (by decide)) (fne 37 4 38 hj (by decide))]; exact hvc_380 j hj
  have ew38_381 := ew_381
  have hv_382 : ∀ j, j < 2 → en_381 (34 + 4 * j) = .inr (5, [.ref (ad_381 (35 + 4 * j)), .ref (ad_381 (36 + 4 * j)), .ref (ad_381 (37 + 4 * j)), .int 0, .int 0, .int 0, .long 0, .long 0, .long 0, .long 0]) := fun j hj => (Nat.lt_or_ge j 1).elim (fun h => hv_381 j h) (fun h => by have e0 : j = 1 := (by omega); subst e0; exact ew_381)
  have hva_383 : ∀ j, j < 2 → en_381 (35 + 4 * j) = .inl (cy 0, 8, .inl (fun _ => 0)) := fun j hj => (Nat.lt_or_ge j 1).elim (fun h => hva_381 j h) (fun h => by have e0 : j = 1 := (by omega); subst e0; exact ewa_381)
  have hvb_384 : ∀ j, j < 2 → en_381 (36 + 4 * j) = .inl (cy 0, 8, .inl (fun _ => 0)) := fun j hj => (Nat.lt_or_ge j 1).elim (fun h => hvb_381 j h) (fun h => by have e0 : j = 1 := (by omega); subst e0; exact ewb_381)
  have hvc_385 : ∀ j, j < 2 → en_381 (37 + 4 * j) = .inl (cy 0, 8, .inl (fun _ => 0)) := fun j hj => (Nat.lt_or_ge j 1).elim (fun h => hvc_381 j h) (fun h => by have e0 : j = 1 := (by omega); subst e0; exact ewc_381)
  clear et_380 heta_380 hex1a_380 e13_380 he13a_380 e14_380 he14a_380 e24_380 he24a_380 e33_380 he33a_380 hew34a_380 hwy_380 hpf_380 hv_380 hva_380 hvb_380 hvc_380 e38_380 he38a_380 hv_381 hva_381 hvb_381 hvc_381
  refine W.widen (k := 29) (n := 228) (Nat.le_refl _) (Nat.le_refl _) ?_
  refine hp_astq hx hb hK hh (q := 13) (v := 38) he13a_381 (List.mem_range.mpr (by decide)) he38a_381 (List.mem_range.mpr (by decide)) e13_381 ew38_381 rfl rfl (vp_in_iff.mpr (by decide)) dX2_init_70 (fun H locs en_386 hen_386 hh => ?_)
  have et_386 : en_386 12 = .inr (2, [.ref (ad 1), .ref q_364, .ref q_366, .ref q_368, .ref q_370, .int 0]) := by rw [hen_386, va_up_ne _ _ (by decide)]; exact et_381
  have e14_386 : en_386 14 = .inl (cy 7, 9, .inr (.inr (.inr (.inr (fun i => if i < 9 then some (r_366 i) else none))))) := by rw [hen_386, va_up_ne _ _ (by decide)]; exact e14_381
  have e24_386 : en_386 24 = .inl (cy 8, 8, .inr (.inr (.inr (.inr (fun i => if i < 8 then some (r_368 i) else none))))) := by rw [hen_386, va_up_ne _ _ (by decide)]; exact e24_381
  have e33_386 : en_386 33 = .inl (cy 0, 8, .inl (fun _ => 0)) := by rw [hen_386, va_up_ne _ _ (by decide)]; exact e33_381
  have ew38_386 : en_386 38 = .inr (5, [.ref (ad_381 39), .ref (ad_381 40), .ref (ad_381 41), .int 0, .int 0, .int 0, .long 0, .long 0, .long 0, .long 0]) := by rw [hen_386, va_up_ne _ _ (by decide)]; exact ew38_381
  have hwy_386 : ∀ j, j < 9 → en_386 (15 + j) = .inl (cy 0, 6, .inl (fun _ => 0)) := fun j hj => by rw [hen_386, va_up_ne _ _ (by omega)]; exact hwy_381 j hj
  have hpf_386 : ∀ j, j < 8 → en_386 (25 + j) = .inl (cy 1, 9, .inr (.inl (fun _ => 0))) := fun j hj => by rw [hen_386, va_up_ne _ _ (by omega)]; exact hpf_381 j hj
  have hv_386 : ∀ j, j < 2 → en_386 (34 + 4 * j) = .inr (5, [.ref (ad_381 (35 + 4 * j)), .ref (ad_381 (36 + 4 * j)), .ref (ad_381 (37 + 4 * j)), .int 0, .int 0, .int 0, .long 0, .long 0, .long 0, .long 0]) := fun j hj => by rw [hen_386, va_up_ne _ _ (fne2 34 4 13 (by decide))]; exact hv_382 j hj
  have hva_386 : ∀ j, j < 2 → en_386 (35 + 4 * j) = .inl (cy 0, 8, .inl (fun _ => 0)) := fun j hj => by rw [hen_386, va_up_ne _ _ (fne2 35 4 13 (by decide))]; exact hva_383 j hj
  have hvb_386 : ∀ j, j < 2 → en_386 (36 + 4 * j) = .inl (cy 0, 8, .inl (fun _ => 0)) := fun j hj => by rw [hen_386, va_up_ne _ _ (fne2 36 4 13 (by decide))]; exact hvb_384 j hj
  have hvc_386 : ∀ j, j < 2 → en_386 (37 + 4 * j) = .inl (cy 0, 8, .inl (fun _ => 0)) := fun j hj => by rw [hen_386, va_up_ne _ _ (fne2 37 4 13 (by decide))]; exact hvc_385 j hj
  have e13_386 : en_386 13 = .inl (cy 4, 9, .inr (.inr (.inr (.inr (va_up (va_up (fun _ => none) (0 : Int32).toNatClampNeg (some q_373)) (1 : Int32).toNatClampNeg (some q_380)))))) := by rw [hen_386]; exact va_up_self _ _ _
  clear et_381 e13_381 e14_381 e24_381 e33_381 hwy_381 hpf_381 hv_382 hva_383 hvb_384 hvc_385 ew38_386
  refine lv_iinc (v := 2) (lv' := [(2, .int 2), (0, .ref (ad 12)), (1, .ref (ad 1))]) hx hb dX2_init_71 hl (k := 0) rfl (by decide) (by decide) rfl (fun ls hl => ?_)
  refine lv_goto (tgt := 52) hx hb dX2_init_74 (by decide) ?_
  refine lv_iload_n hx hb dX2_init_52 rfl (lv_at hl 0 rfl) ?_
  refine lv_bipush (v := 8) hx hb dX2_init_53 (by decide) ?_
  refine lv_icmp_gt (tgt := 77) hx hb dX2_init_55 (by decide) (fun c_0 => absurd c_0 (by decide)) (fun _ => ?_)
  refine lv_aload_n hx hb dX2_init_58 rfl (lv_at hl 1 rfl) ?_
  refine hp_get hx hb hts ix2 hown hK hh (q := 12) heta_381 (List.mem_range.mpr (by decide)) et_386 rfl 1 (by decide) (hts _ tw_123) (fun _ h9 => h9) rfl dX2_init_59 ?_
  refine lv_iload_n hx hb dX2_init_62 rfl (lv_at hl 0 rfl) ?_
  refine hq_new (ci := 5) (fs := [.null, .null, .null, .int 0, .int 0, .int 0, .long 0, .long 0, .long 0, .long 0]) hx hb hts ix6 tyX6 tyX6_ok hown (hts _ tw_69) (hts _ tw_74) (hts _ tw_4) hK hh hA rfl (fun j hj => by rcases (show j = 0 ∨ j = 1 ∨ j = 2 ∨ j = 3 ∨ j = 4 ∨ j = 5 ∨ j = 6 ∨ j = 7 ∨ j = 8 ∨ j = 9 by omega) with rfl | rfl | rfl | rfl | rfl | rfl | rfl | rfl | rfl | rfl <;> rfl) (Nat.le_of_ble_eq_true rfl) (Nat.le_of_ble_eq_true rfl) dX2_init_63 (fun q_387 H ad_387 en_387 had_387 hen_387 hh => ?_)
  have hh : Hp D A A s.heap H _ (List.range 43) ad_387 en_387 := hh
  have et_387 : en_387 12 = .inr (2, [.ref (ad 1), .ref q_364, .ref q_366, .ref q_368, .ref q_370, .int 0]) := by rw [hen_387, va_up_ne _ _ (by decide)]; exact et_386
  have heta_387 : ad_387 12 = (ad 12) := by rw [had_387, va_up_ne _ _ (by decide)]; exact heta_381
  have hex1a_387 : ad_387 1 = (ad 1) := by rw [had_387, va_up_ne _ _ (by decide)]; exact hex1a_381
  have e13_387 : en_387 13 = .inl (cy 4, 9, .inr (.inr (.inr (.inr (va_up (va_up (fun _ => none) (0 : Int32).toNatClampNeg (some q_373)) (1 : Int32).toNatClampNeg (some q_380)))))) := by rw [hen_387, va_up_ne _ _ (by decide)]; exact e13_386
  have he13a_387 : ad_387 13 = q_364 := by rw [had_387, va_up_ne _ _ (by decide)]; exact he13a_381
  have e14_387 : en_387 14 = .inl (cy 7, 9, .inr (.inr (.inr (.inr (fun i => if i < 9 then some (r_366 i) else none))))) := by rw [hen_387, va_up_ne _ _ (by decide)]; exact e14_386
  have he14a_387 : ad_387 14 = q_366 := by rw [had_387, va_up_ne _ _ (by decide)]; exact he14a_381
  have e24_387 : en_387 24 = .inl (cy 8, 8, .inr (.inr (.inr (.inr (fun i => if i < 8 then some (r_368 i) else none))))) := by rw [hen_387, va_up_ne _ _ (by decide)]; exact e24_386
  have he24a_387 : ad_387 24 = q_368 := by rw [had_387, va_up_ne _ _ (by decide)]; exact he24a_381
  have e33_387 : en_387 33 = .inl (cy 0, 8, .inl (fun _ => 0)) := by rw [hen_387, va_up_ne _ _ (by decide)]; exact e33_386
  have he33a_387 : ad_387 33 = q_370 := by rw [had_387, va_up_ne _ _ (by decide)]; exact he33a_381
  have hew34a_387 : ad_387 34 = q_373 := by rw [had_387, va_up_ne _ _ (by decide)]; exact hew34a_381
  have hew38a_387 : ad_387 38 = q_380 := by rw [had_387, va_up_ne _ _ (by decide)]; exact he38a_381
  have hwy_387 : ∀ j, j < 9 → en_387 (15 + j) = .inl (cy 0, 6, .inl (fun _ => 0)) := fun j hj => by rw [hen_387, va_up_ne _ _ (by omega)]; exact hwy_386 j hj
  have hpf_387 : ∀ j, j < 8 → en_387 (25 + j) = .inl (cy 1, 9, .inr (.inl (fun _ => 0))) := fun j hj => by rw [hen_387, va_up_ne _ _ (by omega)]; exact hpf_386 j hj
  have hv_387 : ∀ j, j < 2 → en_387 (34 + 4 * j) = .inr (5, [.ref (ad_387 (35 + 4 * j)), .ref (ad_387 (36 + 4 * j)), .ref (ad_387 (37 + 4 * j)), .int 0, .int 0, .int 0, .long 0, .long 0, .long 0, .long 0]) := fun j hj => by rw [hen_387, va_up_ne _ _ (fne 34 4 42 hj (by decide)), had_387, va_up_ne _ _ (fne 35 4 42 hj (by decide)), va_up_ne _ _ (fne 36 4 42 hj (by decide)), va_up_ne _ _ (fne 37 4 42 hj (by decide))]; exact hv_386 j hj
  have hva_387 : ∀ j, j < 2 → en_387 (35 + 4 * j) = .inl (cy 0, 8, .inl (fun _ => 0)) := fun j hj => by rw [hen_387, va_up_ne _ _ (fne 35 4 42 hj (by decide))]; exact hva_386 j hj
  have hvb_387 : ∀ j, j < 2 → en_387 (36 + 4 * j) = .inl (cy 0, 8, .inl (fun _ => 0)) := fun j hj => by rw [hen_387, va_up_ne _ _ (fne 36 4 42 hj (by decide))]; exact hvb_386 j hj
  have hvc_387 : ∀ j, j < 2 → en_387 (37 + 4 * j) = .inl (cy 0, 8, .inl (fun _ => 0)) := fun j hj => by rw [hen_387, va_up_ne _ _ (fne 37 4 42 hj (by decide))]; exact hvc_386 j hj
  have e42_387 : en_387 42 = .inr (5, [.null, .null, .null, .int 0, .int 0, .int 0, .long 0, .long 0, .long 0, .long 0]) := by rw [hen_387]; exact va_up_self _ _ _
  have he42a_387 : ad_387 42 = q_387 := by rw [had_387]; exact va_up_self _ _ _
  clear heta_381 hex1a_381 he13a_381 he14a_381 he24a_381 he33a_381 hew34a_381 he38a_381 et_386 e14_386 e24_386 e33_386 hwy_386 hpf_386 hv_386 hva_386 hvb_386 hvc_386 e13_386
  refine W.widen (k := 30) (n := 238) (Nat.le_refl _) (Nat.le_refl _) ?_
  refine lv_dup hx hb dX2_init_66 rfl ?_
  refine W.eq (g2 := F0 m 67 ls [.ref (ad_387 42), .ref q_387, .int 2, .ref q_364]) (by rw [he42a_387]) ?_
  refine hq_callC (va_runIN (As := []) (rest := [.ref q_387, .int 2, .ref q_364]) ⟨hx, hb, hml, hown, hts⟩ (c_X6_init l D cy _ ad_387 en_387 43 42 (by decide) e42_387) (kw_X6_init hts hX.2.2.2.2.2.2.1 ⟨by decide, by decide⟩) (preC_of hh hK hX) rfl rfl hl.1 rfl (lv_room (Nat.le_of_ble_eq_true rfl)) dX2_init_67 ⟨Nat.le_of_ble_eq_true rfl, Nat.le_of_ble_eq_true rfl⟩) hh hA (fun H locs ad_388 en_388 hw_388 hh => ?_)
  have hh : Hp D A A s.heap H _ (List.range 46) ad_388 en_388 := hh
  obtain ⟨hda_388, hue_388, ew_388, ewa_388, ewb_388, ewc_388⟩ := hw_388
  dsimp only at hda_388 hue_388 ew_388 ewa_388 ewb_388 ewc_388
  have et_388 : en_388 12 = .inr (2, [.ref (ad 1), .ref q_364, .ref q_366, .ref q_368, .ref q_370, .int 0]) := by rw [hue_388 _ (by decide) (by decide)]; exact et_387
  have heta_388 : ad_388 12 = (ad 12) := by rw [hda_388 _ (by decide)]; exact heta_387
  have hex1a_388 : ad_388 1 = (ad 1) := by rw [hda_388 _ (by decide)]; exact hex1a_387
  have e13_388 : en_388 13 = .inl (cy 4, 9, .inr (.inr (.inr (.inr (va_up (va_up (fun _ => none) (0 : Int32).toNatClampNeg (some q_373)) (1 : Int32).toNatClampNeg (some q_380)))))) := by rw [hue_388 _ (by decide) (by decide)]; exact e13_387
  have he13a_388 : ad_388 13 = q_364 := by rw [hda_388 _ (by decide)]; exact he13a_387
  have e14_388 : en_388 14 = .inl (cy 7, 9, .inr (.inr (.inr (.inr (fun i => if i < 9 then some (r_366 i) else none))))) := by rw [hue_388 _ (by decide) (by decide)]; exact e14_387
  have he14a_388 : ad_388 14 = q_366 := by rw [hda_388 _ (by decide)]; exact he14a_387
  have e24_388 : en_388 24 = .inl (cy 8, 8, .inr (.inr (.inr (.inr (fun i => if i < 8 then some (r_368 i) else none))))) := by rw [hue_388 _ (by decide) (by decide)]; exact e24_387
  have he24a_388 : ad_388 24 = q_368 := by rw [hda_388 _ (by decide)]; exact he24a_387
  have e33_388 : en_388 33 = .inl (cy 0, 8, .inl (fun _ => 0)) := by rw [hue_388 _ (by decide) (by decide)]; exact e33_387
  have he33a_388 : ad_388 33 = q_370 := by rw [hda_388 _ (by decide)]; exact he33a_387
  have hew34a_388 : ad_388 34 = q_373 := by rw [hda_388 _ (by decide)]; exact hew34a_387
  have hew38a_388 : ad_388 38 = q_380 := by rw [hda_388 _ (by decide)]; exact hew38a_387
  have he42a_388 : ad_388 42 = q_387 := by rw [hda_388 _ (by decide)]; exact he42a_387
  have hwy_388 : ∀ j, j < 9 → en_388 (15 + j) = .inl (cy 0, 6, .inl (fun _ => 0)) := fun j hj => by rw [hue_388 _ (by omega) (by omega)]; exact hwy_387 j hj
  have hpf_388 : ∀ j, j < 8 → en_388 (25 + j) = .inl (cy 1, 9, .inr (.inl (fun _ => 0))) := fun j hj => by rw [hue_388 _ (by omega) (by omega)]; exact hpf_387 j hj
  have hv_388 : ∀ j, j < 2 → en_388 (34 + 4 * j) = .inr (5, [.ref (ad_388 (35 + 4 * j)), .ref (ad_388 (36 + 4 * j)), .ref (ad_388 (37 + 4 * j)), .int 0, .int 0, .int 0, .long 0, .long 0, .long 0, .long 0]) := fun j hj => by rw [hue_388 _ (flt 34 4 43 hj (by decide)) (fne 34 4 42 hj (by decide)), hda_388 _ (flt 35 4 43 hj (by decide)), hda_388 _ (flt 36 4 43 hj (by decide)), hda_388 _ (flt 37 4 43 hj (by decide))]; exact hv_387 j hj
  have hva_388 : ∀ j, j < 2 → en_388 (35 + 4 * j) = .inl (cy 0, 8, .inl (fun _ => 0)) := fun j hj => by rw [hue_388 _ (flt 35 4 43 hj (by decide)) (fne 35 4 42 hj (by decide))]; exact hva_387 j hj
  have hvb_388 : ∀ j, j < 2 → en_388 (36 + 4 * j) = .inl (cy 0, 8, .inl (fun _ => 0)) := fun j hj => by rw [hue_388 _ (flt 36 4 43 hj (by decide)) (fne 36 4 42 hj (by decide))]; exact hvb_387 j hj
  have hvc_388 : ∀ j, j < 2 → en_388 (37 + 4 * j) = .inl (cy 0, 8, .inl (fun _ => 0)) := fun j hj => by rw [hue_388 _ (flt 37 4 43 hj (by decide)) (fne 37 4 42 hj (by decide))]; exact hvc_387 j hj
  have ew42_388 := ew_388
  have hv_389 : ∀ j, j < 3 → en_388 (34 + 4 * j) = .inr (5, [.ref (ad_388 (35 + 4 * j)), .ref (ad_388 (36 + 4 * j)), .ref (ad_388 (37 + 4 * j)), .int 0, .int 0, .int 0, .long 0, .long 0, .long 0, .long 0]) := fun j hj => (Nat.lt_or_ge j 2).elim (fun h => hv_388 j h) (fun h => by have e0 : j = 2 := (by omega); subst e0; exact ew_388)
  have hva_390 : ∀ j, j < 3 → en_388 (35 + 4 * j) = .inl (cy 0, 8, .inl (fun _ => 0)) := fun j hj => (Nat.lt_or_ge j 2).elim (fun h => hva_388 j h) (fun h => by have e0 : j = 2 := (by omega); subst e0; exact ewa_388)
  have hvb_391 : ∀ j, j < 3 → en_388 (36 + 4 * j) = .inl (cy 0, 8, .inl (fun _ => 0)) := fun j hj => (Nat.lt_or_ge j 2).elim (fun h => hvb_388 j h) (fun h => by have e0 : j = 2 := (by omega); subst e0; exact ewb_388)
  have hvc_392 : ∀ j, j < 3 → en_388 (37 + 4 * j) = .inl (cy 0, 8, .inl (fun _ => 0)) := fun j hj => (Nat.lt_or_ge j 2).elim (fun h => hvc_388 j h) (fun h => by have e0 : j = 2 := (by omega); subst e0; exact ewc_388)
  clear et_387 heta_387 hex1a_387 e13_387 he13a_387 e14_387 he14a_387 e24_387 he24a_387 e33_387 he33a_387 hew34a_387 hew38a_387 hwy_387 hpf_387 hv_387 hva_387 hvb_387 hvc_387 e42_387 he42a_387 hv_388 hva_388 hvb_388 hvc_388
  refine W.widen (k := 33) (n := 262) (Nat.le_refl _) (Nat.le_refl _) ?_
  refine hp_astq hx hb hK hh (q := 13) (v := 42) he13a_388 (List.mem_range.mpr (by decide)) he42a_388 (List.mem_range.mpr (by decide)) e13_388 ew42_388 rfl rfl (vp_in_iff.mpr (by decide)) dX2_init_70 (fun H locs en_393 hen_393 hh => ?_)
  have et_393 : en_393 12 = .inr (2, [.ref (ad 1), .ref q_364, .ref q_366, .ref q_368, .ref q_370, .int 0]) := by rw [hen_393, va_up_ne _ _ (by decide)]; exact et_388
  have e14_393 : en_393 14 = .inl (cy 7, 9, .inr (.inr (.inr (.inr (fun i => if i < 9 then some (r_366 i) else none))))) := by rw [hen_393, va_up_ne _ _ (by decide)]; exact e14_388
  have e24_393 : en_393 24 = .inl (cy 8, 8, .inr (.inr (.inr (.inr (fun i => if i < 8 then some (r_368 i) else none))))) := by rw [hen_393, va_up_ne _ _ (by decide)]; exact e24_388
  have e33_393 : en_393 33 = .inl (cy 0, 8, .inl (fun _ => 0)) := by rw [hen_393, va_up_ne _ _ (by decide)]; exact e33_388
  have ew42_393 : en_393 42 = .inr (5, [.ref (ad_388 43), .ref (ad_388 44), .ref (ad_388 45), .int 0, .int 0, .int 0, .long 0, .long 0, .long 0, .long 0]) := by rw [hen_393, va_up_ne _ _ (by decide)]; exact ew42_388
  have hwy_393 : ∀ j, j < 9 → en_393 (15 + j) = .inl (cy 0, 6, .inl (fun _ => 0)) := fun j hj => by rw [hen_393, va_up_ne _ _ (by omega)]; exact hwy_388 j hj
  have hpf_393 : ∀ j, j < 8 → en_393 (25 + j) = .inl (cy 1, 9, .inr (.inl (fun _ => 0))) := fun j hj => by rw [hen_393, va_up_ne _ _ (by omega)]; exact hpf_388 j hj
  have hv_393 : ∀ j, j < 3 → en_393 (34 + 4 * j) = .inr (5, [.ref (ad_388 (35 + 4 * j)), .ref (ad_388 (36 + 4 * j)), .ref (ad_388 (37 + 4 * j)), .int 0, .int 0, .int 0, .long 0, .long 0, .long 0, .long 0]) := fun j hj => by rw [hen_393, va_up_ne _ _ (fne2 34 4 13 (by decide))]; exact hv_389 j hj
  have hva_393 : ∀ j, j < 3 → en_393 (35 + 4 * j) = .inl (cy 0, 8, .inl (fun _ => 0)) := fun j hj => by rw [hen_393, va_up_ne _ _ (fne2 35 4 13 (by decide))]; exact hva_390 j hj
  have hvb_393 : ∀ j, j < 3 → en_393 (36 + 4 * j) = .inl (cy 0, 8, .inl (fun _ => 0)) := fun j hj => by rw [hen_393, va_up_ne _ _ (fne2 36 4 13 (by decide))]; exact hvb_391 j hj
  have hvc_393 : ∀ j, j < 3 → en_393 (37 + 4 * j) = .inl (cy 0, 8, .inl (fun _ => 0)) := fun j hj => by rw [hen_393, va_up_ne _ _ (fne2 37 4 13 (by decide))]; exact hvc_392 j hj
  have e13_393 : en_393 13 = .inl (cy 4, 9, .inr (.inr (.inr (.inr (va_up (va_up (va_up (fun _ => none) (0 : Int32).toNatClampNeg (some q_373)) (1 : Int32).toNatClampNeg (some q_380)) (2 : Int32).toNatClampNeg (some q_387)))))) := by rw [hen_393]; exact va_up_self _ _ _
  clear et_388 e13_388 e14_388 e24_388 e33_388 hwy_388 hpf_388 hv_389 hva_390 hvb_391 hvc_392 ew42_393
  refine lv_iinc (v := 3) (lv' := [(2, .int 3), (0, .ref (ad 12)), (1, .ref (ad 1))]) hx hb dX2_init_71 hl (k := 0) rfl (by decide) (by decide) rfl (fun ls hl => ?_)
  refine lv_goto (tgt := 52) hx hb dX2_init_74 (by decide) ?_
  refine lv_iload_n hx hb dX2_init_52 rfl (lv_at hl 0 rfl) ?_
  refine lv_bipush (v := 8) hx hb dX2_init_53 (by decide) ?_
  refine lv_icmp_gt (tgt := 77) hx hb dX2_init_55 (by decide) (fun c_0 => absurd c_0 (by decide)) (fun _ => ?_)
  refine lv_aload_n hx hb dX2_init_58 rfl (lv_at hl 1 rfl) ?_
  refine hp_get hx hb hts ix2 hown hK hh (q := 12) heta_388 (List.mem_range.mpr (by decide)) et_393 rfl 1 (by decide) (hts _ tw_123) (fun _ h9 => h9) rfl dX2_init_59 ?_
  refine lv_iload_n hx hb dX2_init_62 rfl (lv_at hl 0 rfl) ?_
  refine hq_new (ci := 5) (fs := [.null, .null, .null, .int 0, .int 0, .int 0, .long 0, .long 0, .long 0, .long 0]) hx hb hts ix6 tyX6 tyX6_ok hown (hts _ tw_69) (hts _ tw_74) (hts _ tw_4) hK hh hA rfl (fun j hj => by rcases (show j = 0 ∨ j = 1 ∨ j = 2 ∨ j = 3 ∨ j = 4 ∨ j = 5 ∨ j = 6 ∨ j = 7 ∨ j = 8 ∨ j = 9 by omega) with rfl | rfl | rfl | rfl | rfl | rfl | rfl | rfl | rfl | rfl <;> rfl) (Nat.le_of_ble_eq_true rfl) (Nat.le_of_ble_eq_true rfl) dX2_init_63 (fun q_394 H ad_394 en_394 had_394 hen_394 hh => ?_)
  have hh : Hp D A A s.heap H _ (List.range 47) ad_394 en_394 := hh
  have et_394 : en_394 12 = .inr (2, [.ref (ad 1), .ref q_364, .ref q_366, .ref q_368, .ref q_370, .int 0]) := by rw [hen_394, va_up_ne _ _ (by decide)]; exact et_393
  have heta_394 : ad_394 12 = (ad 12) := by rw [had_394, va_up_ne _ _ (by decide)]; exact heta_388
  have hex1a_394 : ad_394 1 = (ad 1) := by rw [had_394, va_up_ne _ _ (by decide)]; exact hex1a_388
  have e13_394 : en_394 13 = .inl (cy 4, 9, .inr (.inr (.inr (.inr (va_up (va_up (va_up (fun _ => none) (0 : Int32).toNatClampNeg (some q_373)) (1 : Int32).toNatClampNeg (some q_380)) (2 : Int32).toNatClampNeg (some q_387)))))) := by rw [hen_394, va_up_ne _ _ (by decide)]; exact e13_393
  have he13a_394 : ad_394 13 = q_364 := by rw [had_394, va_up_ne _ _ (by decide)]; exact he13a_388
  have e14_394 : en_394 14 = .inl (cy 7, 9, .inr (.inr (.inr (.inr (fun i => if i < 9 then some (r_366 i) else none))))) := by rw [hen_394, va_up_ne _ _ (by decide)]; exact e14_393
  have he14a_394 : ad_394 14 = q_366 := by rw [had_394, va_up_ne _ _ (by decide)]; exact he14a_388
  have e24_394 : en_394 24 = .inl (cy 8, 8, .inr (.inr (.inr (.inr (fun i => if i < 8 then some (r_368 i) else none))))) := by rw [hen_394, va_up_ne _ _ (by decide)]; exact e24_393
  have he24a_394 : ad_394 24 = q_368 := by rw [had_394, va_up_ne _ _ (by decide)]; exact he24a_388
  have e33_394 : en_394 33 = .inl (cy 0, 8, .inl (fun _ => 0)) := by rw [hen_394, va_up_ne _ _ (by decide)]; exact e33_393
  have he33a_394 : ad_394 33 = q_370 := by rw [had_394, va_up_ne _ _ (by decide)]; exact he33a_388
  have hew34a_394 : ad_394 34 = q_373 := by rw [had_394, va_up_ne _ _ (by decide)]; exact hew34a_388
  have hew38a_394 : ad_394 38 = q_380 := by rw [had_394, va_up_ne _ _ (by decide)]; exact hew38a_388
  have hew42a_394 : ad_394 42 = q_387 := by rw [had_394, va_up_ne _ _ (by decide)]; exact he42a_388
  have hwy_394 : ∀ j, j < 9 → en_394 (15 + j) = .inl (cy 0, 6, .inl (fun _ => 0)) := fun j hj => by rw [hen_394, va_up_ne _ _ (by omega)]; exact hwy_393 j hj
  have hpf_394 : ∀ j, j < 8 → en_394 (25 + j) = .inl (cy 1, 9, .inr (.inl (fun _ => 0))) := fun j hj => by rw [hen_394, va_up_ne _ _ (by omega)]; exact hpf_393 j hj
  have hv_394 : ∀ j, j < 3 → en_394 (34 + 4 * j) = .inr (5, [.ref (ad_394 (35 + 4 * j)), .ref (ad_394 (36 + 4 * j)), .ref (ad_394 (37 + 4 * j)), .int 0, .int 0, .int 0, .long 0, .long 0, .long 0, .long 0]) := fun j hj => by rw [hen_394, va_up_ne _ _ (fne 34 4 46 hj (by decide)), had_394, va_up_ne _ _ (fne 35 4 46 hj (by decide)), va_up_ne _ _ (fne 36 4 46 hj (by decide)), va_up_ne _ _ (fne 37 4 46 hj (by decide))]; exact hv_393 j hj
  have hva_394 : ∀ j, j < 3 → en_394 (35 + 4 * j) = .inl (cy 0, 8, .inl (fun _ => 0)) := fun j hj => by rw [hen_394, va_up_ne _ _ (fne 35 4 46 hj (by decide))]; exact hva_393 j hj
  have hvb_394 : ∀ j, j < 3 → en_394 (36 + 4 * j) = .inl (cy 0, 8, .inl (fun _ => 0)) := fun j hj => by rw [hen_394, va_up_ne _ _ (fne 36 4 46 hj (by decide))]; exact hvb_393 j hj
  have hvc_394 : ∀ j, j < 3 → en_394 (37 + 4 * j) = .inl (cy 0, 8, .inl (fun _ => 0)) := fun j hj => by rw [hen_394, va_up_ne _ _ (fne 37 4 46 hj (by decide))]; exact hvc_393 j hj
  have e46_394 : en_394 46 = .inr (5, [.null, .null, .null, .int 0, .int 0, .int 0, .long 0, .long 0, .long 0, .long 0]) := by rw [hen_394]; exact va_up_self _ _ _
  have he46a_394 : ad_394 46 = q_394 := by rw [had_394]; exact va_up_self _ _ _
  clear heta_388 hex1a_388 he13a_388 he14a_388 he24a_388 he33a_388 hew34a_388 hew38a_388 he42a_388 et_393 e14_393 e24_393 e33_393 hwy_393 hpf_393 hv_393 hva_393 hvb_393 hvc_393 e13_393
  refine W.widen (k := 34) (n := 272) (Nat.le_refl _) (Nat.le_refl _) ?_
  refine lv_dup hx hb dX2_init_66 rfl ?_
  refine W.eq (g2 := F0 m 67 ls [.ref (ad_394 46), .ref q_394, .int 3, .ref q_364]) (by rw [he46a_394]) ?_
  refine hq_callC (va_runIN (As := []) (rest := [.ref q_394, .int 3, .ref q_364]) ⟨hx, hb, hml, hown, hts⟩ (c_X6_init l D cy _ ad_394 en_394 47 46 (by decide) e46_394) (kw_X6_init hts hX.2.2.2.2.2.2.1 ⟨by decide, by decide⟩) (preC_of hh hK hX) rfl rfl hl.1 rfl (lv_room (Nat.le_of_ble_eq_true rfl)) dX2_init_67 ⟨Nat.le_of_ble_eq_true rfl, Nat.le_of_ble_eq_true rfl⟩) hh hA (fun H locs ad_395 en_395 hw_395 hh => ?_)
  have hh : Hp D A A s.heap H _ (List.range 50) ad_395 en_395 := hh
  obtain ⟨hda_395, hue_395, ew_395, ewa_395, ewb_395, ewc_395⟩ := hw_395
  dsimp only at hda_395 hue_395 ew_395 ewa_395 ewb_395 ewc_395
  have et_395 : en_395 12 = .inr (2, [.ref (ad 1), .ref q_364, .ref q_366, .ref q_368, .ref q_370, .int 0]) := by rw [hue_395 _ (by decide) (by decide)]; exact et_394
  have heta_395 : ad_395 12 = (ad 12) := by rw [hda_395 _ (by decide)]; exact heta_394
  have hex1a_395 : ad_395 1 = (ad 1) := by rw [hda_395 _ (by decide)]; exact hex1a_394
  have e13_395 : en_395 13 = .inl (cy 4, 9, .inr (.inr (.inr (.inr (va_up (va_up (va_up (fun _ => none) (0 : Int32).toNatClampNeg (some q_373)) (1 : Int32).toNatClampNeg (some q_380)) (2 : Int32).toNatClampNeg (some q_387)))))) := by rw [hue_395 _ (by decide) (by decide)]; exact e13_394
  have he13a_395 : ad_395 13 = q_364 := by rw [hda_395 _ (by decide)]; exact he13a_394
  have e14_395 : en_395 14 = .inl (cy 7, 9, .inr (.inr (.inr (.inr (fun i => if i < 9 then some (r_366 i) else none))))) := by rw [hue_395 _ (by decide) (by decide)]; exact e14_394
  have he14a_395 : ad_395 14 = q_366 := by rw [hda_395 _ (by decide)]; exact he14a_394
  have e24_395 : en_395 24 = .inl (cy 8, 8, .inr (.inr (.inr (.inr (fun i => if i < 8 then some (r_368 i) else none))))) := by rw [hue_395 _ (by decide) (by decide)]; exact e24_394
  have he24a_395 : ad_395 24 = q_368 := by rw [hda_395 _ (by decide)]; exact he24a_394
  have e33_395 : en_395 33 = .inl (cy 0, 8, .inl (fun _ => 0)) := by rw [hue_395 _ (by decide) (by decide)]; exact e33_394
  have he33a_395 : ad_395 33 = q_370 := by rw [hda_395 _ (by decide)]; exact he33a_394
  have hew34a_395 : ad_395 34 = q_373 := by rw [hda_395 _ (by decide)]; exact hew34a_394
  have hew38a_395 : ad_395 38 = q_380 := by rw [hda_395 _ (by decide)]; exact hew38a_394
  have hew42a_395 : ad_395 42 = q_387 := by rw [hda_395 _ (by decide)]; exact hew42a_394
  have he46a_395 : ad_395 46 = q_394 := by rw [hda_395 _ (by decide)]; exact he46a_394
  have hwy_395 : ∀ j, j < 9 → en_395 (15 + j) = .inl (cy 0, 6, .inl (fun _ => 0)) := fun j hj => by rw [hue_395 _ (by omega) (by omega)]; exact hwy_394 j hj
  have hpf_395 : ∀ j, j < 8 → en_395 (25 + j) = .inl (cy 1, 9, .inr (.inl (fun _ => 0))) := fun j hj => by rw [hue_395 _ (by omega) (by omega)]; exact hpf_394 j hj
  have hv_395 : ∀ j, j < 3 → en_395 (34 + 4 * j) = .inr (5, [.ref (ad_395 (35 + 4 * j)), .ref (ad_395 (36 + 4 * j)), .ref (ad_395 (37 + 4 * j)), .int 0, .int 0, .int 0, .long 0, .long 0, .long 0, .long 0]) := fun j hj => by rw [hue_395 _ (flt 34 4 47 hj (by decide)) (fne 34 4 46 hj (by decide)), hda_395 _ (flt 35 4 47 hj (by decide)), hda_395 _ (flt 36 4 47 hj (by decide)), hda_395 _ (flt 37 4 47 hj (by decide))]; exact hv_394 j hj
  have hva_395 : ∀ j, j < 3 → en_395 (35 + 4 * j) = .inl (cy 0, 8, .inl (fun _ => 0)) := fun j hj => by rw [hue_395 _ (flt 35 4 47 hj (by decide)) (fne 35 4 46 hj (by decide))]; exact hva_394 j hj
  have hvb_395 : ∀ j, j < 3 → en_395 (36 + 4 * j) = .inl (cy 0, 8, .inl (fun _ => 0)) := fun j hj => by rw [hue_395 _ (flt 36 4 47 hj (by decide)) (fne 36 4 46 hj (by decide))]; exact hvb_394 j hj
  have hvc_395 : ∀ j, j < 3 → en_395 (37 + 4 * j) = .inl (cy 0, 8, .inl (fun _ => 0)) := fun j hj => by rw [hue_395 _ (flt 37 4 47 hj (by decide)) (fne 37 4 46 hj (by decide))]; exact hvc_394 j hj
  have ew46_395 := ew_395
  have hv_396 : ∀ j, j < 4 → en_395 (34 + 4 * j) = .inr (5, [.ref (ad_395 (35 + 4 * j)), .ref (ad_395 (36 + 4 * j)), .ref (ad_395 (37 + 4 * j)), .int 0, .int 0, .int 0, .long 0, .long 0, .long 0, .long 0]) := fun j hj => (Nat.lt_or_ge j 3).elim (fun h => hv_395 j h) (fun h => by have e0 : j = 3 := (by omega); subst e0; exact ew_395)
  have hva_397 : ∀ j, j < 4 → en_395 (35 + 4 * j) = .inl (cy 0, 8, .inl (fun _ => 0)) := fun j hj => (Nat.lt_or_ge j 3).elim (fun h => hva_395 j h) (fun h => by have e0 : j = 3 := (by omega); subst e0; exact ewa_395)
  have hvb_398 : ∀ j, j < 4 → en_395 (36 + 4 * j) = .inl (cy 0, 8, .inl (fun _ => 0)) := fun j hj => (Nat.lt_or_ge j 3).elim (fun h => hvb_395 j h) (fun h => by have e0 : j = 3 := (by omega); subst e0; exact ewb_395)
  have hvc_399 : ∀ j, j < 4 → en_395 (37 + 4 * j) = .inl (cy 0, 8, .inl (fun _ => 0)) := fun j hj => (Nat.lt_or_ge j 3).elim (fun h => hvc_395 j h) (fun h => by have e0 : j = 3 := (by omega); subst e0; exact ewc_395)
  clear et_394 heta_394 hex1a_394 e13_394 he13a_394 e14_394 he14a_394 e24_394 he24a_394 e33_394 he33a_394 hew34a_394 hew38a_394 hew42a_394 hwy_394 hpf_394 hv_394 hva_394 hvb_394 hvc_394 e46_394 he46a_394 hv_395 hva_395 hvb_395 hvc_395
  refine W.widen (k := 37) (n := 296) (Nat.le_refl _) (Nat.le_refl _) ?_
  refine hp_astq hx hb hK hh (q := 13) (v := 46) he13a_395 (List.mem_range.mpr (by decide)) he46a_395 (List.mem_range.mpr (by decide)) e13_395 ew46_395 rfl rfl (vp_in_iff.mpr (by decide)) dX2_init_70 (fun H locs en_400 hen_400 hh => ?_)
  have et_400 : en_400 12 = .inr (2, [.ref (ad 1), .ref q_364, .ref q_366, .ref q_368, .ref q_370, .int 0]) := by rw [hen_400, va_up_ne _ _ (by decide)]; exact et_395
  have e14_400 : en_400 14 = .inl (cy 7, 9, .inr (.inr (.inr (.inr (fun i => if i < 9 then some (r_366 i) else none))))) := by rw [hen_400, va_up_ne _ _ (by decide)]; exact e14_395
  have e24_400 : en_400 24 = .inl (cy 8, 8, .inr (.inr (.inr (.inr (fun i => if i < 8 then some (r_368 i) else none))))) := by rw [hen_400, va_up_ne _ _ (by decide)]; exact e24_395
  have e33_400 : en_400 33 = .inl (cy 0, 8, .inl (fun _ => 0)) := by rw [hen_400, va_up_ne _ _ (by decide)]; exact e33_395
  have ew46_400 : en_400 46 = .inr (5, [.ref (ad_395 47), .ref (ad_395 48), .ref (ad_395 49), .int 0, .int 0, .int 0, .long 0, .long 0, .long 0, .long 0]) := by rw [hen_400, va_up_ne _ _ (by decide)]; exact ew46_395
  have hwy_400 : ∀ j, j < 9 → en_400 (15 + j) = .inl (cy 0, 6, .inl (fun _ => 0)) := fun j hj => by rw [hen_400, va_up_ne _ _ (by omega)]; exact hwy_395 j hj
  have hpf_400 : ∀ j, j < 8 → en_400 (25 + j) = .inl (cy 1, 9, .inr (.inl (fun _ => 0))) := fun j hj => by rw [hen_400, va_up_ne _ _ (by omega)]; exact hpf_395 j hj
  have hv_400 : ∀ j, j < 4 → en_400 (34 + 4 * j) = .inr (5, [.ref (ad_395 (35 + 4 * j)), .ref (ad_395 (36 + 4 * j)), .ref (ad_395 (37 + 4 * j)), .int 0, .int 0, .int 0, .long 0, .long 0, .long 0, .long 0]) := fun j hj => by rw [hen_400, va_up_ne _ _ (fne2 34 4 13 (by decide))]; exact hv_396 j hj
  have hva_400 : ∀ j, j < 4 → en_400 (35 + 4 * j) = .inl (cy 0, 8, .inl (fun _ => 0)) := fun j hj => by rw [hen_400, va_up_ne _ _ (fne2 35 4 13 (by decide))]; exact hva_397 j hj
  have hvb_400 : ∀ j, j < 4 → en_400 (36 + 4 * j) = .inl (cy 0, 8, .inl (fun _ => 0)) := fun j hj => by rw [hen_400, va_up_ne _ _ (fne2 36 4 13 (by decide))]; exact hvb_398 j hj
  have hvc_400 : ∀ j, j < 4 → en_400 (37 + 4 * j) = .inl (cy 0, 8, .inl (fun _ => 0)) := fun j hj => by rw [hen_400, va_up_ne _ _ (fne2 37 4 13 (by decide))]; exact hvc_399 j hj
  have e13_400 : en_400 13 = .inl (cy 4, 9, .inr (.inr (.inr (.inr (va_up (va_up (va_up (va_up (fun _ => none) (0 : Int32).toNatClampNeg (some q_373)) (1 : Int32).toNatClampNeg (some q_380)) (2 : Int32).toNatClampNeg (some q_387)) (3 : Int32).toNatClampNeg (some q_394)))))) := by rw [hen_400]; exact va_up_self _ _ _
  clear et_395 e13_395 e14_395 e24_395 e33_395 hwy_395 hpf_395 hv_396 hva_397 hvb_398 hvc_399 ew46_400
  refine lv_iinc (v := 4) (lv' := [(2, .int 4), (0, .ref (ad 12)), (1, .ref (ad 1))]) hx hb dX2_init_71 hl (k := 0) rfl (by decide) (by decide) rfl (fun ls hl => ?_)
  refine lv_goto (tgt := 52) hx hb dX2_init_74 (by decide) ?_
  refine lv_iload_n hx hb dX2_init_52 rfl (lv_at hl 0 rfl) ?_
  refine lv_bipush (v := 8) hx hb dX2_init_53 (by decide) ?_
  refine lv_icmp_gt (tgt := 77) hx hb dX2_init_55 (by decide) (fun c_0 => absurd c_0 (by decide)) (fun _ => ?_)
  refine lv_aload_n hx hb dX2_init_58 rfl (lv_at hl 1 rfl) ?_
  refine hp_get hx hb hts ix2 hown hK hh (q := 12) heta_395 (List.mem_range.mpr (by decide)) et_400 rfl 1 (by decide) (hts _ tw_123) (fun _ h9 => h9) rfl dX2_init_59 ?_
  refine lv_iload_n hx hb dX2_init_62 rfl (lv_at hl 0 rfl) ?_
  refine hq_new (ci := 5) (fs := [.null, .null, .null, .int 0, .int 0, .int 0, .long 0, .long 0, .long 0, .long 0]) hx hb hts ix6 tyX6 tyX6_ok hown (hts _ tw_69) (hts _ tw_74) (hts _ tw_4) hK hh hA rfl (fun j hj => by rcases (show j = 0 ∨ j = 1 ∨ j = 2 ∨ j = 3 ∨ j = 4 ∨ j = 5 ∨ j = 6 ∨ j = 7 ∨ j = 8 ∨ j = 9 by omega) with rfl | rfl | rfl | rfl | rfl | rfl | rfl | rfl | rfl | rfl <;> rfl) (Nat.le_of_ble_eq_true rfl) (Nat.le_of_ble_eq_true rfl) dX2_init_63 (fun q_401 H ad_401 en_401 had_401 hen_401 hh => ?_)
  have hh : Hp D A A s.heap H _ (List.range 51) ad_401 en_401 := hh
  have et_401 : en_401 12 = .inr (2, [.ref (ad 1), .ref q_364, .ref q_366, .ref q_368, .ref q_370, .int 0]) := by rw [hen_401, va_up_ne _ _ (by decide)]; exact et_400
  have heta_401 : ad_401 12 = (ad 12) := by rw [had_401, va_up_ne _ _ (by decide)]; exact heta_395
  have hex1a_401 : ad_401 1 = (ad 1) := by rw [had_401, va_up_ne _ _ (by decide)]; exact hex1a_395
  have e13_401 : en_401 13 = .inl (cy 4, 9, .inr (.inr (.inr (.inr (va_up (va_up (va_up (va_up (fun _ => none) (0 : Int32).toNatClampNeg (some q_373)) (1 : Int32).toNatClampNeg (some q_380)) (2 : Int32).toNatClampNeg (some q_387)) (3 : Int32).toNatClampNeg (some q_394)))))) := by rw [hen_401, va_up_ne _ _ (by decide)]; exact e13_400
  have he13a_401 : ad_401 13 = q_364 := by rw [had_401, va_up_ne _ _ (by decide)]; exact he13a_395
  have e14_401 : en_401 14 = .inl (cy 7, 9, .inr (.inr (.inr (.inr (fun i => if i < 9 then some (r_366 i) else none))))) := by rw [hen_401, va_up_ne _ _ (by decide)]; exact e14_400
  have he14a_401 : ad_401 14 = q_366 := by rw [had_401, va_up_ne _ _ (by decide)]; exact he14a_395
  have e24_401 : en_401 24 = .inl (cy 8, 8, .inr (.inr (.inr (.inr (fun i => if i < 8 then some (r_368 i) else none))))) := by rw [hen_401, va_up_ne _ _ (by decide)]; exact e24_400
  have he24a_401 : ad_401 24 = q_368 := by rw [had_401, va_up_ne _ _ (by decide)]; exact he24a_395
  have e33_401 : en_401 33 = .inl (cy 0, 8, .inl (fun _ => 0)) := by rw [hen_401, va_up_ne _ _ (by decide)]; exact e33_400
  have he33a_401 : ad_401 33 = q_370 := by rw [had_401, va_up_ne _ _ (by decide)]; exact he33a_395
  have hew34a_401 : ad_401 34 = q_373 := by rw [had_401, va_up_ne _ _ (by decide)]; exact hew34a_395
  have hew38a_401 : ad_401 38 = q_380 := by rw [had_401, va_up_ne _ _ (by decide)]; exact hew38a_395
  have hew42a_401 : ad_401 42 = q_387 := by rw [had_401, va_up_ne _ _ (by decide)]; exact hew42a_395
  have hew46a_401 : ad_401 46 = q_394 := by rw [had_401, va_up_ne _ _ (by decide)]; exact he46a_395
  have hwy_401 : ∀ j, j < 9 → en_401 (15 + j) = .inl (cy 0, 6, .inl (fun _ => 0)) := fun j hj => by rw [hen_401, va_up_ne _ _ (by omega)]; exact hwy_400 j hj
  have hpf_401 : ∀ j, j < 8 → en_401 (25 + j) = .inl (cy 1, 9, .inr (.inl (fun _ => 0))) := fun j hj => by rw [hen_401, va_up_ne _ _ (by omega)]; exact hpf_400 j hj
  have hv_401 : ∀ j, j < 4 → en_401 (34 + 4 * j) = .inr (5, [.ref (ad_401 (35 + 4 * j)), .ref (ad_401 (36 + 4 * j)), .ref (ad_401 (37 + 4 * j)), .int 0, .int 0, .int 0, .long 0, .long 0, .long 0, .long 0]) := fun j hj => by rw [hen_401, va_up_ne _ _ (fne 34 4 50 hj (by decide)), had_401, va_up_ne _ _ (fne 35 4 50 hj (by decide)), va_up_ne _ _ (fne 36 4 50 hj (by decide)), va_up_ne _ _ (fne 37 4 50 hj (by decide))]; exact hv_400 j hj
  have hva_401 : ∀ j, j < 4 → en_401 (35 + 4 * j) = .inl (cy 0, 8, .inl (fun _ => 0)) := fun j hj => by rw [hen_401, va_up_ne _ _ (fne 35 4 50 hj (by decide))]; exact hva_400 j hj
  have hvb_401 : ∀ j, j < 4 → en_401 (36 + 4 * j) = .inl (cy 0, 8, .inl (fun _ => 0)) := fun j hj => by rw [hen_401, va_up_ne _ _ (fne 36 4 50 hj (by decide))]; exact hvb_400 j hj
  have hvc_401 : ∀ j, j < 4 → en_401 (37 + 4 * j) = .inl (cy 0, 8, .inl (fun _ => 0)) := fun j hj => by rw [hen_401, va_up_ne _ _ (fne 37 4 50 hj (by decide))]; exact hvc_400 j hj
  have e50_401 : en_401 50 = .inr (5, [.null, .null, .null, .int 0, .int 0, .int 0, .long 0, .long 0, .long 0, .long 0]) := by rw [hen_401]; exact va_up_self _ _ _
  have he50a_401 : ad_401 50 = q_401 := by rw [had_401]; exact va_up_self _ _ _
  clear heta_395 hex1a_395 he13a_395 he14a_395 he24a_395 he33a_395 hew34a_395 hew38a_395 hew42a_395 he46a_395 et_400 e14_400 e24_400 e33_400 hwy_400 hpf_400 hv_400 hva_400 hvb_400 hvc_400 e13_400
  refine W.widen (k := 38) (n := 306) (Nat.le_refl _) (Nat.le_refl _) ?_
  refine lv_dup hx hb dX2_init_66 rfl ?_
  refine W.eq (g2 := F0 m 67 ls [.ref (ad_401 50), .ref q_401, .int 4, .ref q_364]) (by rw [he50a_401]) ?_
  refine hq_callC (va_runIN (As := []) (rest := [.ref q_401, .int 4, .ref q_364]) ⟨hx, hb, hml, hown, hts⟩ (c_X6_init l D cy _ ad_401 en_401 51 50 (by decide) e50_401) (kw_X6_init hts hX.2.2.2.2.2.2.1 ⟨by decide, by decide⟩) (preC_of hh hK hX) rfl rfl hl.1 rfl (lv_room (Nat.le_of_ble_eq_true rfl)) dX2_init_67 ⟨Nat.le_of_ble_eq_true rfl, Nat.le_of_ble_eq_true rfl⟩) hh hA (fun H locs ad_402 en_402 hw_402 hh => ?_)
  have hh : Hp D A A s.heap H _ (List.range 54) ad_402 en_402 := hh
  obtain ⟨hda_402, hue_402, ew_402, ewa_402, ewb_402, ewc_402⟩ := hw_402
  dsimp only at hda_402 hue_402 ew_402 ewa_402 ewb_402 ewc_402
  have et_402 : en_402 12 = .inr (2, [.ref (ad 1), .ref q_364, .ref q_366, .ref q_368, .ref q_370, .int 0]) := by rw [hue_402 _ (by decide) (by decide)]; exact et_401
  have heta_402 : ad_402 12 = (ad 12) := by rw [hda_402 _ (by decide)]; exact heta_401
  have hex1a_402 : ad_402 1 = (ad 1) := by rw [hda_402 _ (by decide)]; exact hex1a_401
  have e13_402 : en_402 13 = .inl (cy 4, 9, .inr (.inr (.inr (.inr (va_up (va_up (va_up (va_up (fun _ => none) (0 : Int32).toNatClampNeg (some q_373)) (1 : Int32).toNatClampNeg (some q_380)) (2 : Int32).toNatClampNeg (some q_387)) (3 : Int32).toNatClampNeg (some q_394)))))) := by rw [hue_402 _ (by decide) (by decide)]; exact e13_401
  have he13a_402 : ad_402 13 = q_364 := by rw [hda_402 _ (by decide)]; exact he13a_401
  have e14_402 : en_402 14 = .inl (cy 7, 9, .inr (.inr (.inr (.inr (fun i => if i < 9 then some (r_366 i) else none))))) := by rw [hue_402 _ (by decide) (by decide)]; exact e14_401
  have he14a_402 : ad_402 14 = q_366 := by rw [hda_402 _ (by decide)]; exact he14a_401
  have e24_402 : en_402 24 = .inl (cy 8, 8, .inr (.inr (.inr (.inr (fun i => if i < 8 then some (r_368 i) else none))))) := by rw [hue_402 _ (by decide) (by decide)]; exact e24_401
  have he24a_402 : ad_402 24 = q_368 := by rw [hda_402 _ (by decide)]; exact he24a_401
  have e33_402 : en_402 33 = .inl (cy 0, 8, .inl (fun _ => 0)) := by rw [hue_402 _ (by decide) (by decide)]; exact e33_401
  have he33a_402 : ad_402 33 = q_370 := by rw [hda_402 _ (by decide)]; exact he33a_401
  have hew34a_402 : ad_402 34 = q_373 := by rw [hda_402 _ (by decide)]; exact hew34a_401
  have hew38a_402 : ad_402 38 = q_380 := by rw [hda_402 _ (by decide)]; exact hew38a_401
  have hew42a_402 : ad_402 42 = q_387 := by rw [hda_402 _ (by decide)]; exact hew42a_401
  have hew46a_402 : ad_402 46 = q_394 := by rw [hda_402 _ (by decide)]; exact hew46a_401
  have he50a_402 : ad_402 50 = q_401 := by rw [hda_402 _ (by decide)]; exact he50a_401
  have hwy_402 : ∀ j, j < 9 → en_402 (15 + j) = .inl (cy 0, 6, .inl (fun _ => 0)) := fun j hj => by rw [hue_402 _ (by omega) (by omega)]; exact hwy_401 j hj
  have hpf_402 : ∀ j, j < 8 → en_402 (25 + j) = .inl (cy 1, 9, .inr (.inl (fun _ => 0))) := fun j hj => by rw [hue_402 _ (by omega) (by omega)]; exact hpf_401 j hj
  have hv_402 : ∀ j, j < 4 → en_402 (34 + 4 * j) = .inr (5, [.ref (ad_402 (35 + 4 * j)), .ref (ad_402 (36 + 4 * j)), .ref (ad_402 (37 + 4 * j)), .int 0, .int 0, .int 0, .long 0, .long 0, .long 0, .long 0]) := fun j hj => by rw [hue_402 _ (flt 34 4 51 hj (by decide)) (fne 34 4 50 hj (by decide)), hda_402 _ (flt 35 4 51 hj (by decide)), hda_402 _ (flt 36 4 51 hj (by decide)), hda_402 _ (flt 37 4 51 hj (by decide))]; exact hv_401 j hj
  have hva_402 : ∀ j, j < 4 → en_402 (35 + 4 * j) = .inl (cy 0, 8, .inl (fun _ => 0)) := fun j hj => by rw [hue_402 _ (flt 35 4 51 hj (by decide)) (fne 35 4 50 hj (by decide))]; exact hva_401 j hj
  have hvb_402 : ∀ j, j < 4 → en_402 (36 + 4 * j) = .inl (cy 0, 8, .inl (fun _ => 0)) := fun j hj => by rw [hue_402 _ (flt 36 4 51 hj (by decide)) (fne 36 4 50 hj (by decide))]; exact hvb_401 j hj
  have hvc_402 : ∀ j, j < 4 → en_402 (37 + 4 * j) = .inl (cy 0, 8, .inl (fun _ => 0)) := fun j hj => by rw [hue_402 _ (flt 37 4 51 hj (by decide)) (fne 37 4 50 hj (by decide))]; exact hvc_401 j hj
  have ew50_402 := ew_402
  have hv_403 : ∀ j, j < 5 → en_402 (34 + 4 * j) = .inr (5, [.ref (ad_402 (35 + 4 * j)), .ref (ad_402 (36 + 4 * j)), .ref (ad_402 (37 + 4 * j)), .int 0, .int 0, .int 0, .long 0, .long 0, .long 0, .long 0]) := fun j hj => (Nat.lt_or_ge j 4).elim (fun h => hv_402 j h) (fun h => by have e0 : j = 4 := (by omega); subst e0; exact ew_402)
  have hva_404 : ∀ j, j < 5 → en_402 (35 + 4 * j) = .inl (cy 0, 8, .inl (fun _ => 0)) := fun j hj => (Nat.lt_or_ge j 4).elim (fun h => hva_402 j h) (fun h => by have e0 : j = 4 := (by omega); subst e0; exact ewa_402)
  have hvb_405 : ∀ j, j < 5 → en_402 (36 + 4 * j) = .inl (cy 0, 8, .inl (fun _ => 0)) := fun j hj => (Nat.lt_or_ge j 4).elim (fun h => hvb_402 j h) (fun h => by have e0 : j = 4 := (by omega); subst e0; exact ewb_402)
  have hvc_406 : ∀ j, j < 5 → en_402 (37 + 4 * j) = .inl (cy 0, 8, .inl (fun _ => 0)) := fun j hj => (Nat.lt_or_ge j 4).elim (fun h => hvc_402 j h) (fun h => by have e0 : j = 4 := (by omega); subst e0; exact ewc_402)
  clear et_401 heta_401 hex1a_401 e13_401 he13a_401 e14_401 he14a_401 e24_401 he24a_401 e33_401 he33a_401 hew34a_401 hew38a_401 hew42a_401 hew46a_401 hwy_401 hpf_401 hv_401 hva_401 hvb_401 hvc_401 e50_401 he50a_401 hv_402 hva_402 hvb_402 hvc_402
  refine W.widen (k := 41) (n := 330) (Nat.le_refl _) (Nat.le_refl _) ?_
  refine hp_astq hx hb hK hh (q := 13) (v := 50) he13a_402 (List.mem_range.mpr (by decide)) he50a_402 (List.mem_range.mpr (by decide)) e13_402 ew50_402 rfl rfl (vp_in_iff.mpr (by decide)) dX2_init_70 (fun H locs en_407 hen_407 hh => ?_)
  have et_407 : en_407 12 = .inr (2, [.ref (ad 1), .ref q_364, .ref q_366, .ref q_368, .ref q_370, .int 0]) := by rw [hen_407, va_up_ne _ _ (by decide)]; exact et_402
  have e14_407 : en_407 14 = .inl (cy 7, 9, .inr (.inr (.inr (.inr (fun i => if i < 9 then some (r_366 i) else none))))) := by rw [hen_407, va_up_ne _ _ (by decide)]; exact e14_402
  have e24_407 : en_407 24 = .inl (cy 8, 8, .inr (.inr (.inr (.inr (fun i => if i < 8 then some (r_368 i) else none))))) := by rw [hen_407, va_up_ne _ _ (by decide)]; exact e24_402
  have e33_407 : en_407 33 = .inl (cy 0, 8, .inl (fun _ => 0)) := by rw [hen_407, va_up_ne _ _ (by decide)]; exact e33_402
  have ew50_407 : en_407 50 = .inr (5, [.ref (ad_402 51), .ref (ad_402 52), .ref (ad_402 53), .int 0, .int 0, .int 0, .long 0, .long 0, .long 0, .long 0]) := by rw [hen_407, va_up_ne _ _ (by decide)]; exact ew50_402
  have hwy_407 : ∀ j, j < 9 → en_407 (15 + j) = .inl (cy 0, 6, .inl (fun _ => 0)) := fun j hj => by rw [hen_407, va_up_ne _ _ (by omega)]; exact hwy_402 j hj
  have hpf_407 : ∀ j, j < 8 → en_407 (25 + j) = .inl (cy 1, 9, .inr (.inl (fun _ => 0))) := fun j hj => by rw [hen_407, va_up_ne _ _ (by omega)]; exact hpf_402 j hj
  have hv_407 : ∀ j, j < 5 → en_407 (34 + 4 * j) = .inr (5, [.ref (ad_402 (35 + 4 * j)), .ref (ad_402 (36 + 4 * j)), .ref (ad_402 (37 + 4 * j)), .int 0, .int 0, .int 0, .long 0, .long 0, .long 0, .long 0]) := fun j hj => by rw [hen_407, va_up_ne _ _ (fne2 34 4 13 (by decide))]; exact hv_403 j hj
  have hva_407 : ∀ j, j < 5 → en_407 (35 + 4 * j) = .inl (cy 0, 8, .inl (fun _ => 0)) := fun j hj => by rw [hen_407, va_up_ne _ _ (fne2 35 4 13 (by decide))]; exact hva_404 j hj
  have hvb_407 : ∀ j, j < 5 → en_407 (36 + 4 * j) = .inl (cy 0, 8, .inl (fun _ => 0)) := fun j hj => by rw [hen_407, va_up_ne _ _ (fne2 36 4 13 (by decide))]; exact hvb_405 j hj
  have hvc_407 : ∀ j, j < 5 → en_407 (37 + 4 * j) = .inl (cy 0, 8, .inl (fun _ => 0)) := fun j hj => by rw [hen_407, va_up_ne _ _ (fne2 37 4 13 (by decide))]; exact hvc_406 j hj
  have e13_407 : en_407 13 = .inl (cy 4, 9, .inr (.inr (.inr (.inr (va_up (va_up (va_up (va_up (va_up (fun _ => none) (0 : Int32).toNatClampNeg (some q_373)) (1 : Int32).toNatClampNeg (some q_380)) (2 : Int32).toNatClampNeg (some q_387)) (3 : Int32).toNatClampNeg (some q_394)) (4 : Int32).toNatClampNeg (some q_401)))))) := by rw [hen_407]; exact va_up_self _ _ _
  clear et_402 e13_402 e14_402 e24_402 e33_402 hwy_402 hpf_402 hv_403 hva_404 hvb_405 hvc_406 ew50_407
  refine lv_iinc (v := 5) (lv' := [(2, .int 5), (0, .ref (ad 12)), (1, .ref (ad 1))]) hx hb dX2_init_71 hl (k := 0) rfl (by decide) (by decide) rfl (fun ls hl => ?_)
  refine lv_goto (tgt := 52) hx hb dX2_init_74 (by decide) ?_
  refine lv_iload_n hx hb dX2_init_52 rfl (lv_at hl 0 rfl) ?_
  refine lv_bipush (v := 8) hx hb dX2_init_53 (by decide) ?_
  refine lv_icmp_gt (tgt := 77) hx hb dX2_init_55 (by decide) (fun c_0 => absurd c_0 (by decide)) (fun _ => ?_)
  refine lv_aload_n hx hb dX2_init_58 rfl (lv_at hl 1 rfl) ?_
  refine hp_get hx hb hts ix2 hown hK hh (q := 12) heta_402 (List.mem_range.mpr (by decide)) et_407 rfl 1 (by decide) (hts _ tw_123) (fun _ h9 => h9) rfl dX2_init_59 ?_
  refine lv_iload_n hx hb dX2_init_62 rfl (lv_at hl 0 rfl) ?_
  refine hq_new (ci := 5) (fs := [.null, .null, .null, .int 0, .int 0, .int 0, .long 0, .long 0, .long 0, .long 0]) hx hb hts ix6 tyX6 tyX6_ok hown (hts _ tw_69) (hts _ tw_74) (hts _ tw_4) hK hh hA rfl (fun j hj => by rcases (show j = 0 ∨ j = 1 ∨ j = 2 ∨ j = 3 ∨ j = 4 ∨ j = 5 ∨ j = 6 ∨ j = 7 ∨ j = 8 ∨ j = 9 by omega) with rfl | rfl | rfl | rfl | rfl | rfl | rfl | rfl | rfl | rfl <;> rfl) (Nat.le_of_ble_eq_true rfl) (Nat.le_of_ble_eq_true rfl) dX2_init_63 (fun q_408 H ad_408 en_408 had_408 hen_408 hh => ?_)
  have hh : Hp D A A s.heap H _ (List.range 55) ad_408 en_408 := hh
  have et_408 : en_408 12 = .inr (2, [.ref (ad 1), .ref q_364, .ref q_366, .ref q_368, .ref q_370, .int 0]) := by rw [hen_408, va_up_ne _ _ (by decide)]; exact et_407
  have heta_408 : ad_408 12 = (ad 12) := by rw [had_408, va_up_ne _ _ (by decide)]; exact heta_402
  have hex1a_408 : ad_408 1 = (ad 1) := by rw [had_408, va_up_ne _ _ (by decide)]; exact hex1a_402
  have e13_408 : en_408 13 = .inl (cy 4, 9, .inr (.inr (.inr (.inr (va_up (va_up (va_up (va_up (va_up (fun _ => none) (0 : Int32).toNatClampNeg (some q_373)) (1 : Int32).toNatClampNeg (some q_380)) (2 : Int32).toNatClampNeg (some q_387)) (3 : Int32).toNatClampNeg (some q_394)) (4 : Int32).toNatClampNeg (some q_401)))))) := by rw [hen_408, va_up_ne _ _ (by decide)]; exact e13_407
  have he13a_408 : ad_408 13 = q_364 := by rw [had_408, va_up_ne _ _ (by decide)]; exact he13a_402
  have e14_408 : en_408 14 = .inl (cy 7, 9, .inr (.inr (.inr (.inr (fun i => if i < 9 then some (r_366 i) else none))))) := by rw [hen_408, va_up_ne _ _ (by decide)]; exact e14_407
  have he14a_408 : ad_408 14 = q_366 := by rw [had_408, va_up_ne _ _ (by decide)]; exact he14a_402
  have e24_408 : en_408 24 = .inl (cy 8, 8, .inr (.inr (.inr (.inr (fun i => if i < 8 then some (r_368 i) else none))))) := by rw [hen_408, va_up_ne _ _ (by decide)]; exact e24_407
  have he24a_408 : ad_408 24 = q_368 := by rw [had_408, va_up_ne _ _ (by decide)]; exact he24a_402
  have e33_408 : en_408 33 = .inl (cy 0, 8, .inl (fun _ => 0)) := by rw [hen_408, va_up_ne _ _ (by decide)]; exact e33_407
  have he33a_408 : ad_408 33 = q_370 := by rw [had_408, va_up_ne _ _ (by decide)]; exact he33a_402
  have hew34a_408 : ad_408 34 = q_373 := by rw [had_408, va_up_ne _ _ (by decide)]; exact hew34a_402
  have hew38a_408 : ad_408 38 = q_380 := by rw [had_408, va_up_ne _ _ (by decide)]; exact hew38a_402
  have hew42a_408 : ad_408 42 = q_387 := by rw [had_408, va_up_ne _ _ (by decide)]; exact hew42a_402
  have hew46a_408 : ad_408 46 = q_394 := by rw [had_408, va_up_ne _ _ (by decide)]; exact hew46a_402
  have hew50a_408 : ad_408 50 = q_401 := by rw [had_408, va_up_ne _ _ (by decide)]; exact he50a_402
  have hwy_408 : ∀ j, j < 9 → en_408 (15 + j) = .inl (cy 0, 6, .inl (fun _ => 0)) := fun j hj => by rw [hen_408, va_up_ne _ _ (by omega)]; exact hwy_407 j hj
  have hpf_408 : ∀ j, j < 8 → en_408 (25 + j) = .inl (cy 1, 9, .inr (.inl (fun _ => 0))) := fun j hj => by rw [hen_408, va_up_ne _ _ (by omega)]; exact hpf_407 j hj
  have hv_408 : ∀ j, j < 5 → en_408 (34 + 4 * j) = .inr (5, [.ref (ad_408 (35 + 4 * j)), .ref (ad_408 (36 + 4 * j)), .ref (ad_408 (37 + 4 * j)), .int 0, .int 0, .int 0, .long 0, .long 0, .long 0, .long 0]) := fun j hj => by rw [hen_408, va_up_ne _ _ (fne 34 4 54 hj (by decide)), had_408, va_up_ne _ _ (fne 35 4 54 hj (by decide)), va_up_ne _ _ (fne 36 4 54 hj (by decide)), va_up_ne _ _ (fne 37 4 54 hj (by decide))]; exact hv_407 j hj
  have hva_408 : ∀ j, j < 5 → en_408 (35 + 4 * j) = .inl (cy 0, 8, .inl (fun _ => 0)) := fun j hj => by rw [hen_408, va_up_ne _ _ (fne 35 4 54 hj (by decide))]; exact hva_407 j hj
  have hvb_408 : ∀ j, j < 5 → en_408 (36 + 4 * j) = .inl (cy 0, 8, .inl (fun _ => 0)) := fun j hj => by rw [hen_408, va_up_ne _ _ (fne 36 4 54 hj (by decide))]; exact hvb_407 j hj
  have hvc_408 : ∀ j, j < 5 → en_408 (37 + 4 * j) = .inl (cy 0, 8, .inl (fun _ => 0)) := fun j hj => by rw [hen_408, va_up_ne _ _ (fne 37 4 54 hj (by decide))]; exact hvc_407 j hj
  have e54_408 : en_408 54 = .inr (5, [.null, .null, .null, .int 0, .int 0, .int 0, .long 0, .long 0, .long 0, .long 0]) := by rw [hen_408]; exact va_up_self _ _ _
  have he54a_408 : ad_408 54 = q_408 := by rw [had_408]; exact va_up_self _ _ _
  clear heta_402 hex1a_402 he13a_402 he14a_402 he24a_402 he33a_402 hew34a_402 hew38a_402 hew42a_402 hew46a_402 he50a_402 et_407 e14_407 e24_407 e33_407 hwy_407 hpf_407 hv_407 hva_407 hvb_407 hvc_407 e13_407
  refine W.widen (k := 42) (n := 340) (Nat.le_refl _) (Nat.le_refl _) ?_
  refine lv_dup hx hb dX2_init_66 rfl ?_
  refine W.eq (g2 := F0 m 67 ls [.ref (ad_408 54), .ref q_408, .int 5, .ref q_364]) (by rw [he54a_408]) ?_
  refine hq_callC (va_runIN (As := []) (rest := [.ref q_408, .int 5, .ref q_364]) ⟨hx, hb, hml, hown, hts⟩ (c_X6_init l D cy _ ad_408 en_408 55 54 (by decide) e54_408) (kw_X6_init hts hX.2.2.2.2.2.2.1 ⟨by decide, by decide⟩) (preC_of hh hK hX) rfl rfl hl.1 rfl (lv_room (Nat.le_of_ble_eq_true rfl)) dX2_init_67 ⟨Nat.le_of_ble_eq_true rfl, Nat.le_of_ble_eq_true rfl⟩) hh hA (fun H locs ad_409 en_409 hw_409 hh => ?_)
  have hh : Hp D A A s.heap H _ (List.range 58) ad_409 en_409 := hh
  obtain ⟨hda_409, hue_409, ew_409, ewa_409, ewb_409, ewc_409⟩ := hw_409
  dsimp only at hda_409 hue_409 ew_409 ewa_409 ewb_409 ewc_409
  have et_409 : en_409 12 = .inr (2, [.ref (ad 1), .ref q_364, .ref q_366, .ref q_368, .ref q_370, .int 0]) := by rw [hue_409 _ (by decide) (by decide)]; exact et_408
  have heta_409 : ad_409 12 = (ad 12) := by rw [hda_409 _ (by decide)]; exact heta_408
  have hex1a_409 : ad_409 1 = (ad 1) := by rw [hda_409 _ (by decide)]; exact hex1a_408
  have e13_409 : en_409 13 = .inl (cy 4, 9, .inr (.inr (.inr (.inr (va_up (va_up (va_up (va_up (va_up (fun _ => none) (0 : Int32).toNatClampNeg (some q_373)) (1 : Int32).toNatClampNeg (some q_380)) (2 : Int32).toNatClampNeg (some q_387)) (3 : Int32).toNatClampNeg (some q_394)) (4 : Int32).toNatClampNeg (some q_401)))))) := by rw [hue_409 _ (by decide) (by decide)]; exact e13_408
  have he13a_409 : ad_409 13 = q_364 := by rw [hda_409 _ (by decide)]; exact he13a_408
  have e14_409 : en_409 14 = .inl (cy 7, 9, .inr (.inr (.inr (.inr (fun i => if i < 9 then some (r_366 i) else none))))) := by rw [hue_409 _ (by decide) (by decide)]; exact e14_408
  have he14a_409 : ad_409 14 = q_366 := by rw [hda_409 _ (by decide)]; exact he14a_408
  have e24_409 : en_409 24 = .inl (cy 8, 8, .inr (.inr (.inr (.inr (fun i => if i < 8 then some (r_368 i) else none))))) := by rw [hue_409 _ (by decide) (by decide)]; exact e24_408
  have he24a_409 : ad_409 24 = q_368 := by rw [hda_409 _ (by decide)]; exact he24a_408
  have e33_409 : en_409 33 = .inl (cy 0, 8, .inl (fun _ => 0)) := by rw [hue_409 _ (by decide) (by decide)]; exact e33_408
  have he33a_409 : ad_409 33 = q_370 := by rw [hda_409 _ (by decide)]; exact he33a_408
  have hew34a_409 : ad_409 34 = q_373 := by rw [hda_409 _ (by decide)]; exact hew34a_408
  have hew38a_409 : ad_409 38 = q_380 := by rw [hda_409 _ (by decide)]; exact hew38a_408
  have hew42a_409 : ad_409 42 = q_387 := by rw [hda_409 _ (by decide)]; exact hew42a_408
  have hew46a_409 : ad_409 46 = q_394 := by rw [hda_409 _ (by decide)]; exact hew46a_408
  have hew50a_409 : ad_409 50 = q_401 := by rw [hda_409 _ (by decide)]; exact hew50a_408
  have he54a_409 : ad_409 54 = q_408 := by rw [hda_409 _ (by decide)]; exact he54a_408
  have hwy_409 : ∀ j, j < 9 → en_409 (15 + j) = .inl (cy 0, 6, .inl (fun _ => 0)) := fun j hj => by rw [hue_409 _ (by omega) (by omega)]; exact hwy_408 j hj
  have hpf_409 : ∀ j, j < 8 → en_409 (25 + j) = .inl (cy 1, 9, .inr (.inl (fun _ => 0))) := fun j hj => by rw [hue_409 _ (by omega) (by omega)]; exact hpf_408 j hj
  have hv_409 : ∀ j, j < 5 → en_409 (34 + 4 * j) = .inr (5, [.ref (ad_409 (35 + 4 * j)), .ref (ad_409 (36 + 4 * j)), .ref (ad_409 (37 + 4 * j)), .int 0, .int 0, .int 0, .long 0, .long 0, .long 0, .long 0]) := fun j hj => by rw [hue_409 _ (flt 34 4 55 hj (by decide)) (fne 34 4 54 hj (by decide)), hda_409 _ (flt 35 4 55 hj (by decide)), hda_409 _ (flt 36 4 55 hj (by decide)), hda_409 _ (flt 37 4 55 hj (by decide))]; exact hv_408 j hj
  have hva_409 : ∀ j, j < 5 → en_409 (35 + 4 * j) = .inl (cy 0, 8, .inl (fun _ => 0)) := fun j hj => by rw [hue_409 _ (flt 35 4 55 hj (by decide)) (fne 35 4 54 hj (by decide))]; exact hva_408 j hj
  have hvb_409 : ∀ j, j < 5 → en_409 (36 + 4 * j) = .inl (cy 0, 8, .inl (fun _ => 0)) := fun j hj => by rw [hue_409 _ (flt 36 4 55 hj (by decide)) (fne 36 4 54 hj (by decide))]; exact hvb_408 j hj
  have hvc_409 : ∀ j, j < 5 → en_409 (37 + 4 * j) = .inl (cy 0, 8, .inl (fun _ => 0)) := fun j hj => by rw [hue_409 _ (flt 37 4 55 hj (by decide)) (fne 37 4 54 hj (by decide))]; exact hvc_408 j hj
  have ew54_409 := ew_409
  have hv_410 : ∀ j, j < 6 → en_409 (34 + 4 * j) = .inr (5, [.ref (ad_409 (35 + 4 * j)), .ref (ad_409 (36 + 4 * j)), .ref (ad_409 (37 + 4 * j)), .int 0, .int 0, .int 0, .long 0, .long 0, .long 0, .long 0]) := fun j hj => (Nat.lt_or_ge j 5).elim (fun h => hv_409 j h) (fun h => by have e0 : j = 5 := (by omega); subst e0; exact ew_409)
  have hva_411 : ∀ j, j < 6 → en_409 (35 + 4 * j) = .inl (cy 0, 8, .inl (fun _ => 0)) := fun j hj => (Nat.lt_or_ge j 5).elim (fun h => hva_409 j h) (fun h => by have e0 : j = 5 := (by omega); subst e0; exact ewa_409)
  have hvb_412 : ∀ j, j < 6 → en_409 (36 + 4 * j) = .inl (cy 0, 8, .inl (fun _ => 0)) := fun j hj => (Nat.lt_or_ge j 5).elim (fun h => hvb_409 j h) (fun h => by have e0 : j = 5 := (by omega); subst e0; exact ewb_409)
  have hvc_413 : ∀ j, j < 6 → en_409 (37 + 4 * j) = .inl (cy 0, 8, .inl (fun _ => 0)) := fun j hj => (Nat.lt_or_ge j 5).elim (fun h => hvc_409 j h) (fun h => by have e0 : j = 5 := (by omega); subst e0; exact ewc_409)
  clear et_408 heta_408 hex1a_408 e13_408 he13a_408 e14_408 he14a_408 e24_408 he24a_408 e33_408 he33a_408 hew34a_408 hew38a_408 hew42a_408 hew46a_408 hew50a_408 hwy_408 hpf_408 hv_408 hva_408 hvb_408 hvc_408 e54_408 he54a_408 hv_409 hva_409 hvb_409 hvc_409
  refine W.widen (k := 45) (n := 364) (Nat.le_refl _) (Nat.le_refl _) ?_
  refine hp_astq hx hb hK hh (q := 13) (v := 54) he13a_409 (List.mem_range.mpr (by decide)) he54a_409 (List.mem_range.mpr (by decide)) e13_409 ew54_409 rfl rfl (vp_in_iff.mpr (by decide)) dX2_init_70 (fun H locs en_414 hen_414 hh => ?_)
  have et_414 : en_414 12 = .inr (2, [.ref (ad 1), .ref q_364, .ref q_366, .ref q_368, .ref q_370, .int 0]) := by rw [hen_414, va_up_ne _ _ (by decide)]; exact et_409
  have e14_414 : en_414 14 = .inl (cy 7, 9, .inr (.inr (.inr (.inr (fun i => if i < 9 then some (r_366 i) else none))))) := by rw [hen_414, va_up_ne _ _ (by decide)]; exact e14_409
  have e24_414 : en_414 24 = .inl (cy 8, 8, .inr (.inr (.inr (.inr (fun i => if i < 8 then some (r_368 i) else none))))) := by rw [hen_414, va_up_ne _ _ (by decide)]; exact e24_409
  have e33_414 : en_414 33 = .inl (cy 0, 8, .inl (fun _ => 0)) := by rw [hen_414, va_up_ne _ _ (by decide)]; exact e33_409
  have ew54_414 : en_414 54 = .inr (5, [.ref (ad_409 55), .ref (ad_409 56), .ref (ad_409 57), .int 0, .int 0, .int 0, .long 0, .long 0, .long 0, .long 0]) := by rw [hen_414, va_up_ne _ _ (by decide)]; exact ew54_409
  have hwy_414 : ∀ j, j < 9 → en_414 (15 + j) = .inl (cy 0, 6, .inl (fun _ => 0)) := fun j hj => by rw [hen_414, va_up_ne _ _ (by omega)]; exact hwy_409 j hj
  have hpf_414 : ∀ j, j < 8 → en_414 (25 + j) = .inl (cy 1, 9, .inr (.inl (fun _ => 0))) := fun j hj => by rw [hen_414, va_up_ne _ _ (by omega)]; exact hpf_409 j hj
  have hv_414 : ∀ j, j < 6 → en_414 (34 + 4 * j) = .inr (5, [.ref (ad_409 (35 + 4 * j)), .ref (ad_409 (36 + 4 * j)), .ref (ad_409 (37 + 4 * j)), .int 0, .int 0, .int 0, .long 0, .long 0, .long 0, .long 0]) := fun j hj => by rw [hen_414, va_up_ne _ _ (fne2 34 4 13 (by decide))]; exact hv_410 j hj
  have hva_414 : ∀ j, j < 6 → en_414 (35 + 4 * j) = .inl (cy 0, 8, .inl (fun _ => 0)) := fun j hj => by rw [hen_414, va_up_ne _ _ (fne2 35 4 13 (by decide))]; exact hva_411 j hj
  have hvb_414 : ∀ j, j < 6 → en_414 (36 + 4 * j) = .inl (cy 0, 8, .inl (fun _ => 0)) := fun j hj => by rw [hen_414, va_up_ne _ _ (fne2 36 4 13 (by decide))]; exact hvb_412 j hj
  have hvc_414 : ∀ j, j < 6 → en_414 (37 + 4 * j) = .inl (cy 0, 8, .inl (fun _ => 0)) := fun j hj => by rw [hen_414, va_up_ne _ _ (fne2 37 4 13 (by decide))]; exact hvc_413 j hj
  have e13_414 : en_414 13 = .inl (cy 4, 9, .inr (.inr (.inr (.inr (va_up (va_up (va_up (va_up (va_up (va_up (fun _ => none) (0 : Int32).toNatClampNeg (some q_373)) (1 : Int32).toNatClampNeg (some q_380)) (2 : Int32).toNatClampNeg (some q_387)) (3 : Int32).toNatClampNeg (some q_394)) (4 : Int32).toNatClampNeg (some q_401)) (5 : Int32).toNatClampNeg (some q_408)))))) := by rw [hen_414]; exact va_up_self _ _ _
  clear et_409 e13_409 e14_409 e24_409 e33_409 hwy_409 hpf_409 hv_410 hva_411 hvb_412 hvc_413 ew54_414
  refine lv_iinc (v := 6) (lv' := [(2, .int 6), (0, .ref (ad 12)), (1, .ref (ad 1))]) hx hb dX2_init_71 hl (k := 0) rfl (by decide) (by decide) rfl (fun ls hl => ?_)
  refine lv_goto (tgt := 52) hx hb dX2_init_74 (by decide) ?_
  refine lv_iload_n hx hb dX2_init_52 rfl (lv_at hl 0 rfl) ?_
  refine lv_bipush (v := 8) hx hb dX2_init_53 (by decide) ?_
  refine lv_icmp_gt (tgt := 77) hx hb dX2_init_55 (by decide) (fun c_0 => absurd c_0 (by decide)) (fun _ => ?_)
  refine lv_aload_n hx hb dX2_init_58 rfl (lv_at hl 1 rfl) ?_
  refine hp_get hx hb hts ix2 hown hK hh (q := 12) heta_409 (List.mem_range.mpr (by decide)) et_414 rfl 1 (by decide) (hts _ tw_123) (fun _ h9 => h9) rfl dX2_init_59 ?_
  refine lv_iload_n hx hb dX2_init_62 rfl (lv_at hl 0 rfl) ?_
  refine hq_new (ci := 5) (fs := [.null, .null, .null, .int 0, .int 0, .int 0, .long 0, .long 0, .long 0, .long 0]) hx hb hts ix6 tyX6 tyX6_ok hown (hts _ tw_69) (hts _ tw_74) (hts _ tw_4) hK hh hA rfl (fun j hj => by rcases (show j = 0 ∨ j = 1 ∨ j = 2 ∨ j = 3 ∨ j = 4 ∨ j = 5 ∨ j = 6 ∨ j = 7 ∨ j = 8 ∨ j = 9 by omega) with rfl | rfl | rfl | rfl | rfl | rfl | rfl | rfl | rfl | rfl <;> rfl) (Nat.le_of_ble_eq_true rfl) (Nat.le_of_ble_eq_true rfl) dX2_init_63 (fun q_415 H ad_415 en_415 had_415 hen_415 hh => ?_)
  have hh : Hp D A A s.heap H _ (List.range 59) ad_415 en_415 := hh
  have et_415 : en_415 12 = .inr (2, [.ref (ad 1), .ref q_364, .ref q_366, .ref q_368, .ref q_370, .int 0]) := by rw [hen_415, va_up_ne _ _ (by decide)]; exact et_414
  have heta_415 : ad_415 12 = (ad 12) := by rw [had_415, va_up_ne _ _ (by decide)]; exact heta_409
  have hex1a_415 : ad_415 1 = (ad 1) := by rw [had_415, va_up_ne _ _ (by decide)]; exact hex1a_409
  have e13_415 : en_415 13 = .inl (cy 4, 9, .inr (.inr (.inr (.inr (va_up (va_up (va_up (va_up (va_up (va_up (fun _ => none) (0 : Int32).toNatClampNeg (some q_373)) (1 : Int32).toNatClampNeg (some q_380)) (2 : Int32).toNatClampNeg (some q_387)) (3 : Int32).toNatClampNeg (some q_394)) (4 : Int32).toNatClampNeg (some q_401)) (5 : Int32).toNatClampNeg (some q_408)))))) := by rw [hen_415, va_up_ne _ _ (by decide)]; exact e13_414
  have he13a_415 : ad_415 13 = q_364 := by rw [had_415, va_up_ne _ _ (by decide)]; exact he13a_409
  have e14_415 : en_415 14 = .inl (cy 7, 9, .inr (.inr (.inr (.inr (fun i => if i < 9 then some (r_366 i) else none))))) := by rw [hen_415, va_up_ne _ _ (by decide)]; exact e14_414
  have he14a_415 : ad_415 14 = q_366 := by rw [had_415, va_up_ne _ _ (by decide)]; exact he14a_409
  have e24_415 : en_415 24 = .inl (cy 8, 8, .inr (.inr (.inr (.inr (fun i => if i < 8 then some (r_368 i) else none))))) := by rw [hen_415, va_up_ne _ _ (by decide)]; exact e24_414
  have he24a_415 : ad_415 24 = q_368 := by rw [had_415, va_up_ne _ _ (by decide)]; exact he24a_409
  have e33_415 : en_415 33 = .inl (cy 0, 8, .inl (fun _ => 0)) := by rw [hen_415, va_up_ne _ _ (by decide)]; exact e33_414
  have he33a_415 : ad_415 33 = q_370 := by rw [had_415, va_up_ne _ _ (by decide)]; exact he33a_409
  have hew34a_415 : ad_415 34 = q_373 := by rw [had_415, va_up_ne _ _ (by decide)]; exact hew34a_409
  have hew38a_415 : ad_415 38 = q_380 := by rw [had_415, va_up_ne _ _ (by decide)]; exact hew38a_409
  have hew42a_415 : ad_415 42 = q_387 := by rw [had_415, va_up_ne _ _ (by decide)]; exact hew42a_409
  have hew46a_415 : ad_415 46 = q_394 := by rw [had_415, va_up_ne _ _ (by decide)]; exact hew46a_409
  have hew50a_415 : ad_415 50 = q_401 := by rw [had_415, va_up_ne _ _ (by decide)]; exact hew50a_409
  have hew54a_415 : ad_415 54 = q_408 := by rw [had_415, va_up_ne _ _ (by decide)]; exact he54a_409
  have hwy_415 : ∀ j, j < 9 → en_415 (15 + j) = .inl (cy 0, 6, .inl (fun _ => 0)) := fun j hj => by rw [hen_415, va_up_ne _ _ (by omega)]; exact hwy_414 j hj
  have hpf_415 : ∀ j, j < 8 → en_415 (25 + j) = .inl (cy 1, 9, .inr (.inl (fun _ => 0))) := fun j hj => by rw [hen_415, va_up_ne _ _ (by omega)]; exact hpf_414 j hj
  have hv_415 : ∀ j, j < 6 → en_415 (34 + 4 * j) = .inr (5, [.ref (ad_415 (35 + 4 * j)), .ref (ad_415 (36 + 4 * j)), .ref (ad_415 (37 + 4 * j)), .int 0, .int 0, .int 0, .long 0, .long 0, .long 0, .long 0]) := fun j hj => by rw [hen_415, va_up_ne _ _ (fne 34 4 58 hj (by decide)), had_415, va_up_ne _ _ (fne 35 4 58 hj (by decide)), va_up_ne _ _ (fne 36 4 58 hj (by decide)), va_up_ne _ _ (fne 37 4 58 hj (by decide))]; exact hv_414 j hj
  have hva_415 : ∀ j, j < 6 → en_415 (35 + 4 * j) = .inl (cy 0, 8, .inl (fun _ => 0)) := fun j hj => by rw [hen_415, va_up_ne _ _ (fne 35 4 58 hj (by decide))]; exact hva_414 j hj
  have hvb_415 : ∀ j, j < 6 → en_415 (36 + 4 * j) = .inl (cy 0, 8, .inl (fun _ => 0)) := fun j hj => by rw [hen_415, va_up_ne _ _ (fne 36 4 58 hj (by decide))]; exact hvb_414 j hj
  have hvc_415 : ∀ j, j < 6 → en_415 (37 + 4 * j) = .inl (cy 0, 8, .inl (fun _ => 0)) := fun j hj => by rw [hen_415, va_up_ne _ _ (fne 37 4 58 hj (by decide))]; exact hvc_414 j hj
  have e58_415 : en_415 58 = .inr (5, [.null, .null, .null, .int 0, .int 0, .int 0, .long 0, .long 0, .long 0, .long 0]) := by rw [hen_415]; exact va_up_self _ _ _
  have he58a_415 : ad_415 58 = q_415 := by rw [had_415]; exact va_up_self _ _ _
  clear heta_409 hex1a_409 he13a_409 he14a_409 he24a_409 he33a_409 hew34a_409 hew38a_409 hew42a_409 hew46a_409 hew50a_409 he54a_409 et_414 e14_414 e24_414 e33_414 hwy_414 hpf_414 hv_414 hva_414 hvb_414 hvc_414 e13_414
  refine W.widen (k := 46) (n := 374) (Nat.le_refl _) (Nat.le_refl _) ?_
  refine lv_dup hx hb dX2_init_66 rfl ?_
  refine W.eq (g2 := F0 m 67 ls [.ref (ad_415 58), .ref q_415, .int 6, .ref q_364]) (by rw [he58a_415]) ?_
  refine hq_callC (va_runIN (As := []) (rest := [.ref q_415, .int 6, .ref q_364]) ⟨hx, hb, hml, hown, hts⟩ (c_X6_init l D cy _ ad_415 en_415 59 58 (by decide) e58_415) (kw_X6_init hts hX.2.2.2.2.2.2.1 ⟨by decide, by decide⟩) (preC_of hh hK hX) rfl rfl hl.1 rfl (lv_room (Nat.le_of_ble_eq_true rfl)) dX2_init_67 ⟨Nat.le_of_ble_eq_true rfl, Nat.le_of_ble_eq_true rfl⟩) hh hA (fun H locs ad_416 en_416 hw_416 hh => ?_)
  have hh : Hp D A A s.heap H _ (List.range 62) ad_416 en_416 := hh
  obtain ⟨hda_416, hue_416, ew_416, ewa_416, ewb_416, ewc_416⟩ := hw_416
  dsimp only at hda_416 hue_416 ew_416 ewa_416 ewb_416 ewc_416
  have et_416 : en_416 12 = .inr (2, [.ref (ad 1), .ref q_364, .ref q_366, .ref q_368, .ref q_370, .int 0]) := by rw [hue_416 _ (by decide) (by decide)]; exact et_415
  have heta_416 : ad_416 12 = (ad 12) := by rw [hda_416 _ (by decide)]; exact heta_415
  have hex1a_416 : ad_416 1 = (ad 1) := by rw [hda_416 _ (by decide)]; exact hex1a_415
  have e13_416 : en_416 13 = .inl (cy 4, 9, .inr (.inr (.inr (.inr (va_up (va_up (va_up (va_up (va_up (va_up (fun _ => none) (0 : Int32).toNatClampNeg (some q_373)) (1 : Int32).toNatClampNeg (some q_380)) (2 : Int32).toNatClampNeg (some q_387)) (3 : Int32).toNatClampNeg (some q_394)) (4 : Int32).toNatClampNeg (some q_401)) (5 : Int32).toNatClampNeg (some q_408)))))) := by rw [hue_416 _ (by decide) (by decide)]; exact e13_415
  have he13a_416 : ad_416 13 = q_364 := by rw [hda_416 _ (by decide)]; exact he13a_415
  have e14_416 : en_416 14 = .inl (cy 7, 9, .inr (.inr (.inr (.inr (fun i => if i < 9 then some (r_366 i) else none))))) := by rw [hue_416 _ (by decide) (by decide)]; exact e14_415
  have he14a_416 : ad_416 14 = q_366 := by rw [hda_416 _ (by decide)]; exact he14a_415
  have e24_416 : en_416 24 = .inl (cy 8, 8, .inr (.inr (.inr (.inr (fun i => if i < 8 then some (r_368 i) else none))))) := by rw [hue_416 _ (by decide) (by decide)]; exact e24_415
  have he24a_416 : ad_416 24 = q_368 := by rw [hda_416 _ (by decide)]; exact he24a_415
  have e33_416 : en_416 33 = .inl (cy 0, 8, .inl (fun _ => 0)) := by rw [hue_416 _ (by decide) (by decide)]; exact e33_415
  have he33a_416 : ad_416 33 = q_370 := by rw [hda_416 _ (by decide)]; exact he33a_415
  have hew34a_416 : ad_416 34 = q_373 := by rw [hda_416 _ (by decide)]; exact hew34a_415
  have hew38a_416 : ad_416 38 = q_380 := by rw [hda_416 _ (by decide)]; exact hew38a_415
  have hew42a_416 : ad_416 42 = q_387 := by rw [hda_416 _ (by decide)]; exact hew42a_415
  have hew46a_416 : ad_416 46 = q_394 := by rw [hda_416 _ (by decide)]; exact hew46a_415
  have hew50a_416 : ad_416 50 = q_401 := by rw [hda_416 _ (by decide)]; exact hew50a_415
  have hew54a_416 : ad_416 54 = q_408 := by rw [hda_416 _ (by decide)]; exact hew54a_415
  have he58a_416 : ad_416 58 = q_415 := by rw [hda_416 _ (by decide)]; exact he58a_415
  have hwy_416 : ∀ j, j < 9 → en_416 (15 + j) = .inl (cy 0, 6, .inl (fun _ => 0)) := fun j hj => by rw [hue_416 _ (by omega) (by omega)]; exact hwy_415 j hj
  have hpf_416 : ∀ j, j < 8 → en_416 (25 + j) = .inl (cy 1, 9, .inr (.inl (fun _ => 0))) := fun j hj => by rw [hue_416 _ (by omega) (by omega)]; exact hpf_415 j hj
  have hv_416 : ∀ j, j < 6 → en_416 (34 + 4 * j) = .inr (5, [.ref (ad_416 (35 + 4 * j)), .ref (ad_416 (36 + 4 * j)), .ref (ad_416 (37 + 4 * j)), .int 0, .int 0, .int 0, .long 0, .long 0, .long 0, .long 0]) := fun j hj => by rw [hue_416 _ (flt 34 4 59 hj (by decide)) (fne 34 4 58 hj (by decide)), hda_416 _ (flt 35 4 59 hj (by decide)), hda_416 _ (flt 36 4 59 hj (by decide)), hda_416 _ (flt 37 4 59 hj (by decide))]; exact hv_415 j hj
  have hva_416 : ∀ j, j < 6 → en_416 (35 + 4 * j) = .inl (cy 0, 8, .inl (fun _ => 0)) := fun j hj => by rw [hue_416 _ (flt 35 4 59 hj (by decide)) (fne 35 4 58 hj (by decide))]; exact hva_415 j hj
  have hvb_416 : ∀ j, j < 6 → en_416 (36 + 4 * j) = .inl (cy 0, 8, .inl (fun _ => 0)) := fun j hj => by rw [hue_416 _ (flt 36 4 59 hj (by decide)) (fne 36 4 58 hj (by decide))]; exact hvb_415 j hj
  have hvc_416 : ∀ j, j < 6 → en_416 (37 + 4 * j) = .inl (cy 0, 8, .inl (fun _ => 0)) := fun j hj => by rw [hue_416 _ (flt 37 4 59 hj (by decide)) (fne 37 4 58 hj (by decide))]; exact hvc_415 j hj
  have ew58_416 := ew_416
  have hv_417 : ∀ j, j < 7 → en_416 (34 + 4 * j) = .inr (5, [.ref (ad_416 (35 + 4 * j)), .ref (ad_416 (36 + 4 * j)), .ref (ad_416 (37 + 4 * j)), .int 0, .int 0, .int 0, .long 0, .long 0, .long 0, .long 0]) := fun j hj => (Nat.lt_or_ge j 6).elim (fun h => hv_416 j h) (fun h => by have e0 : j = 6 := (by omega); subst e0; exact ew_416)
  have hva_418 : ∀ j, j < 7 → en_416 (35 + 4 * j) = .inl (cy 0, 8, .inl (fun _ => 0)) := fun j hj => (Nat.lt_or_ge j 6).elim (fun h => hva_416 j h) (fun h => by have e0 : j = 6 := (by omega); subst e0; exact ewa_416)
  have hvb_419 : ∀ j, j < 7 → en_416 (36 + 4 * j) = .inl (cy 0, 8, .inl (fun _ => 0)) := fun j hj => (Nat.lt_or_ge j 6).elim (fun h => hvb_416 j h) (fun h => by have e0 : j = 6 := (by omega); subst e0; exact ewb_416)
  have hvc_420 : ∀ j, j < 7 → en_416 (37 + 4 * j) = .inl (cy 0, 8, .inl (fun _ => 0)) := fun j hj => (Nat.lt_or_ge j 6).elim (fun h => hvc_416 j h) (fun h => by have e0 : j = 6 := (by omega); subst e0; exact ewc_416)
  clear et_415 heta_415 hex1a_415 e13_415 he13a_415 e14_415 he14a_415 e24_415 he24a_415 e33_415 he33a_415 hew34a_415 hew38a_415 hew42a_415 hew46a_415 hew50a_415 hew54a_415 hwy_415 hpf_415 hv_415 hva_415 hvb_415 hvc_415 e58_415 he58a_415 hv_416 hva_416 hvb_416 hvc_416
  refine W.widen (k := 49) (n := 398) (Nat.le_refl _) (Nat.le_refl _) ?_
  refine hp_astq hx hb hK hh (q := 13) (v := 58) he13a_416 (List.mem_range.mpr (by decide)) he58a_416 (List.mem_range.mpr (by decide)) e13_416 ew58_416 rfl rfl (vp_in_iff.mpr (by decide)) dX2_init_70 (fun H locs en_421 hen_421 hh => ?_)
  have et_421 : en_421 12 = .inr (2, [.ref (ad 1), .ref q_364, .ref q_366, .ref q_368, .ref q_370, .int 0]) := by rw [hen_421, va_up_ne _ _ (by decide)]; exact et_416
  have e14_421 : en_421 14 = .inl (cy 7, 9, .inr (.inr (.inr (.inr (fun i => if i < 9 then some (r_366 i) else none))))) := by rw [hen_421, va_up_ne _ _ (by decide)]; exact e14_416
  have e24_421 : en_421 24 = .inl (cy 8, 8, .inr (.inr (.inr (.inr (fun i => if i < 8 then some (r_368 i) else none))))) := by rw [hen_421, va_up_ne _ _ (by decide)]; exact e24_416
  have e33_421 : en_421 33 = .inl (cy 0, 8, .inl (fun _ => 0)) := by rw [hen_421, va_up_ne _ _ (by decide)]; exact e33_416
  have ew58_421 : en_421 58 = .inr (5, [.ref (ad_416 59), .ref (ad_416 60), .ref (ad_416 61), .int 0, .int 0, .int 0, .long 0, .long 0, .long 0, .long 0]) := by rw [hen_421, va_up_ne _ _ (by decide)]; exact ew58_416
  have hwy_421 : ∀ j, j < 9 → en_421 (15 + j) = .inl (cy 0, 6, .inl (fun _ => 0)) := fun j hj => by rw [hen_421, va_up_ne _ _ (by omega)]; exact hwy_416 j hj
  have hpf_421 : ∀ j, j < 8 → en_421 (25 + j) = .inl (cy 1, 9, .inr (.inl (fun _ => 0))) := fun j hj => by rw [hen_421, va_up_ne _ _ (by omega)]; exact hpf_416 j hj
  have hv_421 : ∀ j, j < 7 → en_421 (34 + 4 * j) = .inr (5, [.ref (ad_416 (35 + 4 * j)), .ref (ad_416 (36 + 4 * j)), .ref (ad_416 (37 + 4 * j)), .int 0, .int 0, .int 0, .long 0, .long 0, .long 0, .long 0]) := fun j hj => by rw [hen_421, va_up_ne _ _ (fne2 34 4 13 (by decide))]; exact hv_417 j hj
  have hva_421 : ∀ j, j < 7 → en_421 (35 + 4 * j) = .inl (cy 0, 8, .inl (fun _ => 0)) := fun j hj => by rw [hen_421, va_up_ne _ _ (fne2 35 4 13 (by decide))]; exact hva_418 j hj
  have hvb_421 : ∀ j, j < 7 → en_421 (36 + 4 * j) = .inl (cy 0, 8, .inl (fun _ => 0)) := fun j hj => by rw [hen_421, va_up_ne _ _ (fne2 36 4 13 (by decide))]; exact hvb_419 j hj
  have hvc_421 : ∀ j, j < 7 → en_421 (37 + 4 * j) = .inl (cy 0, 8, .inl (fun _ => 0)) := fun j hj => by rw [hen_421, va_up_ne _ _ (fne2 37 4 13 (by decide))]; exact hvc_420 j hj
  have e13_421 : en_421 13 = .inl (cy 4, 9, .inr (.inr (.inr (.inr (va_up (va_up (va_up (va_up (va_up (va_up (va_up (fun _ => none) (0 : Int32).toNatClampNeg (some q_373)) (1 : Int32).toNatClampNeg (some q_380)) (2 : Int32).toNatClampNeg (some q_387)) (3 : Int32).toNatClampNeg (some q_394)) (4 : Int32).toNatClampNeg (some q_401)) (5 : Int32).toNatClampNeg (some q_408)) (6 : Int32).toNatClampNeg (some q_415)))))) := by rw [hen_421]; exact va_up_self _ _ _
  clear et_416 e13_416 e14_416 e24_416 e33_416 hwy_416 hpf_416 hv_417 hva_418 hvb_419 hvc_420 ew58_421
  refine lv_iinc (v := 7) (lv' := [(2, .int 7), (0, .ref (ad 12)), (1, .ref (ad 1))]) hx hb dX2_init_71 hl (k := 0) rfl (by decide) (by decide) rfl (fun ls hl => ?_)
  refine lv_goto (tgt := 52) hx hb dX2_init_74 (by decide) ?_
  refine lv_iload_n hx hb dX2_init_52 rfl (lv_at hl 0 rfl) ?_
  refine lv_bipush (v := 8) hx hb dX2_init_53 (by decide) ?_
  refine lv_icmp_gt (tgt := 77) hx hb dX2_init_55 (by decide) (fun c_0 => absurd c_0 (by decide)) (fun _ => ?_)
  refine lv_aload_n hx hb dX2_init_58 rfl (lv_at hl 1 rfl) ?_
  refine hp_get hx hb hts ix2 hown hK hh (q := 12) heta_416 (List.mem_range.mpr (by decide)) et_421 rfl 1 (by decide) (hts _ tw_123) (fun _ h9 => h9) rfl dX2_init_59 ?_
  refine lv_iload_n hx hb dX2_init_62 rfl (lv_at hl 0 rfl) ?_
  refine hq_new (ci := 5) (fs := [.null, .null, .null, .int 0, .int 0, .int 0, .long 0, .long 0, .long 0, .long 0]) hx hb hts ix6 tyX6 tyX6_ok hown (hts _ tw_69) (hts _ tw_74) (hts _ tw_4) hK hh hA rfl (fun j hj => by rcases (show j = 0 ∨ j = 1 ∨ j = 2 ∨ j = 3 ∨ j = 4 ∨ j = 5 ∨ j = 6 ∨ j = 7 ∨ j = 8 ∨ j = 9 by omega) with rfl | rfl | rfl | rfl | rfl | rfl | rfl | rfl | rfl | rfl <;> rfl) (Nat.le_of_ble_eq_true rfl) (Nat.le_of_ble_eq_true rfl) dX2_init_63 (fun q_422 H ad_422 en_422 had_422 hen_422 hh => ?_)
  have hh : Hp D A A s.heap H _ (List.range 63) ad_422 en_422 := hh
  have et_422 : en_422 12 = .inr (2, [.ref (ad 1), .ref q_364, .ref q_366, .ref q_368, .ref q_370, .int 0]) := by rw [hen_422, va_up_ne _ _ (by decide)]; exact et_421
  have heta_422 : ad_422 12 = (ad 12) := by rw [had_422, va_up_ne _ _ (by decide)]; exact heta_416
  have hex1a_422 : ad_422 1 = (ad 1) := by rw [had_422, va_up_ne _ _ (by decide)]; exact hex1a_416
  have e13_422 : en_422 13 = .inl (cy 4, 9, .inr (.inr (.inr (.inr (va_up (va_up (va_up (va_up (va_up (va_up (va_up (fun _ => none) (0 : Int32).toNatClampNeg (some q_373)) (1 : Int32).toNatClampNeg (some q_380)) (2 : Int32).toNatClampNeg (some q_387)) (3 : Int32).toNatClampNeg (some q_394)) (4 : Int32).toNatClampNeg (some q_401)) (5 : Int32).toNatClampNeg (some q_408)) (6 : Int32).toNatClampNeg (some q_415)))))) := by rw [hen_422, va_up_ne _ _ (by decide)]; exact e13_421
  have he13a_422 : ad_422 13 = q_364 := by rw [had_422, va_up_ne _ _ (by decide)]; exact he13a_416
  have e14_422 : en_422 14 = .inl (cy 7, 9, .inr (.inr (.inr (.inr (fun i => if i < 9 then some (r_366 i) else none))))) := by rw [hen_422, va_up_ne _ _ (by decide)]; exact e14_421
  have he14a_422 : ad_422 14 = q_366 := by rw [had_422, va_up_ne _ _ (by decide)]; exact he14a_416
  have e24_422 : en_422 24 = .inl (cy 8, 8, .inr (.inr (.inr (.inr (fun i => if i < 8 then some (r_368 i) else none))))) := by rw [hen_422, va_up_ne _ _ (by decide)]; exact e24_421
  have he24a_422 : ad_422 24 = q_368 := by rw [had_422, va_up_ne _ _ (by decide)]; exact he24a_416
  have e33_422 : en_422 33 = .inl (cy 0, 8, .inl (fun _ => 0)) := by rw [hen_422, va_up_ne _ _ (by decide)]; exact e33_421
  have he33a_422 : ad_422 33 = q_370 := by rw [had_422, va_up_ne _ _ (by decide)]; exact he33a_416
  have hew34a_422 : ad_422 34 = q_373 := by rw [had_422, va_up_ne _ _ (by decide)]; exact hew34a_416
  have hew38a_422 : ad_422 38 = q_380 := by rw [had_422, va_up_ne _ _ (by decide)]; exact hew38a_416
  have hew42a_422 : ad_422 42 = q_387 := by rw [had_422, va_up_ne _ _ (by decide)]; exact hew42a_416
  have hew46a_422 : ad_422 46 = q_394 := by rw [had_422, va_up_ne _ _ (by decide)]; exact hew46a_416
  have hew50a_422 : ad_422 50 = q_401 := by rw [had_422, va_up_ne _ _ (by decide)]; exact hew50a_416
  have hew54a_422 : ad_422 54 = q_408 := by rw [had_422, va_up_ne _ _ (by decide)]; exact hew54a_416
  have hew58a_422 : ad_422 58 = q_415 := by rw [had_422, va_up_ne _ _ (by decide)]; exact he58a_416
  have hwy_422 : ∀ j, j < 9 → en_422 (15 + j) = .inl (cy 0, 6, .inl (fun _ => 0)) := fun j hj => by rw [hen_422, va_up_ne _ _ (by omega)]; exact hwy_421 j hj
  have hpf_422 : ∀ j, j < 8 → en_422 (25 + j) = .inl (cy 1, 9, .inr (.inl (fun _ => 0))) := fun j hj => by rw [hen_422, va_up_ne _ _ (by omega)]; exact hpf_421 j hj
  have hv_422 : ∀ j, j < 7 → en_422 (34 + 4 * j) = .inr (5, [.ref (ad_422 (35 + 4 * j)), .ref (ad_422 (36 + 4 * j)), .ref (ad_422 (37 + 4 * j)), .int 0, .int 0, .int 0, .long 0, .long 0, .long 0, .long 0]) := fun j hj => by rw [hen_422, va_up_ne _ _ (fne 34 4 62 hj (by decide)), had_422, va_up_ne _ _ (fne 35 4 62 hj (by decide)), va_up_ne _ _ (fne 36 4 62 hj (by decide)), va_up_ne _ _ (fne 37 4 62 hj (by decide))]; exact hv_421 j hj
  have hva_422 : ∀ j, j < 7 → en_422 (35 + 4 * j) = .inl (cy 0, 8, .inl (fun _ => 0)) := fun j hj => by rw [hen_422, va_up_ne _ _ (fne 35 4 62 hj (by decide))]; exact hva_421 j hj
  have hvb_422 : ∀ j, j < 7 → en_422 (36 + 4 * j) = .inl (cy 0, 8, .inl (fun _ => 0)) := fun j hj => by rw [hen_422, va_up_ne _ _ (fne 36 4 62 hj (by decide))]; exact hvb_421 j hj
  have hvc_422 : ∀ j, j < 7 → en_422 (37 + 4 * j) = .inl (cy 0, 8, .inl (fun _ => 0)) := fun j hj => by rw [hen_422, va_up_ne _ _ (fne 37 4 62 hj (by decide))]; exact hvc_421 j hj
  have e62_422 : en_422 62 = .inr (5, [.null, .null, .null, .int 0, .int 0, .int 0, .long 0, .long 0, .long 0, .long 0]) := by rw [hen_422]; exact va_up_self _ _ _
  have he62a_422 : ad_422 62 = q_422 := by rw [had_422]; exact va_up_self _ _ _
  clear heta_416 hex1a_416 he13a_416 he14a_416 he24a_416 he33a_416 hew34a_416 hew38a_416 hew42a_416 hew46a_416 hew50a_416 hew54a_416 he58a_416 et_421 e14_421 e24_421 e33_421 hwy_421 hpf_421 hv_421 hva_421 hvb_421 hvc_421 e13_421
  refine W.widen (k := 50) (n := 408) (Nat.le_refl _) (Nat.le_refl _) ?_
  refine lv_dup hx hb dX2_init_66 rfl ?_
  refine W.eq (g2 := F0 m 67 ls [.ref (ad_422 62), .ref q_422, .int 7, .ref q_364]) (by rw [he62a_422]) ?_
  refine hq_callC (va_runIN (As := []) (rest := [.ref q_422, .int 7, .ref q_364]) ⟨hx, hb, hml, hown, hts⟩ (c_X6_init l D cy _ ad_422 en_422 63 62 (by decide) e62_422) (kw_X6_init hts hX.2.2.2.2.2.2.1 ⟨by decide, by decide⟩) (preC_of hh hK hX) rfl rfl hl.1 rfl (lv_room (Nat.le_of_ble_eq_true rfl)) dX2_init_67 ⟨Nat.le_of_ble_eq_true rfl, Nat.le_of_ble_eq_true rfl⟩) hh hA (fun H locs ad_423 en_423 hw_423 hh => ?_)
  have hh : Hp D A A s.heap H _ (List.range 66) ad_423 en_423 := hh
  obtain ⟨hda_423, hue_423, ew_423, ewa_423, ewb_423, ewc_423⟩ := hw_423
  dsimp only at hda_423 hue_423 ew_423 ewa_423 ewb_423 ewc_423
  have et_423 : en_423 12 = .inr (2, [.ref (ad 1), .ref q_364, .ref q_366, .ref q_368, .ref q_370, .int 0]) := by rw [hue_423 _ (by decide) (by decide)]; exact et_422
  have heta_423 : ad_423 12 = (ad 12) := by rw [hda_423 _ (by decide)]; exact heta_422
  have hex1a_423 : ad_423 1 = (ad 1) := by rw [hda_423 _ (by decide)]; exact hex1a_422
  have e13_423 : en_423 13 = .inl (cy 4, 9, .inr (.inr (.inr (.inr (va_up (va_up (va_up (va_up (va_up (va_up (va_up (fun _ => none) (0 : Int32).toNatClampNeg (some q_373)) (1 : Int32).toNatClampNeg (some q_380)) (2 : Int32).toNatClampNeg (some q_387)) (3 : Int32).toNatClampNeg (some q_394)) (4 : Int32).toNatClampNeg (some q_401)) (5 : Int32).toNatClampNeg (some q_408)) (6 : Int32).toNatClampNeg (some q_415)))))) := by rw [hue_423 _ (by decide) (by decide)]; exact e13_422
  have he13a_423 : ad_423 13 = q_364 := by rw [hda_423 _ (by decide)]; exact he13a_422
  have e14_423 : en_423 14 = .inl (cy 7, 9, .inr (.inr (.inr (.inr (fun i => if i < 9 then some (r_366 i) else none))))) := by rw [hue_423 _ (by decide) (by decide)]; exact e14_422
  have he14a_423 : ad_423 14 = q_366 := by rw [hda_423 _ (by decide)]; exact he14a_422
  have e24_423 : en_423 24 = .inl (cy 8, 8, .inr (.inr (.inr (.inr (fun i => if i < 8 then some (r_368 i) else none))))) := by rw [hue_423 _ (by decide) (by decide)]; exact e24_422
  have he24a_423 : ad_423 24 = q_368 := by rw [hda_423 _ (by decide)]; exact he24a_422
  have e33_423 : en_423 33 = .inl (cy 0, 8, .inl (fun _ => 0)) := by rw [hue_423 _ (by decide) (by decide)]; exact e33_422
  have he33a_423 : ad_423 33 = q_370 := by rw [hda_423 _ (by decide)]; exact he33a_422
  have hew34a_423 : ad_423 34 = q_373 := by rw [hda_423 _ (by decide)]; exact hew34a_422
  have hew38a_423 : ad_423 38 = q_380 := by rw [hda_423 _ (by decide)]; exact hew38a_422
  have hew42a_423 : ad_423 42 = q_387 := by rw [hda_423 _ (by decide)]; exact hew42a_422
  have hew46a_423 : ad_423 46 = q_394 := by rw [hda_423 _ (by decide)]; exact hew46a_422
  have hew50a_423 : ad_423 50 = q_401 := by rw [hda_423 _ (by decide)]; exact hew50a_422
  have hew54a_423 : ad_423 54 = q_408 := by rw [hda_423 _ (by decide)]; exact hew54a_422
  have hew58a_423 : ad_423 58 = q_415 := by rw [hda_423 _ (by decide)]; exact hew58a_422
  have he62a_423 : ad_423 62 = q_422 := by rw [hda_423 _ (by decide)]; exact he62a_422
  have hwy_423 : ∀ j, j < 9 → en_423 (15 + j) = .inl (cy 0, 6, .inl (fun _ => 0)) := fun j hj => by rw [hue_423 _ (by omega) (by omega)]; exact hwy_422 j hj
  have hpf_423 : ∀ j, j < 8 → en_423 (25 + j) = .inl (cy 1, 9, .inr (.inl (fun _ => 0))) := fun j hj => by rw [hue_423 _ (by omega) (by omega)]; exact hpf_422 j hj
  have hv_423 : ∀ j, j < 7 → en_423 (34 + 4 * j) = .inr (5, [.ref (ad_423 (35 + 4 * j)), .ref (ad_423 (36 + 4 * j)), .ref (ad_423 (37 + 4 * j)), .int 0, .int 0, .int 0, .long 0, .long 0, .long 0, .long 0]) := fun j hj => by rw [hue_423 _ (flt 34 4 63 hj (by decide)) (fne 34 4 62 hj (by decide)), hda_423 _ (flt 35 4 63 hj (by decide)), hda_423 _ (flt 36 4 63 hj (by decide)), hda_423 _ (flt 37 4 63 hj (by decide))]; exact hv_422 j hj
  have hva_423 : ∀ j, j < 7 → en_423 (35 + 4 * j) = .inl (cy 0, 8, .inl (fun _ => 0)) := fun j hj => by rw [hue_423 _ (flt 35 4 63 hj (by decide)) (fne 35 4 62 hj (by decide))]; exact hva_422 j hj
  have hvb_423 : ∀ j, j < 7 → en_423 (36 + 4 * j) = .inl (cy 0, 8, .inl (fun _ => 0)) := fun j hj => by rw [hue_423 _ (flt 36 4 63 hj (by decide)) (fne 36 4 62 hj (by decide))]; exact hvb_422 j hj
  have hvc_423 : ∀ j, j < 7 → en_423 (37 + 4 * j) = .inl (cy 0, 8, .inl (fun _ => 0)) := fun j hj => by rw [hue_423 _ (flt 37 4 63 hj (by decide)) (fne 37 4 62 hj (by decide))]; exact hvc_422 j hj
  have ew62_423 := ew_423
  have hv_424 : ∀ j, j < 8 → en_423 (34 + 4 * j) = .inr (5, [.ref (ad_423 (35 + 4 * j)), .ref (ad_423 (36 + 4 * j)), .ref (ad_423 (37 + 4 * j)), .int 0, .int 0, .int 0, .long 0, .long 0, .long 0, .long 0]) := fun j hj => (Nat.lt_or_ge j 7).elim (fun h => hv_423 j h) (fun h => by have e0 : j = 7 := (by omega); subst e0; exact ew_423)
  have hva_425 : ∀ j, j < 8 → en_423 (35 + 4 * j) = .inl (cy 0, 8, .inl (fun _ => 0)) := fun j hj => (Nat.lt_or_ge j 7).elim (fun h => hva_423 j h) (fun h => by have e0 : j = 7 := (by omega); subst e0; exact ewa_423)
  have hvb_426 : ∀ j, j < 8 → en_423 (36 + 4 * j) = .inl (cy 0, 8, .inl (fun _ => 0)) := fun j hj => (Nat.lt_or_ge j 7).elim (fun h => hvb_423 j h) (fun h => by have e0 : j = 7 := (by omega); subst e0; exact ewb_423)
  have hvc_427 : ∀ j, j < 8 → en_423 (37 + 4 * j) = .inl (cy 0, 8, .inl (fun _ => 0)) := fun j hj => (Nat.lt_or_ge j 7).elim (fun h => hvc_423 j h) (fun h => by have e0 : j = 7 := (by omega); subst e0; exact ewc_423)
  clear et_422 heta_422 hex1a_422 e13_422 he13a_422 e14_422 he14a_422 e24_422 he24a_422 e33_422 he33a_422 hew34a_422 hew38a_422 hew42a_422 hew46a_422 hew50a_422 hew54a_422 hew58a_422 hwy_422 hpf_422 hv_422 hva_422 hvb_422 hvc_422 e62_422 he62a_422 hv_423 hva_423 hvb_423 hvc_423
  refine W.widen (k := 53) (n := 432) (Nat.le_refl _) (Nat.le_refl _) ?_
  refine hp_astq hx hb hK hh (q := 13) (v := 62) he13a_423 (List.mem_range.mpr (by decide)) he62a_423 (List.mem_range.mpr (by decide)) e13_423 ew62_423 rfl rfl (vp_in_iff.mpr (by decide)) dX2_init_70 (fun H locs en_428 hen_428 hh => ?_)
  have et_428 : en_428 12 = .inr (2, [.ref (ad 1), .ref q_364, .ref q_366, .ref q_368, .ref q_370, .int 0]) := by rw [hen_428, va_up_ne _ _ (by decide)]; exact et_423
  have e14_428 : en_428 14 = .inl (cy 7, 9, .inr (.inr (.inr (.inr (fun i => if i < 9 then some (r_366 i) else none))))) := by rw [hen_428, va_up_ne _ _ (by decide)]; exact e14_423
  have e24_428 : en_428 24 = .inl (cy 8, 8, .inr (.inr (.inr (.inr (fun i => if i < 8 then some (r_368 i) else none))))) := by rw [hen_428, va_up_ne _ _ (by decide)]; exact e24_423
  have e33_428 : en_428 33 = .inl (cy 0, 8, .inl (fun _ => 0)) := by rw [hen_428, va_up_ne _ _ (by decide)]; exact e33_423
  have ew62_428 : en_428 62 = .inr (5, [.ref (ad_423 63), .ref (ad_423 64), .ref (ad_423 65), .int 0, .int 0, .int 0, .long 0, .long 0, .long 0, .long 0]) := by rw [hen_428, va_up_ne _ _ (by decide)]; exact ew62_423
  have hwy_428 : ∀ j, j < 9 → en_428 (15 + j) = .inl (cy 0, 6, .inl (fun _ => 0)) := fun j hj => by rw [hen_428, va_up_ne _ _ (by omega)]; exact hwy_423 j hj
  have hpf_428 : ∀ j, j < 8 → en_428 (25 + j) = .inl (cy 1, 9, .inr (.inl (fun _ => 0))) := fun j hj => by rw [hen_428, va_up_ne _ _ (by omega)]; exact hpf_423 j hj
  have hv_428 : ∀ j, j < 8 → en_428 (34 + 4 * j) = .inr (5, [.ref (ad_423 (35 + 4 * j)), .ref (ad_423 (36 + 4 * j)), .ref (ad_423 (37 + 4 * j)), .int 0, .int 0, .int 0, .long 0, .long 0, .long 0, .long 0]) := fun j hj => by rw [hen_428, va_up_ne _ _ (fne2 34 4 13 (by decide))]; exact hv_424 j hj
  have hva_428 : ∀ j, j < 8 → en_428 (35 + 4 * j) = .inl (cy 0, 8, .inl (fun _ => 0)) := fun j hj => by rw [hen_428, va_up_ne _ _ (fne2 35 4 13 (by decide))]; exact hva_425 j hj
  have hvb_428 : ∀ j, j < 8 → en_428 (36 + 4 * j) = .inl (cy 0, 8, .inl (fun _ => 0)) := fun j hj => by rw [hen_428, va_up_ne _ _ (fne2 36 4 13 (by decide))]; exact hvb_426 j hj
  have hvc_428 : ∀ j, j < 8 → en_428 (37 + 4 * j) = .inl (cy 0, 8, .inl (fun _ => 0)) := fun j hj => by rw [hen_428, va_up_ne _ _ (fne2 37 4 13 (by decide))]; exact hvc_427 j hj
  have e13_428 : en_428 13 = .inl (cy 4, 9, .inr (.inr (.inr (.inr (va_up (va_up (va_up (va_up (va_up (va_up (va_up (va_up (fun _ => none) (0 : Int32).toNatClampNeg (some q_373)) (1 : Int32).toNatClampNeg (some q_380)) (2 : Int32).toNatClampNeg (some q_387)) (3 : Int32).toNatClampNeg (some q_394)) (4 : Int32).toNatClampNeg (some q_401)) (5 : Int32).toNatClampNeg (some q_408)) (6 : Int32).toNatClampNeg (some q_415)) (7 : Int32).toNatClampNeg (some q_422)))))) := by rw [hen_428]; exact va_up_self _ _ _
  clear et_423 e13_423 e14_423 e24_423 e33_423 hwy_423 hpf_423 hv_424 hva_425 hvb_426 hvc_427 ew62_428
  refine lv_iinc (v := 8) (lv' := [(2, .int 8), (0, .ref (ad 12)), (1, .ref (ad 1))]) hx hb dX2_init_71 hl (k := 0) rfl (by decide) (by decide) rfl (fun ls hl => ?_)
  refine lv_goto (tgt := 52) hx hb dX2_init_74 (by decide) ?_
  refine lv_iload_n hx hb dX2_init_52 rfl (lv_at hl 0 rfl) ?_
  refine lv_bipush (v := 8) hx hb dX2_init_53 (by decide) ?_
  refine lv_icmp_gt (tgt := 77) hx hb dX2_init_55 (by decide) (fun c_0 => absurd c_0 (by decide)) (fun _ => ?_)
  refine lv_aload_n hx hb dX2_init_58 rfl (lv_at hl 1 rfl) ?_
  refine hp_get hx hb hts ix2 hown hK hh (q := 12) heta_423 (List.mem_range.mpr (by decide)) et_428 rfl 1 (by decide) (hts _ tw_123) (fun _ h9 => h9) rfl dX2_init_59 ?_
  refine lv_iload_n hx hb dX2_init_62 rfl (lv_at hl 0 rfl) ?_
  refine hq_new (ci := 5) (fs := [.null, .null, .null, .int 0, .int 0, .int 0, .long 0, .long 0, .long 0, .long 0]) hx hb hts ix6 tyX6 tyX6_ok hown (hts _ tw_69) (hts _ tw_74) (hts _ tw_4) hK hh hA rfl (fun j hj => by rcases (show j = 0 ∨ j = 1 ∨ j = 2 ∨ j = 3 ∨ j = 4 ∨ j = 5 ∨ j = 6 ∨ j = 7 ∨ j = 8 ∨ j = 9 by omega) with rfl | rfl | rfl | rfl | rfl | rfl | rfl | rfl | rfl | rfl <;> rfl) (Nat.le_of_ble_eq_true rfl) (Nat.le_of_ble_eq_true rfl) dX2_init_63 (fun q_429 H ad_429 en_429 had_429 hen_429 hh => ?_)
  have hh : Hp D A A s.heap H _ (List.range 67) ad_429 en_429 := hh
  have et_429 : en_429 12 = .inr (2, [.ref (ad 1), .ref q_364, .ref q_366, .ref q_368, .ref q_370, .int 0]) := by rw [hen_429, va_up_ne _ _ (by decide)]; exact et_428
  have heta_429 : ad_429 12 = (ad 12) := by rw [had_429, va_up_ne _ _ (by decide)]; exact heta_423
  have hex1a_429 : ad_429 1 = (ad 1) := by rw [had_429, va_up_ne _ _ (by decide)]; exact hex1a_423
  have e13_429 : en_429 13 = .inl (cy 4, 9, .inr (.inr (.inr (.inr (va_up (va_up (va_up (va_up (va_up (va_up (va_up (va_up (fun _ => none) (0 : Int32).toNatClampNeg (some q_373)) (1 : Int32).toNatClampNeg (some q_380)) (2 : Int32).toNatClampNeg (some q_387)) (3 : Int32).toNatClampNeg (some q_394)) (4 : Int32).toNatClampNeg (some q_401)) (5 : Int32).toNatClampNeg (some q_408)) (6 : Int32).toNatClampNeg (some q_415)) (7 : Int32).toNatClampNeg (some q_422)))))) := by rw [hen_429, va_up_ne _ _ (by decide)]; exact e13_428
  have he13a_429 : ad_429 13 = q_364 := by rw [had_429, va_up_ne _ _ (by decide)]; exact he13a_423
  have e14_429 : en_429 14 = .inl (cy 7, 9, .inr (.inr (.inr (.inr (fun i => if i < 9 then some (r_366 i) else none))))) := by rw [hen_429, va_up_ne _ _ (by decide)]; exact e14_428
  have he14a_429 : ad_429 14 = q_366 := by rw [had_429, va_up_ne _ _ (by decide)]; exact he14a_423
  have e24_429 : en_429 24 = .inl (cy 8, 8, .inr (.inr (.inr (.inr (fun i => if i < 8 then some (r_368 i) else none))))) := by rw [hen_429, va_up_ne _ _ (by decide)]; exact e24_428
  have he24a_429 : ad_429 24 = q_368 := by rw [had_429, va_up_ne _ _ (by decide)]; exact he24a_423
  have e33_429 : en_429 33 = .inl (cy 0, 8, .inl (fun _ => 0)) := by rw [hen_429, va_up_ne _ _ (by decide)]; exact e33_428
  have he33a_429 : ad_429 33 = q_370 := by rw [had_429, va_up_ne _ _ (by decide)]; exact he33a_423
  have hew34a_429 : ad_429 34 = q_373 := by rw [had_429, va_up_ne _ _ (by decide)]; exact hew34a_423
  have hew38a_429 : ad_429 38 = q_380 := by rw [had_429, va_up_ne _ _ (by decide)]; exact hew38a_423
  have hew42a_429 : ad_429 42 = q_387 := by rw [had_429, va_up_ne _ _ (by decide)]; exact hew42a_423
  have hew46a_429 : ad_429 46 = q_394 := by rw [had_429, va_up_ne _ _ (by decide)]; exact hew46a_423
  have hew50a_429 : ad_429 50 = q_401 := by rw [had_429, va_up_ne _ _ (by decide)]; exact hew50a_423
  have hew54a_429 : ad_429 54 = q_408 := by rw [had_429, va_up_ne _ _ (by decide)]; exact hew54a_423
  have hew58a_429 : ad_429 58 = q_415 := by rw [had_429, va_up_ne _ _ (by decide)]; exact hew58a_423
  have hew62a_429 : ad_429 62 = q_422 := by rw [had_429, va_up_ne _ _ (by decide)]; exact he62a_423
  have hwy_429 : ∀ j, j < 9 → en_429 (15 + j) = .inl (cy 0, 6, .inl (fun _ => 0)) := fun j hj => by rw [hen_429, va_up_ne _ _ (by omega)]; exact hwy_428 j hj
  have hpf_429 : ∀ j, j < 8 → en_429 (25 + j) = .inl (cy 1, 9, .inr (.inl (fun _ => 0))) := fun j hj => by rw [hen_429, va_up_ne _ _ (by omega)]; exact hpf_428 j hj
  have hv_429 : ∀ j, j < 8 → en_429 (34 + 4 * j) = .inr (5, [.ref (ad_429 (35 + 4 * j)), .ref (ad_429 (36 + 4 * j)), .ref (ad_429 (37 + 4 * j)), .int 0, .int 0, .int 0, .long 0, .long 0, .long 0, .long 0]) := fun j hj => by rw [hen_429, va_up_ne _ _ (fne 34 4 66 hj (by decide)), had_429, va_up_ne _ _ (fne 35 4 66 hj (by decide)), va_up_ne _ _ (fne 36 4 66 hj (by decide)), va_up_ne _ _ (fne 37 4 66 hj (by decide))]; exact hv_428 j hj
  have hva_429 : ∀ j, j < 8 → en_429 (35 + 4 * j) = .inl (cy 0, 8, .inl (fun _ => 0)) := fun j hj => by rw [hen_429, va_up_ne _ _ (fne 35 4 66 hj (by decide))]; exact hva_428 j hj
  have hvb_429 : ∀ j, j < 8 → en_429 (36 + 4 * j) = .inl (cy 0, 8, .inl (fun _ => 0)) := fun j hj => by rw [hen_429, va_up_ne _ _ (fne 36 4 66 hj (by decide))]; exact hvb_428 j hj
  have hvc_429 : ∀ j, j < 8 → en_429 (37 + 4 * j) = .inl (cy 0, 8, .inl (fun _ => 0)) := fun j hj => by rw [hen_429, va_up_ne _ _ (fne 37 4 66 hj (by decide))]; exact hvc_428 j hj
  have e66_429 : en_429 66 = .inr (5, [.null, .null, .null, .int 0, .int 0, .int 0, .long 0, .long 0, .long 0, .long 0]) := by rw [hen_429]; exact va_up_self _ _ _
  have he66a_429 : ad_429 66 = q_429 := by rw [had_429]; exact va_up_self _ _ _
  clear heta_423 hex1a_423 he13a_423 he14a_423 he24a_423 he33a_423 hew34a_423 hew38a_423 hew42a_423 hew46a_423 hew50a_423 hew54a_423 hew58a_423 he62a_423 et_428 e14_428 e24_428 e33_428 hwy_428 hpf_428 hv_428 hva_428 hvb_428 hvc_428 e13_428
  refine W.widen (k := 54) (n := 442) (Nat.le_refl _) (Nat.le_refl _) ?_
  refine lv_dup hx hb dX2_init_66 rfl ?_
  refine W.eq (g2 := F0 m 67 ls [.ref (ad_429 66), .ref q_429, .int 8, .ref q_364]) (by rw [he66a_429]) ?_
  refine hq_callC (va_runIN (As := []) (rest := [.ref q_429, .int 8, .ref q_364]) ⟨hx, hb, hml, hown, hts⟩ (c_X6_init l D cy _ ad_429 en_429 67 66 (by decide) e66_429) (kw_X6_init hts hX.2.2.2.2.2.2.1 ⟨by decide, by decide⟩) (preC_of hh hK hX) rfl rfl hl.1 rfl (lv_room (Nat.le_of_ble_eq_true rfl)) dX2_init_67 ⟨Nat.le_of_ble_eq_true rfl, Nat.le_of_ble_eq_true rfl⟩) hh hA (fun H locs ad_430 en_430 hw_430 hh => ?_)
  have hh : Hp D A A s.heap H _ (List.range 70) ad_430 en_430 := hh
  obtain ⟨hda_430, hue_430, ew_430, ewa_430, ewb_430, ewc_430⟩ := hw_430
  dsimp only at hda_430 hue_430 ew_430 ewa_430 ewb_430 ewc_430
  have et_430 : en_430 12 = .inr (2, [.ref (ad 1), .ref q_364, .ref q_366, .ref q_368, .ref q_370, .int 0]) := by rw [hue_430 _ (by decide) (by decide)]; exact et_429
  have heta_430 : ad_430 12 = (ad 12) := by rw [hda_430 _ (by decide)]; exact heta_429
  have hex1a_430 : ad_430 1 = (ad 1) := by rw [hda_430 _ (by decide)]; exact hex1a_429
  have e13_430 : en_430 13 = .inl (cy 4, 9, .inr (.inr (.inr (.inr (va_up (va_up (va_up (va_up (va_up (va_up (va_up (va_up (fun _ => none) (0 : Int32).toNatClampNeg (some q_373)) (1 : Int32).toNatClampNeg (some q_380)) (2 : Int32).toNatClampNeg (some q_387)) (3 : Int32).toNatClampNeg (some q_394)) (4 : Int32).toNatClampNeg (some q_401)) (5 : Int32).toNatClampNeg (some q_408)) (6 : Int32).toNatClampNeg (some q_415)) (7 : Int32).toNatClampNeg (some q_422)))))) := by rw [hue_430 _ (by decide) (by decide)]; exact e13_429
  have he13a_430 : ad_430 13 = q_364 := by rw [hda_430 _ (by decide)]; exact he13a_429
  have e14_430 : en_430 14 = .inl (cy 7, 9, .inr (.inr (.inr (.inr (fun i => if i < 9 then some (r_366 i) else none))))) := by rw [hue_430 _ (by decide) (by decide)]; exact e14_429
  have he14a_430 : ad_430 14 = q_366 := by rw [hda_430 _ (by decide)]; exact he14a_429
  have e24_430 : en_430 24 = .inl (cy 8, 8, .inr (.inr (.inr (.inr (fun i => if i < 8 then some (r_368 i) else none))))) := by rw [hue_430 _ (by decide) (by decide)]; exact e24_429
  have he24a_430 : ad_430 24 = q_368 := by rw [hda_430 _ (by decide)]; exact he24a_429
  have e33_430 : en_430 33 = .inl (cy 0, 8, .inl (fun _ => 0)) := by rw [hue_430 _ (by decide) (by decide)]; exact e33_429
  have he33a_430 : ad_430 33 = q_370 := by rw [hda_430 _ (by decide)]; exact he33a_429
  have hew34a_430 : ad_430 34 = q_373 := by rw [hda_430 _ (by decide)]; exact hew34a_429
  have hew38a_430 : ad_430 38 = q_380 := by rw [hda_430 _ (by decide)]; exact hew38a_429
  have hew42a_430 : ad_430 42 = q_387 := by rw [hda_430 _ (by decide)]; exact hew42a_429
  have hew46a_430 : ad_430 46 = q_394 := by rw [hda_430 _ (by decide)]; exact hew46a_429
  have hew50a_430 : ad_430 50 = q_401 := by rw [hda_430 _ (by decide)]; exact hew50a_429
  have hew54a_430 : ad_430 54 = q_408 := by rw [hda_430 _ (by decide)]; exact hew54a_429
  have hew58a_430 : ad_430 58 = q_415 := by rw [hda_430 _ (by decide)]; exact hew58a_429
  have hew62a_430 : ad_430 62 = q_422 := by rw [hda_430 _ (by decide)]; exact hew62a_429
  have he66a_430 : ad_430 66 = q_429 := by rw [hda_430 _ (by decide)]; exact he66a_429
  have hwy_430 : ∀ j, j < 9 → en_430 (15 + j) = .inl (cy 0, 6, .inl (fun _ => 0)) := fun j hj => by rw [hue_430 _ (by omega) (by omega)]; exact hwy_429 j hj
  have hpf_430 : ∀ j, j < 8 → en_430 (25 + j) = .inl (cy 1, 9, .inr (.inl (fun _ => 0))) := fun j hj => by rw [hue_430 _ (by omega) (by omega)]; exact hpf_429 j hj
  have hv_430 : ∀ j, j < 8 → en_430 (34 + 4 * j) = .inr (5, [.ref (ad_430 (35 + 4 * j)), .ref (ad_430 (36 + 4 * j)), .ref (ad_430 (37 + 4 * j)), .int 0, .int 0, .int 0, .long 0, .long 0, .long 0, .long 0]) := fun j hj => by rw [hue_430 _ (flt 34 4 67 hj (by decide)) (fne 34 4 66 hj (by decide)), hda_430 _ (flt 35 4 67 hj (by decide)), hda_430 _ (flt 36 4 67 hj (by decide)), hda_430 _ (flt 37 4 67 hj (by decide))]; exact hv_429 j hj
  have hva_430 : ∀ j, j < 8 → en_430 (35 + 4 * j) = .inl (cy 0, 8, .inl (fun _ => 0)) := fun j hj => by rw [hue_430 _ (flt 35 4 67 hj (by decide)) (fne 35 4 66 hj (by decide))]; exact hva_429 j hj
  have hvb_430 : ∀ j, j < 8 → en_430 (36 + 4 * j) = .inl (cy 0, 8, .inl (fun _ => 0)) := fun j hj => by rw [hue_430 _ (flt 36 4 67 hj (by decide)) (fne 36 4 66 hj (by decide))]; exact hvb_429 j hj
  have hvc_430 : ∀ j, j < 8 → en_430 (37 + 4 * j) = .inl (cy 0, 8, .inl (fun _ => 0)) := fun j hj => by rw [hue_430 _ (flt 37 4 67 hj (by decide)) (fne 37 4 66 hj (by decide))]; exact hvc_429 j hj
  have ew66_430 := ew_430
  have hv_431 : ∀ j, j < 9 → en_430 (34 + 4 * j) = .inr (5, [.ref (ad_430 (35 + 4 * j)), .ref (ad_430 (36 + 4 * j)), .ref (ad_430 (37 + 4 * j)), .int 0, .int 0, .int 0, .long 0, .long 0, .long 0, .long 0]) := fun j hj => (Nat.lt_or_ge j 8).elim (fun h => hv_430 j h) (fun h => by have e0 : j = 8 := (by omega); subst e0; exact ew_430)
  have hva_432 : ∀ j, j < 9 → en_430 (35 + 4 * j) = .inl (cy 0, 8, .inl (fun _ => 0)) := fun j hj => (Nat.lt_or_ge j 8).elim (fun h => hva_430 j h) (fun h => by have e0 : j = 8 := (by omega); subst e0; exact ewa_430)
  have hvb_433 : ∀ j, j < 9 → en_430 (36 + 4 * j) = .inl (cy 0, 8, .inl (fun _ => 0)) := fun j hj => (Nat.lt_or_ge j 8).elim (fun h => hvb_430 j h) (fun h => by have e0 : j = 8 := (by omega); subst e0; exact ewb_430)
  have hvc_434 : ∀ j, j < 9 → en_430 (37 + 4 * j) = .inl (cy 0, 8, .inl (fun _ => 0)) := fun j hj => (Nat.lt_or_ge j 8).elim (fun h => hvc_430 j h) (fun h => by have e0 : j = 8 := (by omega); subst e0; exact ewc_430)
  clear et_429 heta_429 hex1a_429 e13_429 he13a_429 e14_429 he14a_429 e24_429 he24a_429 e33_429 he33a_429 hew34a_429 hew38a_429 hew42a_429 hew46a_429 hew50a_429 hew54a_429 hew58a_429 hew62a_429 hwy_429 hpf_429 hv_429 hva_429 hvb_429 hvc_429 e66_429 he66a_429 heta_430 hv_430 hva_430 hvb_430 hvc_430
  refine W.widen (k := 57) (n := 466) (Nat.le_refl _) (Nat.le_refl _) ?_
  refine hp_astq hx hb hK hh (q := 13) (v := 66) he13a_430 (List.mem_range.mpr (by decide)) he66a_430 (List.mem_range.mpr (by decide)) e13_430 ew66_430 rfl rfl (vp_in_iff.mpr (by decide)) dX2_init_70 (fun H locs en_435 hen_435 hh => ?_)
  have et_435 : en_435 12 = .inr (2, [.ref (ad 1), .ref q_364, .ref q_366, .ref q_368, .ref q_370, .int 0]) := by rw [hen_435, va_up_ne _ _ (by decide)]; exact et_430
  have e14_435 : en_435 14 = .inl (cy 7, 9, .inr (.inr (.inr (.inr (fun i => if i < 9 then some (r_366 i) else none))))) := by rw [hen_435, va_up_ne _ _ (by decide)]; exact e14_430
  have e24_435 : en_435 24 = .inl (cy 8, 8, .inr (.inr (.inr (.inr (fun i => if i < 8 then some (r_368 i) else none))))) := by rw [hen_435, va_up_ne _ _ (by decide)]; exact e24_430
  have e33_435 : en_435 33 = .inl (cy 0, 8, .inl (fun _ => 0)) := by rw [hen_435, va_up_ne _ _ (by decide)]; exact e33_430
  have ew66_435 : en_435 66 = .inr (5, [.ref (ad_430 67), .ref (ad_430 68), .ref (ad_430 69), .int 0, .int 0, .int 0, .long 0, .long 0, .long 0, .long 0]) := by rw [hen_435, va_up_ne _ _ (by decide)]; exact ew66_430
  have hwy_435 : ∀ j, j < 9 → en_435 (15 + j) = .inl (cy 0, 6, .inl (fun _ => 0)) := fun j hj => by rw [hen_435, va_up_ne _ _ (by omega)]; exact hwy_430 j hj
  have hpf_435 : ∀ j, j < 8 → en_435 (25 + j) = .inl (cy 1, 9, .inr (.inl (fun _ => 0))) := fun j hj => by rw [hen_435, va_up_ne _ _ (by omega)]; exact hpf_430 j hj
  have hv_435 : ∀ j, j < 9 → en_435 (34 + 4 * j) = .inr (5, [.ref (ad_430 (35 + 4 * j)), .ref (ad_430 (36 + 4 * j)), .ref (ad_430 (37 + 4 * j)), .int 0, .int 0, .int 0, .long 0, .long 0, .long 0, .long 0]) := fun j hj => by rw [hen_435, va_up_ne _ _ (fne2 34 4 13 (by decide))]; exact hv_431 j hj
  have hva_435 : ∀ j, j < 9 → en_435 (35 + 4 * j) = .inl (cy 0, 8, .inl (fun _ => 0)) := fun j hj => by rw [hen_435, va_up_ne _ _ (fne2 35 4 13 (by decide))]; exact hva_432 j hj
  have hvb_435 : ∀ j, j < 9 → en_435 (36 + 4 * j) = .inl (cy 0, 8, .inl (fun _ => 0)) := fun j hj => by rw [hen_435, va_up_ne _ _ (fne2 36 4 13 (by decide))]; exact hvb_433 j hj
  have hvc_435 : ∀ j, j < 9 → en_435 (37 + 4 * j) = .inl (cy 0, 8, .inl (fun _ => 0)) := fun j hj => by rw [hen_435, va_up_ne _ _ (fne2 37 4 13 (by decide))]; exact hvc_434 j hj
  have e13_435 : en_435 13 = .inl (cy 4, 9, .inr (.inr (.inr (.inr (va_up (va_up (va_up (va_up (va_up (va_up (va_up (va_up (va_up (fun _ => none) (0 : Int32).toNatClampNeg (some q_373)) (1 : Int32).toNatClampNeg (some q_380)) (2 : Int32).toNatClampNeg (some q_387)) (3 : Int32).toNatClampNeg (some q_394)) (4 : Int32).toNatClampNeg (some q_401)) (5 : Int32).toNatClampNeg (some q_408)) (6 : Int32).toNatClampNeg (some q_415)) (7 : Int32).toNatClampNeg (some q_422)) (8 : Int32).toNatClampNeg (some q_429)))))) := by rw [hen_435]; exact va_up_self _ _ _
  clear et_430 e13_430 e14_430 e24_430 e33_430 hwy_430 hpf_430 hv_431 hva_432 hvb_433 hvc_434 ew66_435
  refine lv_iinc (v := 9) (lv' := [(2, .int 9), (0, .ref (ad 12)), (1, .ref (ad 1))]) hx hb dX2_init_71 hl (k := 0) rfl (by decide) (by decide) rfl (fun ls hl => ?_)
  refine lv_goto (tgt := 52) hx hb dX2_init_74 (by decide) ?_
  refine lv_iload_n hx hb dX2_init_52 rfl (lv_at hl 0 rfl) ?_
  refine lv_bipush (v := 8) hx hb dX2_init_53 (by decide) ?_
  refine lv_icmp_gt (tgt := 77) hx hb dX2_init_55 (by decide) (fun _ => ?_) (fun c_0 => absurd c_0 (by decide))
  have hh := hp_refs (g := (rfA ad_430 9 15)) hh e14_435 (fun j hj => by have hj9 : 15 + j < 24 := (Nat.add_lt_add_left hj 15); show (if j < 9 then some (r_366 j) else none) = rfA ad_430 9 15 j; unfold rfA; rw [if_pos hj, if_pos hj, hda_430 _ (Nat.lt_of_lt_of_le hj9 (by decide)), had_429, va_up_ne _ _ (Nat.ne_of_lt (Nat.lt_of_lt_of_le hj9 (by decide))), hda_423 _ (Nat.lt_of_lt_of_le hj9 (by decide)), had_422, va_up_ne _ _ (Nat.ne_of_lt (Nat.lt_of_lt_of_le hj9 (by decide))), hda_416 _ (Nat.lt_of_lt_of_le hj9 (by decide)), had_415, va_up_ne _ _ (Nat.ne_of_lt (Nat.lt_of_lt_of_le hj9 (by decide))), hda_409 _ (Nat.lt_of_lt_of_le hj9 (by decide)), had_408, va_up_ne _ _ (Nat.ne_of_lt (Nat.lt_of_lt_of_le hj9 (by decide))), hda_402 _ (Nat.lt_of_lt_of_le hj9 (by decide)), had_401, va_up_ne _ _ (Nat.ne_of_lt (Nat.lt_of_lt_of_le hj9 (by decide))), hda_395 _ (Nat.lt_of_lt_of_le hj9 (by decide)), had_394, va_up_ne _ _ (Nat.ne_of_lt (Nat.lt_of_lt_of_le hj9 (by decide))), hda_388 _ (Nat.lt_of_lt_of_le hj9 (by decide)), had_387, va_up_ne _ _ (Nat.ne_of_lt (Nat.lt_of_lt_of_le hj9 (by decide))), hda_381 _ (Nat.lt_of_lt_of_le hj9 (by decide)), had_380, va_up_ne _ _ (Nat.ne_of_lt (Nat.lt_of_lt_of_le hj9 (by decide))), hda_374 _ (Nat.lt_of_lt_of_le hj9 (by decide)), had_373, va_up_ne _ _ (Nat.ne_of_lt (Nat.lt_of_lt_of_le hj9 (by decide))), had_370, va_up_ne _ _ (Nat.ne_of_lt (Nat.lt_of_lt_of_le hj9 (by decide))), had_368, mAd_lt (Nat.lt_of_lt_of_le hj9 (by decide)), hr14_366 j hj])
  obtain ⟨en_436, hen_436⟩ : ∃ z, z = va_up en_435 14 (.inl (cy 7, 9, .inr (.inr (.inr (.inr (rfA ad_430 9 15)))))) := ⟨_, rfl⟩
  rw [← hen_436] at hh
  have et_436 : en_436 12 = .inr (2, [.ref (ad 1), .ref q_364, .ref q_366, .ref q_368, .ref q_370, .int 0]) := by rw [hen_436, va_up_ne _ _ (by decide)]; exact et_435
  have e13_436 : en_436 13 = .inl (cy 4, 9, .inr (.inr (.inr (.inr (va_up (va_up (va_up (va_up (va_up (va_up (va_up (va_up (va_up (fun _ => none) (0 : Int32).toNatClampNeg (some q_373)) (1 : Int32).toNatClampNeg (some q_380)) (2 : Int32).toNatClampNeg (some q_387)) (3 : Int32).toNatClampNeg (some q_394)) (4 : Int32).toNatClampNeg (some q_401)) (5 : Int32).toNatClampNeg (some q_408)) (6 : Int32).toNatClampNeg (some q_415)) (7 : Int32).toNatClampNeg (some q_422)) (8 : Int32).toNatClampNeg (some q_429)))))) := by rw [hen_436, va_up_ne _ _ (by decide)]; exact e13_435
  have e24_436 : en_436 24 = .inl (cy 8, 8, .inr (.inr (.inr (.inr (fun i => if i < 8 then some (r_368 i) else none))))) := by rw [hen_436, va_up_ne _ _ (by decide)]; exact e24_435
  have e33_436 : en_436 33 = .inl (cy 0, 8, .inl (fun _ => 0)) := by rw [hen_436, va_up_ne _ _ (by decide)]; exact e33_435
  have hwy_436 : ∀ j, j < 9 → en_436 (15 + j) = .inl (cy 0, 6, .inl (fun _ => 0)) := fun j hj => by rw [hen_436, va_up_ne _ _ (by omega)]; exact hwy_435 j hj
  have hpf_436 : ∀ j, j < 8 → en_436 (25 + j) = .inl (cy 1, 9, .inr (.inl (fun _ => 0))) := fun j hj => by rw [hen_436, va_up_ne _ _ (by omega)]; exact hpf_435 j hj
  have hv_436 : ∀ j, j < 9 → en_436 (34 + 4 * j) = .inr (5, [.ref (ad_430 (35 + 4 * j)), .ref (ad_430 (36 + 4 * j)), .ref (ad_430 (37 + 4 * j)), .int 0, .int 0, .int 0, .long 0, .long 0, .long 0, .long 0]) := fun j hj => by rw [hen_436, va_up_ne _ _ (fne2 34 4 14 (by decide))]; exact hv_435 j hj
  have hva_436 : ∀ j, j < 9 → en_436 (35 + 4 * j) = .inl (cy 0, 8, .inl (fun _ => 0)) := fun j hj => by rw [hen_436, va_up_ne _ _ (fne2 35 4 14 (by decide))]; exact hva_435 j hj
  have hvb_436 : ∀ j, j < 9 → en_436 (36 + 4 * j) = .inl (cy 0, 8, .inl (fun _ => 0)) := fun j hj => by rw [hen_436, va_up_ne _ _ (fne2 36 4 14 (by decide))]; exact hvb_435 j hj
  have hvc_436 : ∀ j, j < 9 → en_436 (37 + 4 * j) = .inl (cy 0, 8, .inl (fun _ => 0)) := fun j hj => by rw [hen_436, va_up_ne _ _ (fne2 37 4 14 (by decide))]; exact hvc_435 j hj
  have e14_436 : en_436 14 = .inl (cy 7, 9, .inr (.inr (.inr (.inr (rfA ad_430 9 15))))) := by rw [hen_436]; exact va_up_self _ _ _
  have hh := hp_refs (g := (rfA ad_430 8 25)) hh e24_436 (fun j hj => by have hj9 : 25 + j < 33 := (Nat.add_lt_add_left hj 25); show (if j < 8 then some (r_368 j) else none) = rfA ad_430 8 25 j; unfold rfA; rw [if_pos hj, if_pos hj, hda_430 _ (Nat.lt_of_lt_of_le hj9 (by decide)), had_429, va_up_ne _ _ (Nat.ne_of_lt (Nat.lt_of_lt_of_le hj9 (by decide))), hda_423 _ (Nat.lt_of_lt_of_le hj9 (by decide)), had_422, va_up_ne _ _ (Nat.ne_of_lt (Nat.lt_of_lt_of_le hj9 (by decide))), hda_416 _ (Nat.lt_of_lt_of_le hj9 (by decide)), had_415, va_up_ne _ _ (Nat.ne_of_lt (Nat.lt_of_lt_of_le hj9 (by decide))), hda_409 _ (Nat.lt_of_lt_of_le hj9 (by decide)), had_408, va_up_ne _ _ (Nat.ne_of_lt (Nat.lt_of_lt_of_le hj9 (by decide))), hda_402 _ (Nat.lt_of_lt_of_le hj9 (by decide)), had_401, va_up_ne _ _ (Nat.ne_of_lt (Nat.lt_of_lt_of_le hj9 (by decide))), hda_395 _ (Nat.lt_of_lt_of_le hj9 (by decide)), had_394, va_up_ne _ _ (Nat.ne_of_lt (Nat.lt_of_lt_of_le hj9 (by decide))), hda_388 _ (Nat.lt_of_lt_of_le hj9 (by decide)), had_387, va_up_ne _ _ (Nat.ne_of_lt (Nat.lt_of_lt_of_le hj9 (by decide))), hda_381 _ (Nat.lt_of_lt_of_le hj9 (by decide)), had_380, va_up_ne _ _ (Nat.ne_of_lt (Nat.lt_of_lt_of_le hj9 (by decide))), hda_374 _ (Nat.lt_of_lt_of_le hj9 (by decide)), had_373, va_up_ne _ _ (Nat.ne_of_lt (Nat.lt_of_lt_of_le hj9 (by decide))), had_370, va_up_ne _ _ (Nat.ne_of_lt (Nat.lt_of_lt_of_le hj9 (by decide))), hr24_368 j hj])
  obtain ⟨en_437, hen_437⟩ : ∃ z, z = va_up en_436 24 (.inl (cy 8, 8, .inr (.inr (.inr (.inr (rfA ad_430 8 25)))))) := ⟨_, rfl⟩
  rw [← hen_437] at hh
  have et_437 : en_437 12 = .inr (2, [.ref (ad 1), .ref q_364, .ref q_366, .ref q_368, .ref q_370, .int 0]) := by rw [hen_437, va_up_ne _ _ (by decide)]; exact et_436
  have e13_437 : en_437 13 = .inl (cy 4, 9, .inr (.inr (.inr (.inr (va_up (va_up (va_up (va_up (va_up (va_up (va_up (va_up (va_up (fun _ => none) (0 : Int32).toNatClampNeg (some q_373)) (1 : Int32).toNatClampNeg (some q_380)) (2 : Int32).toNatClampNeg (some q_387)) (3 : Int32).toNatClampNeg (some q_394)) (4 : Int32).toNatClampNeg (some q_401)) (5 : Int32).toNatClampNeg (some q_408)) (6 : Int32).toNatClampNeg (some q_415)) (7 : Int32).toNatClampNeg (some q_422)) (8 : Int32).toNatClampNeg (some q_429)))))) := by rw [hen_437, va_up_ne _ _ (by decide)]; exact e13_436
  have e14_437 : en_437 14 = .inl (cy 7, 9, .inr (.inr (.inr (.inr (rfA ad_430 9 15))))) := by rw [hen_437, va_up_ne _ _ (by decide)]; exact e14_436
  have e33_437 : en_437 33 = .inl (cy 0, 8, .inl (fun _ => 0)) := by rw [hen_437, va_up_ne _ _ (by decide)]; exact e33_436
  have hwy_437 : ∀ j, j < 9 → en_437 (15 + j) = .inl (cy 0, 6, .inl (fun _ => 0)) := fun j hj => by rw [hen_437, va_up_ne _ _ (by omega)]; exact hwy_436 j hj
  have hpf_437 : ∀ j, j < 8 → en_437 (25 + j) = .inl (cy 1, 9, .inr (.inl (fun _ => 0))) := fun j hj => by rw [hen_437, va_up_ne _ _ (by omega)]; exact hpf_436 j hj
  have hv_437 : ∀ j, j < 9 → en_437 (34 + 4 * j) = .inr (5, [.ref (ad_430 (35 + 4 * j)), .ref (ad_430 (36 + 4 * j)), .ref (ad_430 (37 + 4 * j)), .int 0, .int 0, .int 0, .long 0, .long 0, .long 0, .long 0]) := fun j hj => by rw [hen_437, va_up_ne _ _ (fne2 34 4 24 (by decide))]; exact hv_436 j hj
  have hva_437 : ∀ j, j < 9 → en_437 (35 + 4 * j) = .inl (cy 0, 8, .inl (fun _ => 0)) := fun j hj => by rw [hen_437, va_up_ne _ _ (fne2 35 4 24 (by decide))]; exact hva_436 j hj
  have hvb_437 : ∀ j, j < 9 → en_437 (36 + 4 * j) = .inl (cy 0, 8, .inl (fun _ => 0)) := fun j hj => by rw [hen_437, va_up_ne _ _ (fne2 36 4 24 (by decide))]; exact hvb_436 j hj
  have hvc_437 : ∀ j, j < 9 → en_437 (37 + 4 * j) = .inl (cy 0, 8, .inl (fun _ => 0)) := fun j hj => by rw [hen_437, va_up_ne _ _ (fne2 37 4 24 (by decide))]; exact hvc_436 j hj
  have e24_437 : en_437 24 = .inl (cy 8, 8, .inr (.inr (.inr (.inr (rfA ad_430 8 25))))) := by rw [hen_437]; exact va_up_self _ _ _
  have hfg_438 : ∀ j, j < 9 → ((va_up (va_up (va_up (va_up (va_up (va_up (va_up (va_up (va_up (fun _ => none) (0 : Int32).toNatClampNeg (some q_373)) (1 : Int32).toNatClampNeg (some q_380)) (2 : Int32).toNatClampNeg (some q_387)) (3 : Int32).toNatClampNeg (some q_394)) (4 : Int32).toNatClampNeg (some q_401)) (5 : Int32).toNatClampNeg (some q_408)) (6 : Int32).toNatClampNeg (some q_415)) (7 : Int32).toNatClampNeg (some q_422)) (8 : Int32).toNatClampNeg (some q_429)) : Nat → Option Nat) j = (rfB ad_430 9 34 4) j := by
    intro j hj
    unfold rfB
    rw [if_pos hj]
    rcases (show j = 0 ∨ j = 1 ∨ j = 2 ∨ j = 3 ∨ j = 4 ∨ j = 5 ∨ j = 6 ∨ j = 7 ∨ j = 8 by omega) with rfl | rfl | rfl | rfl | rfl | rfl | rfl | rfl | rfl
    · exact (congrArg some hew34a_430).symm
    · exact (congrArg some hew38a_430).symm
    · exact (congrArg some hew42a_430).symm
    · exact (congrArg some hew46a_430).symm
    · exact (congrArg some hew50a_430).symm
    · exact (congrArg some hew54a_430).symm
    · exact (congrArg some hew58a_430).symm
    · exact (congrArg some hew62a_430).symm
    · exact (congrArg some he66a_430).symm
  have hh := hp_refs (g := (rfB ad_430 9 34 4)) hh e13_437 (hfg_438)
  obtain ⟨en_439, hen_439⟩ : ∃ z, z = va_up en_437 13 (.inl (cy 4, 9, .inr (.inr (.inr (.inr (rfB ad_430 9 34 4)))))) := ⟨_, rfl⟩
  rw [← hen_439] at hh
  have et_439 : en_439 12 = .inr (2, [.ref (ad 1), .ref q_364, .ref q_366, .ref q_368, .ref q_370, .int 0]) := by rw [hen_439, va_up_ne _ _ (by decide)]; exact et_437
  have e14_439 : en_439 14 = .inl (cy 7, 9, .inr (.inr (.inr (.inr (rfA ad_430 9 15))))) := by rw [hen_439, va_up_ne _ _ (by decide)]; exact e14_437
  have e24_439 : en_439 24 = .inl (cy 8, 8, .inr (.inr (.inr (.inr (rfA ad_430 8 25))))) := by rw [hen_439, va_up_ne _ _ (by decide)]; exact e24_437
  have e33_439 : en_439 33 = .inl (cy 0, 8, .inl (fun _ => 0)) := by rw [hen_439, va_up_ne _ _ (by decide)]; exact e33_437
  have hwy_439 : ∀ j, j < 9 → en_439 (15 + j) = .inl (cy 0, 6, .inl (fun _ => 0)) := fun j hj => by rw [hen_439, va_up_ne _ _ (by omega)]; exact hwy_437 j hj
  have hpf_439 : ∀ j, j < 8 → en_439 (25 + j) = .inl (cy 1, 9, .inr (.inl (fun _ => 0))) := fun j hj => by rw [hen_439, va_up_ne _ _ (by omega)]; exact hpf_437 j hj
  have hv_439 : ∀ j, j < 9 → en_439 (34 + 4 * j) = .inr (5, [.ref (ad_430 (35 + 4 * j)), .ref (ad_430 (36 + 4 * j)), .ref (ad_430 (37 + 4 * j)), .int 0, .int 0, .int 0, .long 0, .long 0, .long 0, .long 0]) := fun j hj => by rw [hen_439, va_up_ne _ _ (fne2 34 4 13 (by decide))]; exact hv_437 j hj
  have hva_439 : ∀ j, j < 9 → en_439 (35 + 4 * j) = .inl (cy 0, 8, .inl (fun _ => 0)) := fun j hj => by rw [hen_439, va_up_ne _ _ (fne2 35 4 13 (by decide))]; exact hva_437 j hj
  have hvb_439 : ∀ j, j < 9 → en_439 (36 + 4 * j) = .inl (cy 0, 8, .inl (fun _ => 0)) := fun j hj => by rw [hen_439, va_up_ne _ _ (fne2 36 4 13 (by decide))]; exact hvb_437 j hj
  have hvc_439 : ∀ j, j < 9 → en_439 (37 + 4 * j) = .inl (cy 0, 8, .inl (fun _ => 0)) := fun j hj => by rw [hen_439, va_up_ne _ _ (fne2 37 4 13 (by decide))]; exact hvc_437 j hj
  have e13_439 : en_439 13 = .inl (cy 4, 9, .inr (.inr (.inr (.inr (rfB ad_430 9 34 4))))) := by rw [hen_439]; exact va_up_self _ _ _
  exact hq_vret hx hb hr hlocks hh (⟨(fun i hi => by dsimp only; rw [hda_430 _ (Nat.lt_of_lt_of_le hi (by decide)), had_429, va_up_ne _ _ (Nat.ne_of_lt (Nat.lt_of_lt_of_le hi (by decide))), hda_423 _ (Nat.lt_of_lt_of_le hi (by decide)), had_422, va_up_ne _ _ (Nat.ne_of_lt (Nat.lt_of_lt_of_le hi (by decide))), hda_416 _ (Nat.lt_of_lt_of_le hi (by decide)), had_415, va_up_ne _ _ (Nat.ne_of_lt (Nat.lt_of_lt_of_le hi (by decide))), hda_409 _ (Nat.lt_of_lt_of_le hi (by decide)), had_408, va_up_ne _ _ (Nat.ne_of_lt (Nat.lt_of_lt_of_le hi (by decide))), hda_402 _ (Nat.lt_of_lt_of_le hi (by decide)), had_401, va_up_ne _ _ (Nat.ne_of_lt (Nat.lt_of_lt_of_le hi (by decide))), hda_395 _ (Nat.lt_of_lt_of_le hi (by decide)), had_394, va_up_ne _ _ (Nat.ne_of_lt (Nat.lt_of_lt_of_le hi (by decide))), hda_388 _ (Nat.lt_of_lt_of_le hi (by decide)), had_387, va_up_ne _ _ (Nat.ne_of_lt (Nat.lt_of_lt_of_le hi (by decide))), hda_381 _ (Nat.lt_of_lt_of_le hi (by decide)), had_380, va_up_ne _ _ (Nat.ne_of_lt (Nat.lt_of_lt_of_le hi (by decide))), hda_374 _ (Nat.lt_of_lt_of_le hi (by decide)), had_373, va_up_ne _ _ (Nat.ne_of_lt (Nat.lt_of_lt_of_le hi (by decide))), had_370, va_up_ne _ _ (Nat.ne_of_lt (Nat.lt_of_lt_of_le hi (by decide))), had_368, mAd_lt (Nat.lt_of_lt_of_le hi (by decide)), had_366, mAd_lt (Nat.lt_of_lt_of_le hi (by decide)), had_364, va_up_ne _ _ (Nat.ne_of_lt (Nat.lt_of_lt_of_le hi (by decide)))]), (fun i hi hne => by dsimp only; rw [hen_439, va_up_ne _ _ (Nat.ne_of_lt (Nat.lt_of_lt_of_le hi (by decide))), hen_437, va_up_ne _ _ (Nat.ne_of_lt (Nat.lt_of_lt_of_le hi (by decide))), hen_436, va_up_ne _ _ (Nat.ne_of_lt (Nat.lt_of_lt_of_le hi (by decide))), hen_435, va_up_ne _ _ (Nat.ne_of_lt (Nat.lt_of_lt_of_le hi (by decide))), hue_430 _ (Nat.lt_of_lt_of_le hi (by decide)) (Nat.ne_of_lt (Nat.lt_of_lt_of_le hi (by decide))), hen_429, va_up_ne _ _ (Nat.ne_of_lt (Nat.lt_of_lt_of_le hi (by decide))), hen_428, va_up_ne _ _ (Nat.ne_of_lt (Nat.lt_of_lt_of_le hi (by decide))), hue_423 _ (Nat.lt_of_lt_of_le hi (by decide)) (Nat.ne_of_lt (Nat.lt_of_lt_of_le hi (by decide))), hen_422, va_up_ne _ _ (Nat.ne_of_lt (Nat.lt_of_lt_of_le hi (by decide))), hen_421, va_up_ne _ _ (Nat.ne_of_lt (Nat.lt_of_lt_of_le hi (by decide))), hue_416 _ (Nat.lt_of_lt_of_le hi (by decide)) (Nat.ne_of_lt (Nat.lt_of_lt_of_le hi (by decide))), hen_415, va_up_ne _ _ (Nat.ne_of_lt (Nat.lt_of_lt_of_le hi (by decide))), hen_414, va_up_ne _ _ (Nat.ne_of_lt (Nat.lt_of_lt_of_le hi (by decide))), hue_409 _ (Nat.lt_of_lt_of_le hi (by decide)) (Nat.ne_of_lt (Nat.lt_of_lt_of_le hi (by decide))), hen_408, va_up_ne _ _ (Nat.ne_of_lt (Nat.lt_of_lt_of_le hi (by decide))), hen_407, va_up_ne _ _ (Nat.ne_of_lt (Nat.lt_of_lt_of_le hi (by decide))), hue_402 _ (Nat.lt_of_lt_of_le hi (by decide)) (Nat.ne_of_lt (Nat.lt_of_lt_of_le hi (by decide))), hen_401, va_up_ne _ _ (Nat.ne_of_lt (Nat.lt_of_lt_of_le hi (by decide))), hen_400, va_up_ne _ _ (Nat.ne_of_lt (Nat.lt_of_lt_of_le hi (by decide))), hue_395 _ (Nat.lt_of_lt_of_le hi (by decide)) (Nat.ne_of_lt (Nat.lt_of_lt_of_le hi (by decide))), hen_394, va_up_ne _ _ (Nat.ne_of_lt (Nat.lt_of_lt_of_le hi (by decide))), hen_393, va_up_ne _ _ (Nat.ne_of_lt (Nat.lt_of_lt_of_le hi (by decide))), hue_388 _ (Nat.lt_of_lt_of_le hi (by decide)) (Nat.ne_of_lt (Nat.lt_of_lt_of_le hi (by decide))), hen_387, va_up_ne _ _ (Nat.ne_of_lt (Nat.lt_of_lt_of_le hi (by decide))), hen_386, va_up_ne _ _ (Nat.ne_of_lt (Nat.lt_of_lt_of_le hi (by decide))), hue_381 _ (Nat.lt_of_lt_of_le hi (by decide)) (Nat.ne_of_lt (Nat.lt_of_lt_of_le hi (by decide))), hen_380, va_up_ne _ _ (Nat.ne_of_lt (Nat.lt_of_lt_of_le hi (by decide))), hen_379, va_up_ne _ _ (Nat.ne_of_lt (Nat.lt_of_lt_of_le hi (by decide))), hue_374 _ (Nat.lt_of_lt_of_le hi (by decide)) (Nat.ne_of_lt (Nat.lt_of_lt_of_le hi (by decide))), hen_373, va_up_ne _ _ (Nat.ne_of_lt (Nat.lt_of_lt_of_le hi (by decide))), hen_372, va_up_ne _ _ hne, hen_371, va_up_ne _ _ hne, hen_370, va_up_ne _ _ (Nat.ne_of_lt (Nat.lt_of_lt_of_le hi (by decide))), hen_369, va_up_ne _ _ hne, hen_368, mEn_lt (Nat.lt_of_lt_of_le hi (by decide)), hen_367, va_up_ne _ _ hne, hen_366, mEn_lt (Nat.lt_of_lt_of_le hi (by decide)), hen_365, va_up_ne _ _ hne, hen_364, va_up_ne _ _ (Nat.ne_of_lt (Nat.lt_of_lt_of_le hi (by decide)))]), (by dsimp only; rw [hex1a_430, he13a_430, he14a_430, he24a_430, he33a_430]; exact et_439), e13_439, e14_439, hwy_439, e24_439, hpf_439, e33_439, hv_439, hva_439, hvb_439, hvc_439⟩) dX2_init_77
theorem kw_X2_init {R : Room} {s : State} {args : Array Value} {own : String} {idx : Nat} (hts : ∀ w ∈ TB, w.before args s = true) (hl : Cond.methodLink own idx yX2_init ∈ TB) (hR : 3 + 1 ≤ R.frames ∧ 8 + (3 + 11) + 40 * 3 ≤ R.locals) : CallB R s args own idx yX2_init cX2_init 3 none (Cond.code yX2_init cX2_init 3 none :: TB) (rmC 3 57 466) 57 466 1 ∧ yX2_init.name = "<init>" ∧ (Cond.instanceMethod yX2_init).before args s = true := cwI 1 hts (TB_W tw_67) rfl rfl rfl (hts _ tw_3) (hts _ hl) (hts _ tw_66) rfl (by decide +kernel) hR
