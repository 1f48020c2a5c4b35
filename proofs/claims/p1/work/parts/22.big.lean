set_option maxHeartbeats 8000000 in
set_option maxRecDepth 100000 in
/-- Closure(tables) -/
theorem c_X0_init (l : Launch) (D : va_G) (cy : Nat → ClassId) (sz : Nat) (ad : Nat → Nat) (en : Nat → va_E)  (et : en 70 = .inr (0, [.null, .null, .null, .null, .null, .null, .null, .int 0, .int 0, .int 0, .int 0, .int 0, .int 0])) : Met l yX0_init (Cond.code yX0_init cX0_init 2 none :: TB) (rmC 1 3 27) (va_Pc [.ref (ad 70), .ref (ad 1)] (PreC D cy 71 ad en sz)) (va_Qv (S := (Nat → Nat) × (Nat → va_E)) (fun u => (∀ i, i < 71 → u.1 i = ad i) ∧ (∀ i, i < 71 → i ≠ 70 → u.2 i = en i) ∧ u.2 70 = .inr (0, [.ref (u.1 1), .ref (u.1 71), .ref (u.1 72), .ref (u.1 73), .null, .null, .null, .int 0, .int 0, .int 0, .int 0, .int 0, .int 0])) (PostC D 74 (Af (List.range 71) ad sz)) (Af (List.range 71) ad sz)) 3 27 (Af (List.range 71) ad sz) := by
  refine Met.ofW (cc := cX0_init) (maxL := 2) (ret := none) (by decide) rfl ?_
  intro p e s m args below meth c s₁ B hml hv
  obtain ⟨rfl, ⟨hsz, hP, hK, hD0⟩, hX⟩ := hv
  have hx := B.exec
  have hb := B.bytes
  have hr := B.returns
  have hts : ∀ w ∈ TB, w.before _ s = true := fun w h => atoms_spec (ws := _ :: TB) B.pre w (List.mem_cons_of_mem _ h)
  have hown : s.vm.findClass RX0 = some m.cls := findClass_of_methodNamed B.named
  have hlocks := B.notSynchronized
  have hin : meth.name = "<init>" := (name_of_methodNamed B.named B.method).1
  have hh : Hp D (Af (List.range 71) ad sz) (Af (List.range 71) ad sz) s.heap s.heap [] (List.range 71) ad en := ⟨hP, Af_self hD0, va_S.rf⟩
  have hA : ∀ q : Nat, s.heap.size ≤ q → (Af (List.range 71) ad sz) q := fun q h => Or.inr (by rw [hsz] at h; exact h)
  generalize (Af (List.range 71) ad sz) = A at hh hA ⊢
  have hl := lv_entry ([.ref (ad 70), .ref (ad 1)]) (n := 2) (Nat.le_of_ble_eq_true rfl)
  rw [lg_entry_eq]
  generalize (lg_sl ([.ref (ad 70), .ref (ad 1)]) ++ List.replicate (2 - (lg_sl ([.ref (ad 70), .ref (ad 1)])).length) Slot.unset).toArray = ls at hl ⊢
  have hl : lv_has ls 2 [(0, .ref (ad 70)), (1, .ref (ad 1))] := hl
  refine lv_aload_n hx hb dX0_init_0 rfl (lv_at hl 0 rfl) ?_
  refine W.objInit hx hb hown (hts _ tw_146) (hts _ tw_23) (hts _ tw_24) rfl (by rw [hml]; exact hl.1) rfl dX0_init_1 (Nat.le_of_ble_eq_true rfl) (Nat.le_of_ble_eq_true rfl) ?_
  refine W.eq (g2 := F0 m 4 ls []) rfl ?_
  refine lv_aload_n hx hb dX0_init_4 rfl (lv_at hl 0 rfl) ?_
  refine lv_bipush (v := 9) hx hb dX0_init_5 (by decide) ?_
  refine hq_newa (atype := .long) (ty := .long) hx hb (hts _ tw_61) rfl hK hh hA 1 rfl (N' := 9) (a0 := (9, .inr (.inl (fun _ => 0)))) (fun _ => rfl) (by decide) (by decide) (by decide) (Nat.le_of_ble_eq_true rfl) (Nat.le_of_ble_eq_true rfl) dX0_init_7 (fun q_279 H ad_279 en_279 had_279 hen_279 hh => ?_)
  have hh : Hp D A A s.heap H _ (List.range 72) ad_279 en_279 := hh
  have et_279 : en_279 70 = .inr (0, [.null, .null, .null, .null, .null, .null, .null, .int 0, .int 0, .int 0, .int 0, .int 0, .int 0]) := by rw [hen_279, va_up_ne _ _ (by decide)]; exact et
  have heta_279 : ad_279 70 = (ad 70) := by rw [had_279, va_up_ne _ _ (by decide)]
  have hex1a_279 : ad_279 1 = (ad 1) := by rw [had_279, va_up_ne _ _ (by decide)]
  have e71_279 : en_279 71 = .inl (cy 1, 9, .inr (.inl (fun _ => 0))) := by rw [hen_279]; exact va_up_self _ _ _
  have he71a_279 : ad_279 71 = q_279 := by rw [had_279]; exact va_up_self _ _ _
  refine W.widen (k := 1) (n := 9) (Nat.le_refl _) (Nat.le_refl _) ?_
  refine hp_putF hx hb hts ix0 tyX0 tyX0_ok nmX0 hown hK hh (q := 70) heta_279 (List.mem_range.mpr (by decide)) et_279 rfl 1 (by decide) (hts _ tw_148) (fun _ h9 => h9) rfl hin rfl (ty := (.array .long)) (by decide +kernel) rfl rfl (Nat.le_of_ble_eq_true rfl) dX0_init_9 (fun H locs en_280 hen_280 hh => ?_)
  have e71_280 : en_280 71 = .inl (cy 1, 9, .inr (.inl (fun _ => 0))) := by rw [hen_280, va_up_ne _ _ (by decide)]; exact e71_279
  have et_280 : en_280 70 = .inr (0, [.null, .ref q_279, .null, .null, .null, .null, .null, .int 0, .int 0, .int 0, .int 0, .int 0, .int 0]) := by rw [hen_280]; exact va_up_self _ _ _
  refine lv_aload_n hx hb dX0_init_12 rfl (lv_at hl 0 rfl) ?_
  refine lv_bipush (v := 9) hx hb dX0_init_13 (by decide) ?_
  refine hq_newa (atype := .long) (ty := .long) hx hb (hts _ tw_61) rfl hK hh hA 1 rfl (N' := 9) (a0 := (9, .inr (.inl (fun _ => 0)))) (fun _ => rfl) (by decide) (by decide) (by decide) (Nat.le_of_ble_eq_true rfl) (Nat.le_of_ble_eq_true rfl) dX0_init_15 (fun q_281 H ad_281 en_281 had_281 hen_281 hh => ?_)
  have hh : Hp D A A s.heap H _ (List.range 73) ad_281 en_281 := hh
  have et_281 : en_281 70 = .inr (0, [.null, .ref q_279, .null, .null, .null, .null, .null, .int 0, .int 0, .int 0, .int 0, .int 0, .int 0]) := by rw [hen_281, va_up_ne _ _ (by decide)]; exact et_280
  have heta_281 : ad_281 70 = (ad 70) := by rw [had_281, va_up_ne _ _ (by decide)]; exact heta_279
  have hex1a_281 : ad_281 1 = (ad 1) := by rw [had_281, va_up_ne _ _ (by decide)]; exact hex1a_279
  have e71_281 : en_281 71 = .inl (cy 1, 9, .inr (.inl (fun _ => 0))) := by rw [hen_281, va_up_ne _ _ (by decide)]; exact e71_280
  have he71a_281 : ad_281 71 = q_279 := by rw [had_281, va_up_ne _ _ (by decide)]; exact he71a_279
  have e72_281 : en_281 72 = .inl (cy 1, 9, .inr (.inl (fun _ => 0))) := by rw [hen_281]; exact va_up_self _ _ _
  have he72a_281 : ad_281 72 = q_281 := by rw [had_281]; exact va_up_self _ _ _
  refine W.widen (k := 2) (n := 18) (Nat.le_refl _) (Nat.le_refl _) ?_
  refine hp_putF hx hb hts ix0 tyX0 tyX0_ok nmX0 hown hK hh (q := 70) heta_281 (List.mem_range.mpr (by decide)) et_281 rfl 2 (by decide) (hts _ tw_149) (fun _ h9 => h9) rfl hin rfl (ty := (.array .long)) (by decide +kernel) rfl rfl (Nat.le_of_ble_eq_true rfl) dX0_init_17 (fun H locs en_282 hen_282 hh => ?_)
  have e71_282 : en_282 71 = .inl (cy 1, 9, .inr (.inl (fun _ => 0))) := by rw [hen_282, va_up_ne _ _ (by decide)]; exact e71_281
  have e72_282 : en_282 72 = .inl (cy 1, 9, .inr (.inl (fun _ => 0))) := by rw [hen_282, va_up_ne _ _ (by decide)]; exact e72_281
  have et_282 : en_282 70 = .inr (0, [.null, .ref q_279, .ref q_281, .null, .null, .null, .null, .int 0, .int 0, .int 0, .int 0, .int 0, .int 0]) := by rw [hen_282]; exact va_up_self _ _ _
  refine lv_aload_n hx hb dX0_init_20 rfl (lv_at hl 0 rfl) ?_
  refine lv_bipush (v := 9) hx hb dX0_init_21 (by decide) ?_
  refine hq_newa (atype := .long) (ty := .long) hx hb (hts _ tw_61) rfl hK hh hA 1 rfl (N' := 9) (a0 := (9, .inr (.inl (fun _ => 0)))) (fun _ => rfl) (by decide) (by decide) (by decide) (Nat.le_of_ble_eq_true rfl) (Nat.le_of_ble_eq_true rfl) dX0_init_23 (fun q_283 H ad_283 en_283 had_283 hen_283 hh => ?_)
  have hh : Hp D A A s.heap H _ (List.range 74) ad_283 en_283 := hh
  have et_283 : en_283 70 = .inr (0, [.null, .ref q_279, .ref q_281, .null, .null, .null, .null, .int 0, .int 0, .int 0, .int 0, .int 0, .int 0]) := by rw [hen_283, va_up_ne _ _ (by decide)]; exact et_282
  have heta_283 : ad_283 70 = (ad 70) := by rw [had_283, va_up_ne _ _ (by decide)]; exact heta_281
  have hex1a_283 : ad_283 1 = (ad 1) := by rw [had_283, va_up_ne _ _ (by decide)]; exact hex1a_281
  have e71_283 : en_283 71 = .inl (cy 1, 9, .inr (.inl (fun _ => 0))) := by rw [hen_283, va_up_ne _ _ (by decide)]; exact e71_282
  have he71a_283 : ad_283 71 = q_279 := by rw [had_283, va_up_ne _ _ (by decide)]; exact he71a_281
  have e72_283 : en_283 72 = .inl (cy 1, 9, .inr (.inl (fun _ => 0))) := by rw [hen_283, va_up_ne _ _ (by decide)]; exact e72_282
  have he72a_283 : ad_283 72 = q_281 := by rw [had_283, va_up_ne _ _ (by decide)]; exact he72a_281
  have e73_283 : en_283 73 = .inl (cy 1, 9, .inr (.inl (fun _ => 0))) := by rw [hen_283]; exact va_up_self _ _ _
  have he73a_283 : ad_283 73 = q_283 := by rw [had_283]; exact va_up_self _ _ _
  refine W.widen (k := 3) (n := 27) (Nat.le_refl _) (Nat.le_refl _) ?_
  refine hp_putF hx hb hts ix0 tyX0 tyX0_ok nmX0 hown hK hh (q := 70) heta_283 (List.mem_range.mpr (by decide)) et_283 rfl 3 (by decide) (hts _ tw_150) (fun _ h9 => h9) rfl hin rfl (ty := (.array .long)) (by decide +kernel) rfl rfl (Nat.le_of_ble_eq_true rfl) dX0_init_25 (fun H locs en_284 hen_284 hh => ?_)
  have e71_284 : en_284 71 = .inl (cy 1, 9, .inr (.inl (fun _ => 0))) := by rw [hen_284, va_up_ne _ _ (by decide)]; exact e71_283
  have e72_284 : en_284 72 = .inl (cy 1, 9, .inr (.inl (fun _ => 0))) := by rw [hen_284, va_up_ne _ _ (by decide)]; exact e72_283
  have e73_284 : en_284 73 = .inl (cy 1, 9, .inr (.inl (fun _ => 0))) := by rw [hen_284, va_up_ne _ _ (by decide)]; exact e73_283
  have et_284 : en_284 70 = .inr (0, [.null, .ref q_279, .ref q_281, .ref q_283, .null, .null, .null, .int 0, .int 0, .int 0, .int 0, .int 0, .int 0]) := by rw [hen_284]; exact va_up_self _ _ _
  refine lv_aload_n hx hb dX0_init_28 rfl (lv_at hl 0 rfl) ?_
  refine lv_iconst (v := 0) hx hb dX0_init_29 (by decide) ?_
  refine hp_put hx hb hts ix0 tyX0 tyX0_ok nmX0 hown hK hh (q := 70) heta_283 (List.mem_range.mpr (by decide)) et_284 rfl 7 (by decide) (hts _ tw_154) (fun _ h9 => h9) rfl (ty := .int) (by decide +kernel) rfl rfl (Nat.le_of_ble_eq_true rfl) dX0_init_30 (fun H locs en_285 hen_285 hh => ?_)
  have hid_285 : en_285 = en_284 := hen_285.trans (va_up_id et_284)
  rw [hid_285] at hh
  refine lv_aload_n hx hb dX0_init_33 rfl (lv_at hl 0 rfl) ?_
  refine lv_aload_n hx hb dX0_init_34 rfl (lv_at hl 1 rfl) ?_
  refine hp_putF hx hb hts ix0 tyX0 tyX0_ok nmX0 hown hK hh (q := 70) heta_283 (List.mem_range.mpr (by decide)) et_284 rfl 0 (by decide) (hts _ tw_147) (fun _ h9 => h9) rfl hin rfl (ty := (.object "AnyOrder$Tables")) (by decide +kernel) rfl rfl (Nat.le_of_ble_eq_true rfl) dX0_init_35 (fun H locs en_286 hen_286 hh => ?_)
  have e71_286 : en_286 71 = .inl (cy 1, 9, .inr (.inl (fun _ => 0))) := by rw [hen_286, va_up_ne _ _ (by decide)]; exact e71_284
  have e72_286 : en_286 72 = .inl (cy 1, 9, .inr (.inl (fun _ => 0))) := by rw [hen_286, va_up_ne _ _ (by decide)]; exact e72_284
  have e73_286 : en_286 73 = .inl (cy 1, 9, .inr (.inl (fun _ => 0))) := by rw [hen_286, va_up_ne _ _ (by decide)]; exact e73_284
  have et_286 : en_286 70 = .inr (0, [.ref (ad 1), .ref q_279, .ref q_281, .ref q_283, .null, .null, .null, .int 0, .int 0, .int 0, .int 0, .int 0, .int 0]) := by rw [hen_286]; exact va_up_self _ _ _
  exact hq_vret hx hb hr hlocks hh (⟨(fun i hi => by dsimp only; rw [had_283, va_up_ne _ _ (Nat.ne_of_lt (Nat.lt_of_lt_of_le hi (by decide))), had_281, va_up_ne _ _ (Nat.ne_of_lt (Nat.lt_of_lt_of_le hi (by decide))), had_279, va_up_ne _ _ (Nat.ne_of_lt (Nat.lt_of_lt_of_le hi (by decide)))]), (fun i hi hne => by dsimp only; rw [hen_286, va_up_ne _ _ hne, hen_284, va_up_ne _ _ hne, hen_283, va_up_ne _ _ (Nat.ne_of_lt (Nat.lt_of_lt_of_le hi (by decide))), hen_282, va_up_ne _ _ hne, hen_281, va_up_ne _ _ (Nat.ne_of_lt (Nat.lt_of_lt_of_le hi (by decide))), hen_280, va_up_ne _ _ hne, hen_279, va_up_ne _ _ (Nat.ne_of_lt (Nat.lt_of_lt_of_le hi (by decide)))]), (by dsimp only; rw [hex1a_283, he71a_283, he72a_283, he73a_283]; exact et_286)⟩) dX0_init_38
theorem kw_X0_init {R : Room} {s : State} {args : Array Value} {own : String} {idx : Nat} (hts : ∀ w ∈ TB, w.before args s = true) (hl : Cond.methodLink own idx yX0_init ∈ TB) (hR : 1 + 1 ≤ R.frames ∧ 8 + (2 + 11) + 40 * 1 ≤ R.locals) : CallB R s args own idx yX0_init cX0_init 2 none (Cond.code yX0_init cX0_init 2 none :: TB) (rmC 1 3 27) 3 27 1 ∧ yX0_init.name = "<init>" ∧ (Cond.instanceMethod yX0_init).before args s = true := cwI 1 hts (TB_W tw_145) rfl rfl rfl (hts _ tw_5) (hts _ hl) (hts _ tw_144) rfl (by decide +kernel) hR
set_option maxHeartbeats 8000000 in
set_option maxRecDepth 100000 in
/-- Tables() -/
theorem c_X8_init (l : Launch) (D : va_G) (cy : Nat → ClassId) (sz : Nat) (ad : Nat → Nat) (en : Nat → va_E)  (et : en 1 = .inr (7, [.null, .null, .null, .null, .int 0, .int 0, .int 0])) : Met l yX8_init (Cond.code yX8_init cX8_init 1 none :: TB) (rmC 1 10 111) (va_Pc [.ref (ad 1)] (PreC D cy 2 ad en sz)) (va_Qv (S := (Nat → Nat) × (Nat → va_E)) (fun u => (∀ i, i < 2 → u.1 i = ad i) ∧ (∀ i, i < 2 → i ≠ 1 → u.2 i = en i) ∧ u.2 1 = .inr (7, [.ref (u.1 2), .ref (u.1 3), .ref (u.1 10), .ref (u.1 11), .int 0, .int 2, .int 0]) ∧ ∃ f : Nat → Int32, u.2 10 = .inl (cy 2, 36, .inl f)) (PostC D 12 (Af (List.range 2) ad sz)) (Af (List.range 2) ad sz)) 10 111 (Af (List.range 2) ad sz) := by
  refine Met.ofW (cc := cX8_init) (maxL := 1) (ret := none) (by decide) rfl ?_
  intro p e s m args below meth c s₁ B hml hv
  obtain ⟨rfl, ⟨hsz, hP, hK, hD0⟩, hX⟩ := hv
  have hx := B.exec
  have hb := B.bytes
  have hr := B.returns
  have hts : ∀ w ∈ TB, w.before _ s = true := fun w h => atoms_spec (ws := _ :: TB) B.pre w (List.mem_cons_of_mem _ h)
  have hown : s.vm.findClass RX8 = some m.cls := findClass_of_methodNamed B.named
  have hlocks := B.notSynchronized
  have hin : meth.name = "<init>" := (name_of_methodNamed B.named B.method).1
  have hh : Hp D (Af (List.range 2) ad sz) (Af (List.range 2) ad sz) s.heap s.heap [] (List.range 2) ad en := ⟨hP, Af_self hD0, va_S.rf⟩
  have hA : ∀ q : Nat, s.heap.size ≤ q → (Af (List.range 2) ad sz) q := fun q h => Or.inr (by rw [hsz] at h; exact h)
  generalize (Af (List.range 2) ad sz) = A at hh hA ⊢
  have hl := lv_entry ([.ref (ad 1)]) (n := 1) (Nat.le_of_ble_eq_true rfl)
  rw [lg_entry_eq]
  generalize (lg_sl ([.ref (ad 1)]) ++ List.replicate (1 - (lg_sl ([.ref (ad 1)])).length) Slot.unset).toArray = ls at hl ⊢
  have hl : lv_has ls 1 [(0, .ref (ad 1))] := hl
  refine lv_aload_n hx hb dX8_init_0 rfl (lv_at hl 0 rfl) ?_
  refine W.objInit hx hb hown (hts _ tw_30) (hts _ tw_23) (hts _ tw_24) rfl (by rw [hml]; exact hl.1) rfl dX8_init_1 (Nat.le_of_ble_eq_true rfl) (Nat.le_of_ble_eq_true rfl) ?_
  refine W.eq (g2 := F0 m 4 ls []) rfl ?_
  refine lv_aload_n hx hb dX8_init_4 rfl (lv_at hl 0 rfl) ?_
  refine lv_bipush (v := 6) hx hb dX8_init_5 (by decide) ?_
  refine hq_newq hx hb hown (hts _ tw_31) hX.1 hK hh hA 3 rfl (N' := 6) (by decide) (by decide) (by decide) (Nat.le_of_ble_eq_true rfl) (Nat.le_of_ble_eq_true rfl) dX8_init_7 (fun q_287 H ad_287 en_287 had_287 hen_287 hh => ?_)
  have hh : Hp D A A s.heap H _ (List.range 3) ad_287 en_287 := hh
  have et_287 : en_287 1 = .inr (7, [.null, .null, .null, .null, .int 0, .int 0, .int 0]) := by rw [hen_287, va_up_ne _ _ (by decide)]; exact et
  have heta_287 : ad_287 1 = (ad 1) := by rw [had_287, va_up_ne _ _ (by decide)]
  have e2_287 : en_287 2 = .inl (cy 3, 6, .inr (.inr (.inr (.inr (fun _ => none))))) := by rw [hen_287]; exact va_up_self _ _ _
  have he2a_287 : ad_287 2 = q_287 := by rw [had_287]; exact va_up_self _ _ _
  refine W.widen (k := 1) (n := 6) (Nat.le_refl _) (Nat.le_refl _) ?_
  refine hp_putF hx hb hts ix8 tyX8 tyX8_ok nmX8 hown hK hh (q := 1) heta_287 (List.mem_range.mpr (by decide)) et_287 rfl 0 (by decide) (hts _ tw_39) (fun _ h9 => h9) rfl hin rfl (ty := (.array (.object "AnyOrder$Table"))) (by decide +kernel) rfl rfl (Nat.le_of_ble_eq_true rfl) dX8_init_10 (fun H locs en_288 hen_288 hh => ?_)
  have e2_288 : en_288 2 = .inl (cy 3, 6, .inr (.inr (.inr (.inr (fun _ => none))))) := by rw [hen_288, va_up_ne _ _ (by decide)]; exact e2_287
  have et_288 : en_288 1 = .inr (7, [.ref q_287, .null, .null, .null, .int 0, .int 0, .int 0]) := by rw [hen_288]; exact va_up_self _ _ _
  refine lv_aload_n hx hb dX8_init_13 rfl (lv_at hl 0 rfl) ?_
  refine lv_bipush (v := 6) hx hb dX8_init_14 (by decide) ?_
  refine lv_bipush (v := 9) hx hb dX8_init_16 (by decide) ?_
  refine hq_mna (ty := .long) hx hb 8 1 rfl ((hK.2 1 _ rfl).2) hown (hts _ tw_33) hX.2.2.2.2.2.1 (hts _ tw_61) hK hh hA (N' := 6) (K' := 9) (z := (9, .inr (.inl (fun _ => 0)))) (by decide) (by decide) (by decide) (by decide) (by decide) (by decide) (by decide) rfl rfl (Nat.le_of_ble_eq_true rfl) (Nat.le_of_ble_eq_true rfl) (fun c => arrV_new c 9 _) dX8_init_18 (fun q_289 r_289 H ad_289 en_289 had_289 hen_289 hh => ?_)
  have hh : Hp D A A s.heap H _ (List.range 10) ad_289 en_289 := hh
  have et_289 : en_289 1 = .inr (7, [.ref q_287, .null, .null, .null, .int 0, .int 0, .int 0]) := by rw [hen_289, mEn_lt (by decide)]; exact et_288
  have heta_289 : ad_289 1 = (ad 1) := by rw [had_289, mAd_lt (by decide)]; exact heta_287
  have e2_289 : en_289 2 = .inl (cy 3, 6, .inr (.inr (.inr (.inr (fun _ => none))))) := by rw [hen_289, mEn_lt (by decide)]; exact e2_288
  have he2a_289 : ad_289 2 = q_287 := by rw [had_289, mAd_lt (by decide)]; exact he2a_287
  have e3_289 : en_289 3 = .inl (cy 8, 6, .inr (.inr (.inr (.inr (fun i => if i < 6 then some (r_289 i) else none))))) := by rw [hen_289]; exact mEn_n
  have he3a_289 : ad_289 3 = q_289 := by rw [had_289]; exact mAd_n
  have hr3_289 : ∀ i, i < 6 → ad_289 (4 + i) = r_289 i := fun i _ => by rw [had_289]; exact mAd_r i
  have hi3_289 : ∀ i, i < 6 → en_289 (4 + i) = .inl (cy 1, 9, .inr (.inl (fun _ => 0))) := fun i _ => by rw [hen_289]; exact mEn_r i
  refine W.widen (k := 8) (n := 66) (Nat.le_refl _) (Nat.le_refl _) ?_
  refine hp_putF hx hb hts ix8 tyX8 tyX8_ok nmX8 hown hK hh (q := 1) heta_289 (List.mem_range.mpr (by decide)) et_289 rfl 1 (by decide) (hts _ tw_40) (fun _ h9 => h9) rfl hin rfl (ty := (.array (.array .long))) (by decide +kernel) rfl rfl (Nat.le_of_ble_eq_true rfl) dX8_init_22 (fun H locs en_290 hen_290 hh => ?_)
  have e2_290 : en_290 2 = .inl (cy 3, 6, .inr (.inr (.inr (.inr (fun _ => none))))) := by rw [hen_290, va_up_ne _ _ (by decide)]; exact e2_289
  have e3_290 : en_290 3 = .inl (cy 8, 6, .inr (.inr (.inr (.inr (fun i => if i < 6 then some (r_289 i) else none))))) := by rw [hen_290, va_up_ne _ _ (by decide)]; exact e3_289
  have et_290 : en_290 1 = .inr (7, [.ref q_287, .ref q_289, .null, .null, .int 0, .int 0, .int 0]) := by rw [hen_290]; exact va_up_self _ _ _
  refine lv_aload_n hx hb dX8_init_25 rfl (lv_at hl 0 rfl) ?_
  refine lv_bipush (v := 36) hx hb dX8_init_26 (by decide) ?_
  refine hq_newa (atype := .boolean) (ty := .boolean) hx hb (hts _ tw_62) rfl hK hh hA 2 rfl (N' := 36) (a0 := (36, .inl (fun _ => 0))) (fun _ => rfl) (by decide) (by decide) (by decide) (Nat.le_of_ble_eq_true rfl) (Nat.le_of_ble_eq_true rfl) dX8_init_28 (fun q_291 H ad_291 en_291 had_291 hen_291 hh => ?_)
  have hh : Hp D A A s.heap H _ (List.range 11) ad_291 en_291 := hh
  have et_291 : en_291 1 = .inr (7, [.ref q_287, .ref q_289, .null, .null, .int 0, .int 0, .int 0]) := by rw [hen_291, va_up_ne _ _ (by decide)]; exact et_290
  have heta_291 : ad_291 1 = (ad 1) := by rw [had_291, va_up_ne _ _ (by decide)]; exact heta_289
  have e2_291 : en_291 2 = .inl (cy 3, 6, .inr (.inr (.inr (.inr (fun _ => none))))) := by rw [hen_291, va_up_ne _ _ (by decide)]; exact e2_290
  have he2a_291 : ad_291 2 = q_287 := by rw [had_291, va_up_ne _ _ (by decide)]; exact he2a_289
  have e3_291 : en_291 3 = .inl (cy 8, 6, .inr (.inr (.inr (.inr (fun i => if i < 6 then some (r_289 i) else none))))) := by rw [hen_291, va_up_ne _ _ (by decide)]; exact e3_290
  have he3a_291 : ad_291 3 = q_289 := by rw [had_291, va_up_ne _ _ (by decide)]; exact he3a_289
  have e10_291 : en_291 10 = .inl (cy 2, 36, .inl (fun _ => 0)) := by rw [hen_291]; exact va_up_self _ _ _
  have he10a_291 : ad_291 10 = q_291 := by rw [had_291]; exact va_up_self _ _ _
  refine W.widen (k := 9) (n := 102) (Nat.le_refl _) (Nat.le_refl _) ?_
  refine hp_putF hx hb hts ix8 tyX8 tyX8_ok nmX8 hown hK hh (q := 1) heta_291 (List.mem_range.mpr (by decide)) et_291 rfl 2 (by decide) (hts _ tw_41) (fun _ h9 => h9) rfl hin rfl (ty := (.array .boolean)) (by decide +kernel) rfl rfl (Nat.le_of_ble_eq_true rfl) dX8_init_30 (fun H locs en_292 hen_292 hh => ?_)
  have e2_292 : en_292 2 = .inl (cy 3, 6, .inr (.inr (.inr (.inr (fun _ => none))))) := by rw [hen_292, va_up_ne _ _ (by decide)]; exact e2_291
  have e3_292 : en_292 3 = .inl (cy 8, 6, .inr (.inr (.inr (.inr (fun i => if i < 6 then some (r_289 i) else none))))) := by rw [hen_292, va_up_ne _ _ (by decide)]; exact e3_291
  have e10_292 : en_292 10 = .inl (cy 2, 36, .inl (fun _ => 0)) := by rw [hen_292, va_up_ne _ _ (by decide)]; exact e10_291
  have et_292 : en_292 1 = .inr (7, [.ref q_287, .ref q_289, .ref q_291, .null, .int 0, .int 0, .int 0]) := by rw [hen_292]; exact va_up_self _ _ _
  refine lv_aload_n hx hb dX8_init_33 rfl (lv_at hl 0 rfl) ?_
  refine lv_bipush (v := 9) hx hb dX8_init_34 (by decide) ?_
  refine hq_newa (atype := .long) (ty := .long) hx hb (hts _ tw_61) rfl hK hh hA 1 rfl (N' := 9) (a0 := (9, .inr (.inl (fun _ => 0)))) (fun _ => rfl) (by decide) (by decide) (by decide) (Nat.le_of_ble_eq_true rfl) (Nat.le_of_ble_eq_true rfl) dX8_init_36 (fun q_293 H ad_293 en_293 had_293 hen_293 hh => ?_)
  have hh : Hp D A A s.heap H _ (List.range 12) ad_293 en_293 := hh
  have et_293 : en_293 1 = .inr (7, [.ref q_287, .ref q_289, .ref q_291, .null, .int 0, .int 0, .int 0]) := by rw [hen_293, va_up_ne _ _ (by decide)]; exact et_292
  have heta_293 : ad_293 1 = (ad 1) := by rw [had_293, va_up_ne _ _ (by decide)]; exact heta_291
  have e2_293 : en_293 2 = .inl (cy 3, 6, .inr (.inr (.inr (.inr (fun _ => none))))) := by rw [hen_293, va_up_ne _ _ (by decide)]; exact e2_292
  have he2a_293 : ad_293 2 = q_287 := by rw [had_293, va_up_ne _ _ (by decide)]; exact he2a_291
  have e3_293 : en_293 3 = .inl (cy 8, 6, .inr (.inr (.inr (.inr (fun i => if i < 6 then some (r_289 i) else none))))) := by rw [hen_293, va_up_ne _ _ (by decide)]; exact e3_292
  have he3a_293 : ad_293 3 = q_289 := by rw [had_293, va_up_ne _ _ (by decide)]; exact he3a_291
  have e10_293 : en_293 10 = .inl (cy 2, 36, .inl (fun _ => 0)) := by rw [hen_293, va_up_ne _ _ (by decide)]; exact e10_292
  have he10a_293 : ad_293 10 = q_291 := by rw [had_293, va_up_ne _ _ (by decide)]; exact he10a_291
  have e11_293 : en_293 11 = .inl (cy 1, 9, .inr (.inl (fun _ => 0))) := by rw [hen_293]; exact va_up_self _ _ _
  have he11a_293 : ad_293 11 = q_293 := by rw [had_293]; exact va_up_self _ _ _
  refine W.widen (k := 10) (n := 111) (Nat.le_refl _) (Nat.le_refl _) ?_
  refine hp_putF hx hb hts ix8 tyX8 tyX8_ok nmX8 hown hK hh (q := 1) heta_293 (List.mem_range.mpr (by decide)) et_293 rfl 3 (by decide) (hts _ tw_42) (fun _ h9 => h9) rfl hin rfl (ty := (.array .long)) (by decide +kernel) rfl rfl (Nat.le_of_ble_eq_true rfl) dX8_init_38 (fun H locs en_294 hen_294 hh => ?_)
  have e2_294 : en_294 2 = .inl (cy 3, 6, .inr (.inr (.inr (.inr (fun _ => none))))) := by rw [hen_294, va_up_ne _ _ (by decide)]; exact e2_293
  have e3_294 : en_294 3 = .inl (cy 8, 6, .inr (.inr (.inr (.inr (fun i => if i < 6 then some (r_289 i) else none))))) := by rw [hen_294, va_up_ne _ _ (by decide)]; exact e3_293
  have e10_294 : en_294 10 = .inl (cy 2, 36, .inl (fun _ => 0)) := by rw [hen_294, va_up_ne _ _ (by decide)]; exact e10_293
  have e11_294 : en_294 11 = .inl (cy 1, 9, .inr (.inl (fun _ => 0))) := by rw [hen_294, va_up_ne _ _ (by decide)]; exact e11_293
  have et_294 : en_294 1 = .inr (7, [.ref q_287, .ref q_289, .ref q_291, .ref q_293, .int 0, .int 0, .int 0]) := by rw [hen_294]; exact va_up_self _ _ _
  refine lv_aload_n hx hb dX8_init_41 rfl (lv_at hl 0 rfl) ?_
  refine lv_iconst (v := 2) hx hb dX8_init_42 (by decide) ?_
  refine hp_put hx hb hts ix8 tyX8 tyX8_ok nmX8 hown hK hh (q := 1) heta_293 (List.mem_range.mpr (by decide)) et_294 rfl 5 (by decide) (hts _ tw_44) (fun _ h9 => h9) rfl (ty := .int) (by decide +kernel) rfl rfl (Nat.le_of_ble_eq_true rfl) dX8_init_43 (fun H locs en_295 hen_295 hh => ?_)
  have e2_295 : en_295 2 = .inl (cy 3, 6, .inr (.inr (.inr (.inr (fun _ => none))))) := by rw [hen_295, va_up_ne _ _ (by decide)]; exact e2_294
  have e3_295 : en_295 3 = .inl (cy 8, 6, .inr (.inr (.inr (.inr (fun i => if i < 6 then some (r_289 i) else none))))) := by rw [hen_295, va_up_ne _ _ (by decide)]; exact e3_294
  have e10_295 : en_295 10 = .inl (cy 2, 36, .inl (fun _ => 0)) := by rw [hen_295, va_up_ne _ _ (by decide)]; exact e10_294
  have e11_295 : en_295 11 = .inl (cy 1, 9, .inr (.inl (fun _ => 0))) := by rw [hen_295, va_up_ne _ _ (by decide)]; exact e11_294
  have et_295 : en_295 1 = .inr (7, [.ref q_287, .ref q_289, .ref q_291, .ref q_293, .int 0, .int 2, .int 0]) := by rw [hen_295]; exact va_up_self _ _ _
  refine lv_aload_n hx hb dX8_init_46 rfl (lv_at hl 0 rfl) ?_
  refine W.eq (g2 := F0 m 47 ls [.ref (ad_293 1)]) (by rw [heta_293]) ?_
  have ev_296 : en_295 1 = .inr (7, [.ref (ad_293 2), .ref (ad_293 3), .ref (ad_293 10), .ref (ad_293 11), .int 0, .int 2, .int 0]) := by rw [he2a_293, he3a_293, he10a_293, he11a_293]; exact et_295
  refine hp_callMv (va_runV (As := []) (rest := []) ⟨hx, hb, hml, hown, hts⟩ (c_X8_allowAll l D cy _ _ ad_293 en_295 (List.mem_range.mpr (by decide)) (List.mem_range.mpr (by decide)) 0 2 0 (fun _ => 0) ev_296 e10_295) (kw_X8_allowAll hts tw_35 ⟨by decide, by decide⟩) (preV_of hh hK (List.mem_range.mpr (by decide)) et_295 rfl) rfl rfl hl.1 rfl (lv_room (Nat.le_of_ble_eq_true rfl)) dX8_init_47 ⟨Nat.le_of_ble_eq_true rfl, Nat.le_of_ble_eq_true rfl⟩) hh hA (fun H locs en_296 hw_296 hh => ?_)
  obtain ⟨f_296, hen_296, hf_296⟩ := hw_296
  have et_296 : en_296 1 = .inr (7, [.ref q_287, .ref q_289, .ref q_291, .ref q_293, .int 0, .int 2, .int 0]) := by rw [hen_296, va_up_ne _ _ (by decide)]; exact et_295
  have e2_296 : en_296 2 = .inl (cy 3, 6, .inr (.inr (.inr (.inr (fun _ => none))))) := by rw [hen_296, va_up_ne _ _ (by decide)]; exact e2_295
  have e3_296 : en_296 3 = .inl (cy 8, 6, .inr (.inr (.inr (.inr (fun i => if i < 6 then some (r_289 i) else none))))) := by rw [hen_296, va_up_ne _ _ (by decide)]; exact e3_295
  have e11_296 : en_296 11 = .inl (cy 1, 9, .inr (.inl (fun _ => 0))) := by rw [hen_296, va_up_ne _ _ (by decide)]; exact e11_295
  have e10_296 : en_296 10 = .inl (cy 2, 36, .inl f_296) := by rw [hen_296]; exact va_up_self _ _ _
  exact hq_vret hx hb hr hlocks hh (⟨(fun i hi => by dsimp only; rw [had_293, va_up_ne _ _ (Nat.ne_of_lt (Nat.lt_of_lt_of_le hi (by decide))), had_291, va_up_ne _ _ (Nat.ne_of_lt (Nat.lt_of_lt_of_le hi (by decide))), had_289, mAd_lt (Nat.lt_of_lt_of_le hi (by decide)), had_287, va_up_ne _ _ (Nat.ne_of_lt (Nat.lt_of_lt_of_le hi (by decide)))]), (fun i hi hne => by dsimp only; rw [hen_296, va_up_ne _ _ (Nat.ne_of_lt (Nat.lt_of_lt_of_le hi (by decide))), hen_295, va_up_ne _ _ hne, hen_294, va_up_ne _ _ hne, hen_293, va_up_ne _ _ (Nat.ne_of_lt (Nat.lt_of_lt_of_le hi (by decide))), hen_292, va_up_ne _ _ hne, hen_291, va_up_ne _ _ (Nat.ne_of_lt (Nat.lt_of_lt_of_le hi (by decide))), hen_290, va_up_ne _ _ hne, hen_289, mEn_lt (Nat.lt_of_lt_of_le hi (by decide)), hen_288, va_up_ne _ _ hne, hen_287, va_up_ne _ _ (Nat.ne_of_lt (Nat.lt_of_lt_of_le hi (by decide)))]), (by dsimp only; rw [he2a_293, he3a_293, he10a_293, he11a_293]; exact et_296), ⟨_, e10_296⟩⟩) dX8_init_50
theorem kw_X8_init {R : Room} {s : State} {args : Array Value} {own : String} {idx : Nat} (hts : ∀ w ∈ TB, w.before args s = true) (hl : Cond.methodLink own idx yX8_init ∈ TB) (hR : 1 + 1 ≤ R.frames ∧ 8 + (1 + 11) + 40 * 1 ≤ R.locals) : CallB R s args own idx yX8_init cX8_init 1 none (Cond.code yX8_init cX8_init 1 none :: TB) (rmC 1 10 111) 10 111 0 ∧ yX8_init.name = "<init>" ∧ (Cond.instanceMethod yX8_init).before args s = true := cwI 0 hts (TB_W tw_29) rfl rfl rfl (hts _ tw_2) (hts _ hl) (hts _ tw_28) rfl (by decide +kernel) hR
set_option maxHeartbeats 8000000 in
set_option maxRecDepth 100000 in
/-- Lengths(tables) -/
theorem c_X2_init (l : Launch) (D : va_G) (cy : Nat → ClassId) (sz : Nat) (ad : Nat → Nat) (en : Nat → va_E)  (et : en 12 = .inr (2, [.null, .null, .null, .null, .null, .int 0])) : Met l yX2_init (Cond.code yX2_init cX2_init 3 none :: TB) (rmC 3 57 466) (va_Pc [.ref (ad 12), .ref (ad 1)] (PreC D cy 13 ad en sz)) (va_Qv (S := (Nat → Nat) × (Nat → va_E)) (fun u => (∀ i, i < 13 → u.1 i = ad i) ∧ (∀ i, i < 13 → i ≠ 12 → u.2 i = en i) ∧ u.2 12 = .inr (2, [.ref (u.1 1), .ref (u.1 13), .ref (u.1 14), .ref (u.1 24), .ref (u.1 33), .int 0]) ∧ u.2 13 = .inl (cy 4, 9, .inr (.inr (.inr (.inr (fun j => some (u.1 (34 + 4 * j))))))) ∧ u.2 14 = .inl (cy 7, 9, .inr (.inr (.inr (.inr (fun j => some (u.1 (15 + j))))))) ∧ u.2 16 = .inl (cy 0, 6, .inl (fun _ => 0)) ∧ ∀ j, j < 9 → u.2 (34 + 4 * j) = .inr (5, [.ref (u.1 (35 + 4 * j)), .ref (u.1 (36 + 4 * j)), .ref (u.1 (37 + 4 * j)), .int 0, .int 0, .int 0, .long 0, .long 0, .long 0, .long 0])) (PostC D 70 (Af (List.range 13) ad sz)) (Af (List.range 13) ad sz)) 57 466 (Af (List.range 13) ad sz) := by
  refine Met.ofW (cc := cX2_init) (maxL := 3) (ret := none) (by decide) rfl ?_
  intro p e s m args below meth c s₁ B hml hv
  obtain ⟨rfl, ⟨hsz, hP, hK, hD0⟩, hX⟩ := hv
  have hx := B.exec
  have hb := B.bytes
  have hr := B.returns
  have hts : ∀ w ∈ TB, w.before _ s = true := fun w h => atoms_spec (ws := _ :: TB) B.pre w (List.mem_cons_of_mem _ h)
  have hown : s.vm.findClass RX2 = some m.cls := findClass_of_methodNamed B.named
  have hlocks := B.notSynchronized
  have hin : meth.name = "<init>" := (name_of_methodNamed B.named B.method).1
  have hh : Hp D (Af (List.range 13) ad sz) (Af (List.range 13) ad sz) s.heap s.heap [] (List.range 13) ad en := ⟨hP, Af_self hD0, va_S.rf⟩
  have hA : ∀ q : Nat, s.heap.size ≤ q → (Af (List.range 13) ad sz) q := fun q h => Or.inr (by rw [hsz] at h; exact h)
  generalize (Af (List.range 13) ad sz) = A at hh hA ⊢
  have hl := lv_entry ([.ref (ad 12), .ref (ad 1)]) (n := 3) (Nat.le_of_ble_eq_true rfl)
  rw [lg_entry_eq]
  generalize (lg_sl ([.ref (ad 12), .ref (ad 1)]) ++ List.replicate (3 - (lg_sl ([.ref (ad 12), .ref (ad 1)])).length) Slot.unset).toArray = ls at hl ⊢
  have hl : lv_has ls 3 [(0, .ref (ad 12)), (1, .ref (ad 1))] := hl
  refine lv_aload_n hx hb dX2_init_0 rfl (lv_at hl 0 rfl) ?_
  refine W.objInit hx hb hown (hts _ tw_68) (hts _ tw_23) (hts _ tw_24) rfl (by rw [hml]; exact hl.1) rfl dX2_init_1 (Nat.le_of_ble_eq_true rfl) (Nat.le_of_ble_eq_true rfl) ?_
  refine W.eq (g2 := F0 m 4 ls []) rfl ?_
  refine lv_aload_n hx hb dX2_init_4 rfl (lv_at hl 0 rfl) ?_
  refine lv_bipush (v := 9) hx hb dX2_init_5 (by decide) ?_
  refine hq_newq hx hb hown (hts _ tw_69) hX.2.1 hK hh hA 4 rfl (N' := 9) (by decide) (by decide) (by decide) (Nat.le_of_ble_eq_true rfl) (Nat.le_of_ble_eq_true rfl) dX2_init_7 (fun q_297 H ad_297 en_297 had_297 hen_297 hh => ?_)
  have hh : Hp D A A s.heap H _ (List.range 14) ad_297 en_297 := hh
  have et_297 : en_297 12 = .inr (2, [.null, .null, .null, .null, .null, .int 0]) := by rw [hen_297, va_up_ne _ _ (by decide)]; exact et
  have heta_297 : ad_297 12 = (ad 12) := by rw [had_297, va_up_ne _ _ (by decide)]
  have hex1a_297 : ad_297 1 = (ad 1) := by rw [had_297, va_up_ne _ _ (by decide)]
  have e13_297 : en_297 13 = .inl (cy 4, 9, .inr (.inr (.inr (.inr (fun _ => none))))) := by rw [hen_297]; exact va_up_self _ _ _
  have he13a_297 : ad_297 13 = q_297 := by rw [had_297]; exact va_up_self _ _ _
  refine W.widen (k := 1) (n := 9) (Nat.le_refl _) (Nat.le_refl _) ?_
  refine hp_putF hx hb hts ix2 tyX2 tyX2_ok nmX2 hown hK hh (q := 12) heta_297 (List.mem_range.mpr (by decide)) et_297 rfl 1 (by decide) (hts _ tw_123) (fun _ h9 => h9) rfl hin rfl (ty := (.array (.object "AnyOrder$Survey"))) (by decide +kernel) rfl rfl (Nat.le_of_ble_eq_true rfl) dX2_init_10 (fun H locs en_298 hen_298 hh => ?_)
  have e13_298 : en_298 13 = .inl (cy 4, 9, .inr (.inr (.inr (.inr (fun _ => none))))) := by rw [hen_298, va_up_ne _ _ (by decide)]; exact e13_297
  have et_298 : en_298 12 = .inr (2, [.null, .ref q_297, .null, .null, .null, .int 0]) := by rw [hen_298]; exact va_up_self _ _ _
  refine lv_aload_n hx hb dX2_init_13 rfl (lv_at hl 0 rfl) ?_
  refine lv_bipush (v := 9) hx hb dX2_init_14 (by decide) ?_
  refine lv_bipush (v := 6) hx hb dX2_init_16 (by decide) ?_
  refine hq_mna (ty := .int) hx hb 7 0 rfl ((hK.2 0 _ rfl).2) hown (hts _ tw_71) hX.2.2.2.2.1 (hts _ tw_121) hK hh hA (N' := 9) (K' := 6) (z := (6, .inl (fun _ => 0))) (by decide) (by decide) (by decide) (by decide) (by decide) (by decide) (by decide) rfl rfl (Nat.le_of_ble_eq_true rfl) (Nat.le_of_ble_eq_true rfl) (fun c => arrV_new c 6 _) dX2_init_18 (fun q_299 r_299 H ad_299 en_299 had_299 hen_299 hh => ?_)
  have hh : Hp D A A s.heap H _ (List.range 24) ad_299 en_299 := hh
  have et_299 : en_299 12 = .inr (2, [.null, .ref q_297, .null, .null, .null, .int 0]) := by rw [hen_299, mEn_lt (by decide)]; exact et_298
  have heta_299 : ad_299 12 = (ad 12) := by rw [had_299, mAd_lt (by decide)]; exact heta_297
  have hex1a_299 : ad_299 1 = (ad 1) := by rw [had_299, mAd_lt (by decide)]; exact hex1a_297
  have e13_299 : en_299 13 = .inl (cy 4, 9, .inr (.inr (.inr (.inr (fun _ => none))))) := by rw [hen_299, mEn_lt (by decide)]; exact e13_298
  have he13a_299 : ad_299 13 = q_297 := by rw [had_299, mAd_lt (by decide)]; exact he13a_297
  have e14_299 : en_299 14 = .inl (cy 7, 9, .inr (.inr (.inr (.inr (fun i => if i < 9 then some (r_299 i) else none))))) := by rw [hen_299]; exact mEn_n
  have he14a_299 : ad_299 14 = q_299 := by rw [had_299]; exact mAd_n
  have hr14_299 : ∀ i, i < 9 → ad_299 (15 + i) = r_299 i := fun i _ => by rw [had_299]; exact mAd_r i
  have hi14_299 : ∀ i, i < 9 → en_299 (15 + i) = .inl (cy 0, 6, .inl (fun _ => 0)) := fun i _ => by rw [hen_299]; exact mEn_r i
  have e16_299 : en_299 16 = .inl (cy 0, 6, .inl (fun _ => 0)) := hi14_299 1 (by decide)
  have he16a_299 : ad_299 16 = r_299 1 := hr14_299 1 (by decide)
  refine W.widen (k := 11) (n := 72) (Nat.le_refl _) (Nat.le_refl _) ?_
  refine hp_putF hx hb hts ix2 tyX2 tyX2_ok nmX2 hown hK hh (q := 12) heta_299 (List.mem_range.mpr (by decide)) et_299 rfl 2 (by decide) (hts _ tw_124) (fun _ h9 => h9) rfl hin rfl (ty := (.array (.array .int))) (by decide +kernel) rfl rfl (Nat.le_of_ble_eq_true rfl) dX2_init_22 (fun H locs en_300 hen_300 hh => ?_)
  have e13_300 : en_300 13 = .inl (cy 4, 9, .inr (.inr (.inr (.inr (fun _ => none))))) := by rw [hen_300, va_up_ne _ _ (by decide)]; exact e13_299
  have e14_300 : en_300 14 = .inl (cy 7, 9, .inr (.inr (.inr (.inr (fun i => if i < 9 then some (r_299 i) else none))))) := by rw [hen_300, va_up_ne _ _ (by decide)]; exact e14_299
  have e16_300 : en_300 16 = .inl (cy 0, 6, .inl (fun _ => 0)) := by rw [hen_300, va_up_ne _ _ (by decide)]; exact e16_299
  have et_300 : en_300 12 = .inr (2, [.null, .ref q_297, .ref q_299, .null, .null, .int 0]) := by rw [hen_300]; exact va_up_self _ _ _
  refine lv_aload_n hx hb dX2_init_25 rfl (lv_at hl 0 rfl) ?_
  refine lv_bipush (v := 8) hx hb dX2_init_26 (by decide) ?_
  refine lv_bipush (v := 9) hx hb dX2_init_28 (by decide) ?_
  refine hq_mna (ty := .long) hx hb 8 1 rfl ((hK.2 1 _ rfl).2) hown (hts _ tw_73) hX.2.2.2.2.2.1 (hts _ tw_61) hK hh hA (N' := 8) (K' := 9) (z := (9, .inr (.inl (fun _ => 0)))) (by decide) (by decide) (by decide) (by decide) (by decide) (by decide) (by decide) rfl rfl (Nat.le_of_ble_eq_true rfl) (Nat.le_of_ble_eq_true rfl) (fun c => arrV_new c 9 _) dX2_init_30 (fun q_301 r_301 H ad_301 en_301 had_301 hen_301 hh => ?_)
  have hh : Hp D A A s.heap H _ (List.range 33) ad_301 en_301 := hh
  have et_301 : en_301 12 = .inr (2, [.null, .ref q_297, .ref q_299, .null, .null, .int 0]) := by rw [hen_301, mEn_lt (by decide)]; exact et_300
  have heta_301 : ad_301 12 = (ad 12) := by rw [had_301, mAd_lt (by decide)]; exact heta_299
  have hex1a_301 : ad_301 1 = (ad 1) := by rw [had_301, mAd_lt (by decide)]; exact hex1a_299
  have e13_301 : en_301 13 = .inl (cy 4, 9, .inr (.inr (.inr (.inr (fun _ => none))))) := by rw [hen_301, mEn_lt (by decide)]; exact e13_300
  have he13a_301 : ad_301 13 = q_297 := by rw [had_301, mAd_lt (by decide)]; exact he13a_299
  have e14_301 : en_301 14 = .inl (cy 7, 9, .inr (.inr (.inr (.inr (fun i => if i < 9 then some (r_299 i) else none))))) := by rw [hen_301, mEn_lt (by decide)]; exact e14_300
  have he14a_301 : ad_301 14 = q_299 := by rw [had_301, mAd_lt (by decide)]; exact he14a_299
  have e16_301 : en_301 16 = .inl (cy 0, 6, .inl (fun _ => 0)) := by rw [hen_301, mEn_lt (by decide)]; exact e16_300
  have he16a_301 : ad_301 16 = (r_299 1) := by rw [had_301, mAd_lt (by decide)]; exact he16a_299
  have e24_301 : en_301 24 = .inl (cy 8, 8, .inr (.inr (.inr (.inr (fun i => if i < 8 then some (r_301 i) else none))))) := by rw [hen_301]; exact mEn_n
  have he24a_301 : ad_301 24 = q_301 := by rw [had_301]; exact mAd_n
  have hr24_301 : ∀ i, i < 8 → ad_301 (25 + i) = r_301 i := fun i _ => by rw [had_301]; exact mAd_r i
  have hi24_301 : ∀ i, i < 8 → en_301 (25 + i) = .inl (cy 1, 9, .inr (.inl (fun _ => 0))) := fun i _ => by rw [hen_301]; exact mEn_r i
  refine W.widen (k := 20) (n := 152) (Nat.le_refl _) (Nat.le_refl _) ?_
  refine hp_putF hx hb hts ix2 tyX2 tyX2_ok nmX2 hown hK hh (q := 12) heta_301 (List.mem_range.mpr (by decide)) et_301 rfl 3 (by decide) (hts _ tw_125) (fun _ h9 => h9) rfl hin rfl (ty := (.array (.array .long))) (by decide +kernel) rfl rfl (Nat.le_of_ble_eq_true rfl) dX2_init_34 (fun H locs en_302 hen_302 hh => ?_)
  have e13_302 : en_302 13 = .inl (cy 4, 9, .inr (.inr (.inr (.inr (fun _ => none))))) := by rw [hen_302, va_up_ne _ _ (by decide)]; exact e13_301
  have e14_302 : en_302 14 = .inl (cy 7, 9, .inr (.inr (.inr (.inr (fun i => if i < 9 then some (r_299 i) else none))))) := by rw [hen_302, va_up_ne _ _ (by decide)]; exact e14_301
  have e16_302 : en_302 16 = .inl (cy 0, 6, .inl (fun _ => 0)) := by rw [hen_302, va_up_ne _ _ (by decide)]; exact e16_301
  have e24_302 : en_302 24 = .inl (cy 8, 8, .inr (.inr (.inr (.inr (fun i => if i < 8 then some (r_301 i) else none))))) := by rw [hen_302, va_up_ne _ _ (by decide)]; exact e24_301
  have et_302 : en_302 12 = .inr (2, [.null, .ref q_297, .ref q_299, .ref q_301, .null, .int 0]) := by rw [hen_302]; exact va_up_self _ _ _
  refine lv_aload_n hx hb dX2_init_37 rfl (lv_at hl 0 rfl) ?_
  refine lv_bipush (v := 8) hx hb dX2_init_38 (by decide) ?_
  refine hq_newa (atype := .int) (ty := .int) hx hb (hts _ tw_121) rfl hK hh hA 0 rfl (N' := 8) (a0 := (8, .inl (fun _ => 0))) (fun _ => rfl) (by decide) (by decide) (by decide) (Nat.le_of_ble_eq_true rfl) (Nat.le_of_ble_eq_true rfl) dX2_init_40 (fun q_303 H ad_303 en_303 had_303 hen_303 hh => ?_)
  have hh : Hp D A A s.heap H _ (List.range 34) ad_303 en_303 := hh
  have et_303 : en_303 12 = .inr (2, [.null, .ref q_297, .ref q_299, .ref q_301, .null, .int 0]) := by rw [hen_303, va_up_ne _ _ (by decide)]; exact et_302
  have heta_303 : ad_303 12 = (ad 12) := by rw [had_303, va_up_ne _ _ (by decide)]; exact heta_301
  have hex1a_303 : ad_303 1 = (ad 1) := by rw [had_303, va_up_ne _ _ (by decide)]; exact hex1a_301
  have e13_303 : en_303 13 = .inl (cy 4, 9, .inr (.inr (.inr (.inr (fun _ => none))))) := by rw [hen_303, va_up_ne _ _ (by decide)]; exact e13_302
  have he13a_303 : ad_303 13 = q_297 := by rw [had_303, va_up_ne _ _ (by decide)]; exact he13a_301
  have e14_303 : en_303 14 = .inl (cy 7, 9, .inr (.inr (.inr (.inr (fun i => if i < 9 then some (r_299 i) else none))))) := by rw [hen_303, va_up_ne _ _ (by decide)]; exact e14_302
  have he14a_303 : ad_303 14 = q_299 := by rw [had_303, va_up_ne _ _ (by decide)]; exact he14a_301
  have e16_303 : en_303 16 = .inl (cy 0, 6, .inl (fun _ => 0)) := by rw [hen_303, va_up_ne _ _ (by decide)]; exact e16_302
  have he16a_303 : ad_303 16 = (r_299 1) := by rw [had_303, va_up_ne _ _ (by decide)]; exact he16a_301
  have e24_303 : en_303 24 = .inl (cy 8, 8, .inr (.inr (.inr (.inr (fun i => if i < 8 then some (r_301 i) else none))))) := by rw [hen_303, va_up_ne _ _ (by decide)]; exact e24_302
  have he24a_303 : ad_303 24 = q_301 := by rw [had_303, va_up_ne _ _ (by decide)]; exact he24a_301
  have e33_303 : en_303 33 = .inl (cy 0, 8, .inl (fun _ => 0)) := by rw [hen_303]; exact va_up_self _ _ _
  have he33a_303 : ad_303 33 = q_303 := by rw [had_303]; exact va_up_self _ _ _
  refine W.widen (k := 21) (n := 160) (Nat.le_refl _) (Nat.le_refl _) ?_
  refine hp_putF hx hb hts ix2 tyX2 tyX2_ok nmX2 hown hK hh (q := 12) heta_303 (List.mem_range.mpr (by decide)) et_303 rfl 4 (by decide) (hts _ tw_126) (fun _ h9 => h9) rfl hin rfl (ty := (.array .int)) (by decide +kernel) rfl rfl (Nat.le_of_ble_eq_true rfl) dX2_init_42 (fun H locs en_304 hen_304 hh => ?_)
  have e13_304 : en_304 13 = .inl (cy 4, 9, .inr (.inr (.inr (.inr (fun _ => none))))) := by rw [hen_304, va_up_ne _ _ (by decide)]; exact e13_303
  have e14_304 : en_304 14 = .inl (cy 7, 9, .inr (.inr (.inr (.inr (fun i => if i < 9 then some (r_299 i) else none))))) := by rw [hen_304, va_up_ne _ _ (by decide)]; exact e14_303
  have e16_304 : en_304 16 = .inl (cy 0, 6, .inl (fun _ => 0)) := by rw [hen_304, va_up_ne _ _ (by decide)]; exact e16_303
  have e24_304 : en_304 24 = .inl (cy 8, 8, .inr (.inr (.inr (.inr (fun i => if i < 8 then some (r_301 i) else none))))) := by rw [hen_304, va_up_ne _ _ (by decide)]; exact e24_303
  have e33_304 : en_304 33 = .inl (cy 0, 8, .inl (fun _ => 0)) := by rw [hen_304, va_up_ne _ _ (by decide)]; exact e33_303
  have et_304 : en_304 12 = .inr (2, [.null, .ref q_297, .ref q_299, .ref q_301, .ref q_303, .int 0]) := by rw [hen_304]; exact va_up_self _ _ _
  refine lv_aload_n hx hb dX2_init_45 rfl (lv_at hl 0 rfl) ?_
  refine lv_aload_n hx hb dX2_init_46 rfl (lv_at hl 1 rfl) ?_
  refine hp_putF hx hb hts ix2 tyX2 tyX2_ok nmX2 hown hK hh (q := 12) heta_303 (List.mem_range.mpr (by decide)) et_304 rfl 0 (by decide) (hts _ tw_122) (fun _ h9 => h9) rfl hin rfl (ty := (.object "AnyOrder$Tables")) (by decide +kernel) rfl rfl (Nat.le_of_ble_eq_true rfl) dX2_init_47 (fun H locs en_305 hen_305 hh => ?_)
  have e13_305 : en_305 13 = .inl (cy 4, 9, .inr (.inr (.inr (.inr (fun _ => none))))) := by rw [hen_305, va_up_ne _ _ (by decide)]; exact e13_304
  have e14_305 : en_305 14 = .inl (cy 7, 9, .inr (.inr (.inr (.inr (fun i => if i < 9 then some (r_299 i) else none))))) := by rw [hen_305, va_up_ne _ _ (by decide)]; exact e14_304
  have e16_305 : en_305 16 = .inl (cy 0, 6, .inl (fun _ => 0)) := by rw [hen_305, va_up_ne _ _ (by decide)]; exact e16_304
  have e24_305 : en_305 24 = .inl (cy 8, 8, .inr (.inr (.inr (.inr (fun i => if i < 8 then some (r_301 i) else none))))) := by rw [hen_305, va_up_ne _ _ (by decide)]; exact e24_304
  have e33_305 : en_305 33 = .inl (cy 0, 8, .inl (fun _ => 0)) := by rw [hen_305, va_up_ne _ _ (by decide)]; exact e33_304
  have et_305 : en_305 12 = .inr (2, [.ref (ad 1), .ref q_297, .ref q_299, .ref q_301, .ref q_303, .int 0]) := by rw [hen_305]; exact va_up_self _ _ _
  refine lv_iconst (v := 0) hx hb dX2_init_50 (by decide) ?_
  refine lv_istore_n (lv' := [(2, .int 0), (0, .ref (ad 12)), (1, .ref (ad 1))]) hx hb dX2_init_51 rfl hl (by decide) rfl (fun ls hl => ?_)
  refine lv_iload_n hx hb dX2_init_52 rfl (lv_at hl 0 rfl) ?_
  refine lv_bipush (v := 8) hx hb dX2_init_53 (by decide) ?_
  refine lv_icmp_gt (tgt := 77) hx hb dX2_init_55 (by decide) (fun c_0 => absurd c_0 (by decide)) (fun _ => ?_)
  refine lv_aload_n hx hb dX2_init_58 rfl (lv_at hl 1 rfl) ?_
  refine hp_get hx hb hts ix2 hown hK hh (q := 12) heta_303 (List.mem_range.mpr (by decide)) et_305 rfl 1 (by decide) (hts _ tw_123) (fun _ h9 => h9) rfl dX2_init_59 ?_
  refine lv_iload_n hx hb dX2_init_62 rfl (lv_at hl 0 rfl) ?_
  refine hq_new (ci := 5) (fs := [.null, .null, .null, .int 0, .int 0, .int 0, .long 0, .long 0, .long 0, .long 0]) hx hb hts ix6 tyX6 tyX6_ok hown (hts _ tw_69) (hts _ tw_74) (hts _ tw_4) hK hh hA rfl (fun j hj => by rcases (show j = 0 ∨ j = 1 ∨ j = 2 ∨ j = 3 ∨ j = 4 ∨ j = 5 ∨ j = 6 ∨ j = 7 ∨ j = 8 ∨ j = 9 by omega) with rfl | rfl | rfl | rfl | rfl | rfl | rfl | rfl | rfl | rfl <;> rfl) (Nat.le_of_ble_eq_true rfl) (Nat.le_of_ble_eq_true rfl) dX2_init_63 (fun q_306 H ad_306 en_306 had_306 hen_306 hh => ?_)
  have hh : Hp D A A s.heap H _ (List.range 35) ad_306 en_306 := hh
  have et_306 : en_306 12 = .inr (2, [.ref (ad 1), .ref q_297, .ref q_299, .ref q_301, .ref q_303, .int 0]) := by rw [hen_306, va_up_ne _ _ (by decide)]; exact et_305
  have heta_306 : ad_306 12 = (ad 12) := by rw [had_306, va_up_ne _ _ (by decide)]; exact heta_303
  have hex1a_306 : ad_306 1 = (ad 1) := by rw [had_306, va_up_ne _ _ (by decide)]; exact hex1a_303
  have e13_306 : en_306 13 = .inl (cy 4, 9, .inr (.inr (.inr (.inr (fun _ => none))))) := by rw [hen_306, va_up_ne _ _ (by decide)]; exact e13_305
  have he13a_306 : ad_306 13 = q_297 := by rw [had_306, va_up_ne _ _ (by decide)]; exact he13a_303
  have e14_306 : en_306 14 = .inl (cy 7, 9, .inr (.inr (.inr (.inr (fun i => if i < 9 then some (r_299 i) else none))))) := by rw [hen_306, va_up_ne _ _ (by decide)]; exact e14_305
  have he14a_306 : ad_306 14 = q_299 := by rw [had_306, va_up_ne _ _ (by decide)]; exact he14a_303
  have e16_306 : en_306 16 = .inl (cy 0, 6, .inl (fun _ => 0)) := by rw [hen_306, va_up_ne _ _ (by decide)]; exact e16_305
  have he16a_306 : ad_306 16 = (r_299 1) := by rw [had_306, va_up_ne _ _ (by decide)]; exact he16a_303
  have e24_306 : en_306 24 = .inl (cy 8, 8, .inr (.inr (.inr (.inr (fun i => if i < 8 then some (r_301 i) else none))))) := by rw [hen_306, va_up_ne _ _ (by decide)]; exact e24_305
  have he24a_306 : ad_306 24 = q_301 := by rw [had_306, va_up_ne _ _ (by decide)]; exact he24a_303
  have e33_306 : en_306 33 = .inl (cy 0, 8, .inl (fun _ => 0)) := by rw [hen_306, va_up_ne _ _ (by decide)]; exact e33_305
  have he33a_306 : ad_306 33 = q_303 := by rw [had_306, va_up_ne _ _ (by decide)]; exact he33a_303
  have e34_306 : en_306 34 = .inr (5, [.null, .null, .null, .int 0, .int 0, .int 0, .long 0, .long 0, .long 0, .long 0]) := by rw [hen_306]; exact va_up_self _ _ _
  have he34a_306 : ad_306 34 = q_306 := by rw [had_306]; exact va_up_self _ _ _
  refine W.widen (k := 22) (n := 170) (Nat.le_refl _) (Nat.le_refl _) ?_
  refine lv_dup hx hb dX2_init_66 rfl ?_
  refine W.eq (g2 := F0 m 67 ls [.ref (ad_306 34), .ref q_306, .int 0, .ref q_297]) (by rw [he34a_306]) ?_
  refine hq_callC (va_runIN (As := []) (rest := [.ref q_306, .int 0, .ref q_297]) ⟨hx, hb, hml, hown, hts⟩ (c_X6_init l D cy _ ad_306 en_306 35 34 (by decide) e34_306) (kw_X6_init hts hX.2.2.2.2.2.2.1 ⟨by decide, by decide⟩) (preC_of hh hK hX) rfl rfl hl.1 rfl (lv_room (Nat.le_of_ble_eq_true rfl)) dX2_init_67 ⟨Nat.le_of_ble_eq_true rfl, Nat.le_of_ble_eq_true rfl⟩) hh hA (fun H locs ad_307 en_307 hw_307 hh => ?_)
  have hh : Hp D A A s.heap H _ (List.range 38) ad_307 en_307 := hh
  obtain ⟨hda_307, hue_307, ew_307, ewa_307, ewb_307, ewc_307⟩ := hw_307
  dsimp only at hda_307 hue_307 ew_307 ewa_307 ewb_307 ewc_307
  have et_307 : en_307 12 = .inr (2, [.ref (ad 1), .ref q_297, .ref q_299, .ref q_301, .ref q_303, .int 0]) := by rw [hue_307 _ (by decide) (by decide)]; exact et_306
  have heta_307 : ad_307 12 = (ad 12) := by rw [hda_307 _ (by decide)]; exact heta_306
  have hex1a_307 : ad_307 1 = (ad 1) := by rw [hda_307 _ (by decide)]; exact hex1a_306
  have e13_307 : en_307 13 = .inl (cy 4, 9, .inr (.inr (.inr (.inr (fun _ => none))))) := by rw [hue_307 _ (by decide) (by decide)]; exact e13_306
  have he13a_307 : ad_307 13 = q_297 := by rw [hda_307 _ (by decide)]; exact he13a_306
  have e14_307 : en_307 14 = .inl (cy 7, 9, .inr (.inr (.inr (.inr (fun i => if i < 9 then some (r_299 i) else none))))) := by rw [hue_307 _ (by decide) (by decide)]; exact e14_306
  have he14a_307 : ad_307 14 = q_299 := by rw [hda_307 _ (by decide)]; exact he14a_306
  have e16_307 : en_307 16 = .inl (cy 0, 6, .inl (fun _ => 0)) := by rw [hue_307 _ (by decide) (by decide)]; exact e16_306
  have he16a_307 : ad_307 16 = (r_299 1) := by rw [hda_307 _ (by decide)]; exact he16a_306
  have e24_307 : en_307 24 = .inl (cy 8, 8, .inr (.inr (.inr (.inr (fun i => if i < 8 then some (r_301 i) else none))))) := by rw [hue_307 _ (by decide) (by decide)]; exact e24_306
  have he24a_307 : ad_307 24 = q_301 := by rw [hda_307 _ (by decide)]; exact he24a_306
  have e33_307 : en_307 33 = .inl (cy 0, 8, .inl (fun _ => 0)) := by rw [hue_307 _ (by decide) (by decide)]; exact e33_306
  have he33a_307 : ad_307 33 = q_303 := by rw [hda_307 _ (by decide)]; exact he33a_306
  have he34a_307 : ad_307 34 = q_306 := by rw [hda_307 _ (by decide)]; exact he34a_306
  have ew34_307 := ew_307
  have hv_308 : ∀ j, j < 1 → en_307 (34 + 4 * j) = .inr (5, [.ref (ad_307 (35 + 4 * j)), .ref (ad_307 (36 + 4 * j)), .ref (ad_307 (37 + 4 * j)), .int 0, .int 0, .int 0, .long 0, .long 0, .long 0, .long 0]) := fun j hj => by have e0 : j = 0 := (by omega); subst e0; exact ew_307
  refine W.widen (k := 25) (n := 194) (Nat.le_refl _) (Nat.le_refl _) ?_
  refine hp_astq hx hb hK hh (q := 13) (v := 34) he13a_307 (List.mem_range.mpr (by decide)) he34a_307 (List.mem_range.mpr (by decide)) e13_307 ew34_307 rfl rfl (vp_in_iff.mpr (by decide)) dX2_init_70 (fun H locs en_309 hen_309 hh => ?_)
  have et_309 : en_309 12 = .inr (2, [.ref (ad 1), .ref q_297, .ref q_299, .ref q_301, .ref q_303, .int 0]) := by rw [hen_309, va_up_ne _ _ (by decide)]; exact et_307
  have e14_309 : en_309 14 = .inl (cy 7, 9, .inr (.inr (.inr (.inr (fun i => if i < 9 then some (r_299 i) else none))))) := by rw [hen_309, va_up_ne _ _ (by decide)]; exact e14_307
  have e16_309 : en_309 16 = .inl (cy 0, 6, .inl (fun _ => 0)) := by rw [hen_309, va_up_ne _ _ (by decide)]; exact e16_307
  have e24_309 : en_309 24 = .inl (cy 8, 8, .inr (.inr (.inr (.inr (fun i => if i < 8 then some (r_301 i) else none))))) := by rw [hen_309, va_up_ne _ _ (by decide)]; exact e24_307
  have e33_309 : en_309 33 = .inl (cy 0, 8, .inl (fun _ => 0)) := by rw [hen_309, va_up_ne _ _ (by decide)]; exact e33_307
  have ew34_309 : en_309 34 = .inr (5, [.ref (ad_307 35), .ref (ad_307 36), .ref (ad_307 37), .int 0, .int 0, .int 0, .long 0, .long 0, .long 0, .long 0]) := by rw [hen_309, va_up_ne _ _ (by decide)]; exact ew34_307
  have hv_309 : ∀ j, j < 1 → en_309 (34 + 4 * j) = .inr (5, [.ref (ad_307 (35 + 4 * j)), .ref (ad_307 (36 + 4 * j)), .ref (ad_307 (37 + 4 * j)), .int 0, .int 0, .int 0, .long 0, .long 0, .long 0, .long 0]) := fun j hj => by rw [hen_309, va_up_ne _ _ (fne2 34 4 13 (by decide))]; exact hv_308 j hj
  have e13_309 : en_309 13 = .inl (cy 4, 9, .inr (.inr (.inr (.inr (va_up (fun _ => none) (0 : Int32).toNatClampNeg (some q_306)))))) := by rw [hen_309]; exact va_up_self _ _ _
  refine lv_iinc (v := 1) (lv' := [(2, .int 1), (0, .ref (ad 12)), (1, .ref (ad 1))]) hx hb dX2_init_71 hl (k := 0) rfl (by decide) (by decide) rfl (fun ls hl => ?_)
  refine lv_goto (tgt := 52) hx hb dX2_init_74 (by decide) ?_
  refine lv_iload_n hx hb dX2_init_52 rfl (lv_at hl 0 rfl) ?_
  refine lv_bipush (v := 8) hx hb dX2_init_53 (by decide) ?_
  refine lv_icmp_gt (tgt := 77) hx hb dX2_init_55 (by decide) (fun c_0 => absurd c_0 (by decide)) (fun _ => ?_)
  refine lv_aload_n hx hb dX2_init_58 rfl (lv_at hl 1 rfl) ?_
  refine hp_get hx hb hts ix2 hown hK hh (q := 12) heta_307 (List.mem_range.mpr (by decide)) et_309 rfl 1 (by decide) (hts _ tw_123) (fun _ h9 => h9) rfl dX2_init_59 ?_
  refine lv_iload_n hx hb dX2_init_62 rfl (lv_at hl 0 rfl) ?_
  refine hq_new (ci := 5) (fs := [.null, .null, .null, .int 0, .int 0, .int 0, .long 0, .long 0, .long 0, .long 0]) hx hb hts ix6 tyX6 tyX6_ok hown (hts _ tw_69) (hts _ tw_74) (hts _ tw_4) hK hh hA rfl (fun j hj => by rcases (show j = 0 ∨ j = 1 ∨ j = 2 ∨ j = 3 ∨ j = 4 ∨ j = 5 ∨ j = 6 ∨ j = 7 ∨ j = 8 ∨ j = 9 by omega) with rfl | rfl | rfl | rfl | rfl | rfl | rfl | rfl | rfl | rfl <;> rfl) (Nat.le_of_ble_eq_true rfl) (Nat.le_of_ble_eq_true rfl) dX2_init_63 (fun q_310 H ad_310 en_310 had_310 hen_310 hh => ?_)
  have hh : Hp D A A s.heap H _ (List.range 39) ad_310 en_310 := hh
  have et_310 : en_310 12 = .inr (2, [.ref (ad 1), .ref q_297, .ref q_299, .ref q_301, .ref q_303, .int 0]) := by rw [hen_310, va_up_ne _ _ (by decide)]; exact et_309
  have heta_310 : ad_310 12 = (ad 12) := by rw [had_310, va_up_ne _ _ (by decide)]; exact heta_307
  have hex1a_310 : ad_310 1 = (ad 1) := by rw [had_310, va_up_ne _ _ (by decide)]; exact hex1a_307
  have e13_310 : en_310 13 = .inl (cy 4, 9, .inr (.inr (.inr (.inr (va_up (fun _ => none) (0 : Int32).toNatClampNeg (some q_306)))))) := by rw [hen_310, va_up_ne _ _ (by decide)]; exact e13_309
  have he13a_310 : ad_310 13 = q_297 := by rw [had_310, va_up_ne _ _ (by decide)]; exact he13a_307
  have e14_310 : en_310 14 = .inl (cy 7, 9, .inr (.inr (.inr (.inr (fun i => if i < 9 then some (r_299 i) else none))))) := by rw [hen_310, va_up_ne _ _ (by decide)]; exact e14_309
  have he14a_310 : ad_310 14 = q_299 := by rw [had_310, va_up_ne _ _ (by decide)]; exact he14a_307
  have e16_310 : en_310 16 = .inl (cy 0, 6, .inl (fun _ => 0)) := by rw [hen_310, va_up_ne _ _ (by decide)]; exact e16_309
  have he16a_310 : ad_310 16 = (r_299 1) := by rw [had_310, va_up_ne _ _ (by decide)]; exact he16a_307
  have e24_310 : en_310 24 = .inl (cy 8, 8, .inr (.inr (.inr (.inr (fun i => if i < 8 then some (r_301 i) else none))))) := by rw [hen_310, va_up_ne _ _ (by decide)]; exact e24_309
  have he24a_310 : ad_310 24 = q_301 := by rw [had_310, va_up_ne _ _ (by decide)]; exact he24a_307
  have e33_310 : en_310 33 = .inl (cy 0, 8, .inl (fun _ => 0)) := by rw [hen_310, va_up_ne _ _ (by decide)]; exact e33_309
  have he33a_310 : ad_310 33 = q_303 := by rw [had_310, va_up_ne _ _ (by decide)]; exact he33a_307
  have hew34a_310 : ad_310 34 = q_306 := by rw [had_310, va_up_ne _ _ (by decide)]; exact he34a_307
  have hv_310 : ∀ j, j < 1 → en_310 (34 + 4 * j) = .inr (5, [.ref (ad_310 (35 + 4 * j)), .ref (ad_310 (36 + 4 * j)), .ref (ad_310 (37 + 4 * j)), .int 0, .int 0, .int 0, .long 0, .long 0, .long 0, .long 0]) := fun j hj => by rw [hen_310, va_up_ne _ _ (fne 34 4 38 hj (by decide)), had_310, va_up_ne _ _ (fne 35 4 38 hj (by decide)), va_up_ne _ _ (fne 36 4 38 hj (by decide)), va_up_ne _ _ (fne 37 4 38 hj (by decide))]; exact hv_309 j hj
  have e38_310 : en_310 38 = .inr (5, [.null, .null, .null, .int 0, .int 0, .int 0, .long 0, .long 0, .long 0, .long 0]) := by rw [hen_310]; exact va_up_self _ _ _
  have he38a_310 : ad_310 38 = q_310 := by rw [had_310]; exact va_up_self _ _ _
  refine W.widen (k := 26) (n := 204) (Nat.le_refl _) (Nat.le_refl _) ?_
  refine lv_dup hx hb dX2_init_66 rfl ?_
  refine W.eq (g2 := F0 m 67 ls [.ref (ad_310 38), .ref q_310, .int 1, .ref q_297]) (by rw [he38a_310]) ?_
  refine hq_callC (va_runIN (As := []) (rest := [.ref q_310, .int 1, .ref q_297]) ⟨hx, hb, hml, hown, hts⟩ (c_X6_init l D cy _ ad_310 en_310 39 38 (by decide) e38_310) (kw_X6_init hts hX.2.2.2.2.2.2.1 ⟨by decide, by decide⟩) (preC_of hh hK hX) rfl rfl hl.1 rfl (lv_room (Nat.le_of_ble_eq_true rfl)) dX2_init_67 ⟨Nat.le_of_ble_eq_true rfl, Nat.le_of_ble_eq_true rfl⟩) hh hA (fun H locs ad_311 en_311 hw_311 hh => ?_)
  have hh : Hp D A A s.heap H _ (List.range 42) ad_311 en_311 := hh
  obtain ⟨hda_311, hue_311, ew_311, ewa_311, ewb_311, ewc_311⟩ := hw_311
  dsimp only at hda_311 hue_311 ew_311 ewa_311 ewb_311 ewc_311
  have et_311 : en_311 12 = .inr (2, [.ref (ad 1), .ref q_297, .ref q_299, .ref q_301, .ref q_303, .int 0]) := by rw [hue_311 _ (by decide) (by decide)]; exact et_310
  have heta_311 : ad_311 12 = (ad 12) := by rw [hda_311 _ (by decide)]; exact heta_310
  have hex1a_311 : ad_311 1 = (ad 1) := by rw [hda_311 _ (by decide)]; exact hex1a_310
  have e13_311 : en_311 13 = .inl (cy 4, 9, .inr (.inr (.inr (.inr (va_up (fun _ => none) (0 : Int32).toNatClampNeg (some q_306)))))) := by rw [hue_311 _ (by decide) (by decide)]; exact e13_310
  have he13a_311 : ad_311 13 = q_297 := by rw [hda_311 _ (by decide)]; exact he13a_310
  have e14_311 : en_311 14 = .inl (cy 7, 9, .inr (.inr (.inr (.inr (fun i => if i < 9 then some (r_299 i) else none))))) := by rw [hue_311 _ (by decide) (by decide)]; exact e14_310
  have he14a_311 : ad_311 14 = q_299 := by rw [hda_311 _ (by decide)]; exact he14a_310
  have e16_311 : en_311 16 = .inl (cy 0, 6, .inl (fun _ => 0)) := by rw [hue_311 _ (by decide) (by decide)]; exact e16_310
  have he16a_311 : ad_311 16 = (r_299 1) := by rw [hda_311 _ (by decide)]; exact he16a_310
  have e24_311 : en_311 24 = .inl (cy 8, 8, .inr (.inr (.inr (.inr (fun i => if i < 8 then some (r_301 i) else none))))) := by rw [hue_311 _ (by decide) (by decide)]; exact e24_310
  have he24a_311 : ad_311 24 = q_301 := by rw [hda_311 _ (by decide)]; exact he24a_310
  have e33_311 : en_311 33 = .inl (cy 0, 8, .inl (fun _ => 0)) := by rw [hue_311 _ (by decide) (by decide)]; exact e33_310
  have he33a_311 : ad_311 33 = q_303 := by rw [hda_311 _ (by decide)]; exact he33a_310
  have hew34a_311 : ad_311 34 = q_306 := by rw [hda_311 _ (by decide)]; exact hew34a_310
  have he38a_311 : ad_311 38 = q_310 := by rw [hda_311 _ (by decide)]; exact he38a_310
  have hv_311 : ∀ j, j < 1 → en_311 (34 + 4 * j) = .inr (5, [.ref (ad_311 (35 + 4 * j)), .ref (ad_311 (36 + 4 * j)), .ref (ad_311 (37 + 4 * j)), .int 0, .int 0, .int 0, .long 0, .long 0, .long 0, .long 0]) := fun j hj => by rw [hue_311 _ (flt 34 4 39 hj (by decide)) (fne 34 4 38 hj (by decide)), hda_311 _ (flt 35 4 39 hj (by decide)), hda_311 _ (flt 36 4 39 hj (by decide)), hda_311 _ (flt 37 4 39 hj (by decide))]; exact hv_310 j hj
  have ew38_311 := ew_311
  have hv_312 : ∀ j, j < 2 → en_311 (34 + 4 * j) = .inr (5, [.ref (ad_311 (35 + 4 * j)), .ref (ad_311 (36 + 4 * j)), .ref (ad_311 (37 + 4 * j)), .int 0, .int 0, .int 0, .long 0, .long 0, .long 0, .long 0]) := fun j hj => (Nat.lt_or_ge j 1).elim (fun h => hv_311 j h) (fun h => by have e0 : j = 1 := (by omega); subst e0; exact ew_311)
  refine W.widen (k := 29) (n := 228) (Nat.le_refl _) (Nat.le_refl _) ?_
  refine hp_astq hx hb hK hh (q := 13) (v := 38) he13a_311 (List.mem_range.mpr (by decide)) he38a_311 (List.mem_range.mpr (by decide)) e13_311 ew38_311 rfl rfl (vp_in_iff.mpr (by decide)) dX2_init_70 (fun H locs en_313 hen_313 hh => ?_)
  have et_313 : en_313 12 = .inr (2, [.ref (ad 1), .ref q_297, .ref q_299, .ref q_301, .ref q_303, .int 0]) := by rw [hen_313, va_up_ne _ _ (by decide)]; exact et_311
  have e14_313 : en_313 14 = .inl (cy 7, 9, .inr (.inr (.inr (.inr (fun i => if i < 9 then some (r_299 i) else none))))) := by rw [hen_313, va_up_ne _ _ (by decide)]; exact e14_311
  have e16_313 : en_313 16 = .inl (cy 0, 6, .inl (fun _ => 0)) := by rw [hen_313, va_up_ne _ _ (by decide)]; exact e16_311
  have e24_313 : en_313 24 = .inl (cy 8, 8, .inr (.inr (.inr (.inr (fun i => if i < 8 then some (r_301 i) else none))))) := by rw [hen_313, va_up_ne _ _ (by decide)]; exact e24_311
  have e33_313 : en_313 33 = .inl (cy 0, 8, .inl (fun _ => 0)) := by rw [hen_313, va_up_ne _ _ (by decide)]; exact e33_311
  have ew38_313 : en_313 38 = .inr (5, [.ref (ad_311 39), .ref (ad_311 40), .ref (ad_311 41), .int 0, .int 0, .int 0, .long 0, .long 0, .long 0, .long 0]) := by rw [hen_313, va_up_ne _ _ (by decide)]; exact ew38_311
  have hv_313 : ∀ j, j < 2 → en_313 (34 + 4 * j) = .inr (5, [.ref (ad_311 (35 + 4 * j)), .ref (ad_311 (36 + 4 * j)), .ref (ad_311 (37 + 4 * j)), .int 0, .int 0, .int 0, .long 0, .long 0, .long 0, .long 0]) := fun j hj => by rw [hen_313, va_up_ne _ _ (fne2 34 4 13 (by decide))]; exact hv_312 j hj
  have e13_313 : en_313 13 = .inl (cy 4, 9, .inr (.inr (.inr (.inr (va_up (va_up (fun _ => none) (0 : Int32).toNatClampNeg (some q_306)) (1 : Int32).toNatClampNeg (some q_310)))))) := by rw [hen_313]; exact va_up_self _ _ _
  refine lv_iinc (v := 2) (lv' := [(2, .int 2), (0, .ref (ad 12)), (1, .ref (ad 1))]) hx hb dX2_init_71 hl (k := 0) rfl (by decide) (by decide) rfl (fun ls hl => ?_)
  refine lv_goto (tgt := 52) hx hb dX2_init_74 (by decide) ?_
  refine lv_iload_n hx hb dX2_init_52 rfl (lv_at hl 0 rfl) ?_
  refine lv_bipush (v := 8) hx hb dX2_init_53 (by decide) ?_
  refine lv_icmp_gt (tgt := 77) hx hb dX2_init_55 (by decide) (fun c_0 => absurd c_0 (by decide)) (fun _ => ?_)
  refine lv_aload_n hx hb dX2_init_58 rfl (lv_at hl 1 rfl) ?_
  refine hp_get hx hb hts ix2 hown hK hh (q := 12) heta_311 (List.mem_range.mpr (by decide)) et_313 rfl 1 (by decide) (hts _ tw_123) (fun _ h9 => h9) rfl dX2_init_59 ?_
  refine lv_iload_n hx hb dX2_init_62 rfl (lv_at hl 0 rfl) ?_
  refine hq_new (ci := 5) (fs := [.null, .null, .null, .int 0, .int 0, .int 0, .long 0, .long 0, .long 0, .long 0]) hx hb hts ix6 tyX6 tyX6_ok hown (hts _ tw_69) (hts _ tw_74) (hts _ tw_4) hK hh hA rfl (fun j hj => by rcases (show j = 0 ∨ j = 1 ∨ j = 2 ∨ j = 3 ∨ j = 4 ∨ j = 5 ∨ j = 6 ∨ j = 7 ∨ j = 8 ∨ j = 9 by omega) with rfl | rfl | rfl | rfl | rfl | rfl | rfl | rfl | rfl | rfl <;> rfl) (Nat.le_of_ble_eq_true rfl) (Nat.le_of_ble_eq_true rfl) dX2_init_63 (fun q_314 H ad_314 en_314 had_314 hen_314 hh => ?_)
  have hh : Hp D A A s.heap H _ (List.range 43) ad_314 en_314 := hh
  have et_314 : en_314 12 = .inr (2, [.ref (ad 1), .ref q_297, .ref q_299, .ref q_301, .ref q_303, .int 0]) := by rw [hen_314, va_up_ne _ _ (by decide)]; exact et_313
  have heta_314 : ad_314 12 = (ad 12) := by rw [had_314, va_up_ne _ _ (by decide)]; exact heta_311
  have hex1a_314 : ad_314 1 = (ad 1) := by rw [had_314, va_up_ne _ _ (by decide)]; exact hex1a_311
  have e13_314 : en_314 13 = .inl (cy 4, 9, .inr (.inr (.inr (.inr (va_up (va_up (fun _ => none) (0 : Int32).toNatClampNeg (some q_306)) (1 : Int32).toNatClampNeg (some q_310)))))) := by rw [hen_314, va_up_ne _ _ (by decide)]; exact e13_313
  have he13a_314 : ad_314 13 = q_297 := by rw [had_314, va_up_ne _ _ (by decide)]; exact he13a_311
  have e14_314 : en_314 14 = .inl (cy 7, 9, .inr (.inr (.inr (.inr (fun i => if i < 9 then some (r_299 i) else none))))) := by rw [hen_314, va_up_ne _ _ (by decide)]; exact e14_313
  have he14a_314 : ad_314 14 = q_299 := by rw [had_314, va_up_ne _ _ (by decide)]; exact he14a_311
  have e16_314 : en_314 16 = .inl (cy 0, 6, .inl (fun _ => 0)) := by rw [hen_314, va_up_ne _ _ (by decide)]; exact e16_313
  have he16a_314 : ad_314 16 = (r_299 1) := by rw [had_314, va_up_ne _ _ (by decide)]; exact he16a_311
  have e24_314 : en_314 24 = .inl (cy 8, 8, .inr (.inr (.inr (.inr (fun i => if i < 8 then some (r_301 i) else none))))) := by rw [hen_314, va_up_ne _ _ (by decide)]; exact e24_313
  have he24a_314 : ad_314 24 = q_301 := by rw [had_314, va_up_ne _ _ (by decide)]; exact he24a_311
  have e33_314 : en_314 33 = .inl (cy 0, 8, .inl (fun _ => 0)) := by rw [hen_314, va_up_ne _ _ (by decide)]; exact e33_313
  have he33a_314 : ad_314 33 = q_303 := by rw [had_314, va_up_ne _ _ (by decide)]; exact he33a_311
  have hew34a_314 : ad_314 34 = q_306 := by rw [had_314, va_up_ne _ _ (by decide)]; exact hew34a_311
  have hew38a_314 : ad_314 38 = q_310 := by rw [had_314, va_up_ne _ _ (by decide)]; exact he38a_311
  have hv_314 : ∀ j, j < 2 → en_314 (34 + 4 * j) = .inr (5, [.ref (ad_314 (35 + 4 * j)), .ref (ad_314 (36 + 4 * j)), .ref (ad_314 (37 + 4 * j)), .int 0, .int 0, .int 0, .long 0, .long 0, .long 0, .long 0]) := fun j hj => by rw [hen_314, va_up_ne _ _ (fne 34 4 42 hj (by decide)), had_314, va_up_ne _ _ (fne 35 4 42 hj (by decide)), va_up_ne _ _ (fne 36 4 42 hj (by decide)), va_up_ne _ _ (fne 37 4 42 hj (by decide))]; exact hv_313 j hj
  have e42_314 : en_314 42 = .inr (5, [.null, .null, .null, .int 0, .int 0, .int 0, .long 0, .long 0, .long 0, .long 0]) := by rw [hen_314]; exact va_up_self _ _ _
  have he42a_314 : ad_314 42 = q_314 := by rw [had_314]; exact va_up_self _ _ _
  refine W.widen (k := 30) (n := 238) (Nat.le_refl _) (Nat.le_refl _) ?_
  refine lv_dup hx hb dX2_init_66 rfl ?_
  refine W.eq (g2 := F0 m 67 ls [.ref (ad_314 42), .ref q_314, .int 2, .ref q_297]) (by rw [he42a_314]) ?_
  refine hq_callC (va_runIN (As := []) (rest := [.ref q_314, .int 2, .ref q_297]) ⟨hx, hb, hml, hown, hts⟩ (c_X6_init l D cy _ ad_314 en_314 43 42 (by decide) e42_314) (kw_X6_init hts hX.2.2.2.2.2.2.1 ⟨by decide, by decide⟩) (preC_of hh hK hX) rfl rfl hl.1 rfl (lv_room (Nat.le_of_ble_eq_true rfl)) dX2_init_67 ⟨Nat.le_of_ble_eq_true rfl, Nat.le_of_ble_eq_true rfl⟩) hh hA (fun H locs ad_315 en_315 hw_315 hh => ?_)
  have hh : Hp D A A s.heap H _ (List.range 46) ad_315 en_315 := hh
  obtain ⟨hda_315, hue_315, ew_315, ewa_315, ewb_315, ewc_315⟩ := hw_315
  dsimp only at hda_315 hue_315 ew_315 ewa_315 ewb_315 ewc_315
  have et_315 : en_315 12 = .inr (2, [.ref (ad 1), .ref q_297, .ref q_299, .ref q_301, .ref q_303, .int 0]) := by rw [hue_315 _ (by decide) (by decide)]; exact et_314
  have heta_315 : ad_315 12 = (ad 12) := by rw [hda_315 _ (by decide)]; exact heta_314
  have hex1a_315 : ad_315 1 = (ad 1) := by rw [hda_315 _ (by decide)]; exact hex1a_314
  have e13_315 : en_315 13 = .inl (cy 4, 9, .inr (.inr (.inr (.inr (va_up (va_up (fun _ => none) (0 : Int32).toNatClampNeg (some q_306)) (1 : Int32).toNatClampNeg (some q_310)))))) := by rw [hue_315 _ (by decide) (by decide)]; exact e13_314
  have he13a_315 : ad_315 13 = q_297 := by rw [hda_315 _ (by decide)]; exact he13a_314
  have e14_315 : en_315 14 = .inl (cy 7, 9, .inr (.inr (.inr (.inr (fun i => if i < 9 then some (r_299 i) else none))))) := by rw [hue_315 _ (by decide) (by decide)]; exact e14_314
  have he14a_315 : ad_315 14 = q_299 := by rw [hda_315 _ (by decide)]; exact he14a_314
  have e16_315 : en_315 16 = .inl (cy 0, 6, .inl (fun _ => 0)) := by rw [hue_315 _ (by decide) (by decide)]; exact e16_314
  have he16a_315 : ad_315 16 = (r_299 1) := by rw [hda_315 _ (by decide)]; exact he16a_314
  have e24_315 : en_315 24 = .inl (cy 8, 8, .inr (.inr (.inr (.inr (fun i => if i < 8 then some (r_301 i) else none))))) := by rw [hue_315 _ (by decide) (by decide)]; exact e24_314
  have he24a_315 : ad_315 24 = q_301 := by rw [hda_315 _ (by decide)]; exact he24a_314
  have e33_315 : en_315 33 = .inl (cy 0, 8, .inl (fun _ => 0)) := by rw [hue_315 _ (by decide) (by decide)]; exact e33_314
  have he33a_315 : ad_315 33 = q_303 := by rw [hda_315 _ (by decide)]; exact he33a_314
  have hew34a_315 : ad_315 34 = q_306 := by rw [hda_315 _ (by decide)]; exact hew34a_314
  have hew38a_315 : ad_315 38 = q_310 := by rw [hda_315 _ (by decide)]; exact hew38a_314
  have he42a_315 : ad_315 42 = q_314 := by rw [hda_315 _ (by decide)]; exact he42a_314
  have hv_315 : ∀ j, j < 2 → en_315 (34 + 4 * j) = .inr (5, [.ref (ad_315 (35 + 4 * j)), .ref (ad_315 (36 + 4 * j)), .ref (ad_315 (37 + 4 * j)), .int 0, .int 0, .int 0, .long 0, .long 0, .long 0, .long 0]) := fun j hj => by rw [hue_315 _ (flt 34 4 43 hj (by decide)) (fne 34 4 42 hj (by decide)), hda_315 _ (flt 35 4 43 hj (by decide)), hda_315 _ (flt 36 4 43 hj (by decide)), hda_315 _ (flt 37 4 43 hj (by decide))]; exact hv_314 j hj
  have ew42_315 := ew_315
  have hv_316 : ∀ j, j < 3 → en_315 (34 + 4 * j) = .inr (5, [.ref (ad_315 (35 + 4 * j)), .ref (ad_315 (36 + 4 * j)), .ref (ad_315 (37 + 4 * j)), .int 0, .int 0, .int 0, .long 0, .long 0, .long 0, .long 0]) := fun j hj => (Nat.lt_or_ge j 2).elim (fun h => hv_315 j h) (fun h => by have e0 : j = 2 := (by omega); subst e0; exact ew_315)
  refine W.widen (k := 33) (n := 262) (Nat.le_refl _) (Nat.le_refl _) ?_
  refine hp_astq hx hb hK hh (q := 13) (v := 42) he13a_315 (List.mem_range.mpr (by decide)) he42a_315 (List.mem_range.mpr (by decide)) e13_315 ew42_315 rfl rfl (vp_in_iff.mpr (by decide)) dX2_init_70 (fun H locs en_317 hen_317 hh => ?_)
  have et_317 : en_317 12 = .inr (2, [.ref (ad 1), .ref q_297, .ref q_299, .ref q_301, .ref q_303, .int 0]) := by rw [hen_317, va_up_ne _ _ (by decide)]; exact et_315
  have e14_317 : en_317 14 = .inl (cy 7, 9, .inr (.inr (.inr (.inr (fun i => if i < 9 then some (r_299 i) else none))))) := by rw [hen_317, va_up_ne _ _ (by decide)]; exact e14_315
  have e16_317 : en_317 16 = .inl (cy 0, 6, .inl (fun _ => 0)) := by rw [hen_317, va_up_ne _ _ (by decide)]; exact e16_315
  have e24_317 : en_317 24 = .inl (cy 8, 8, .inr (.inr (.inr (.inr (fun i => if i < 8 then some (r_301 i) else none))))) := by rw [hen_317, va_up_ne _ _ (by decide)]; exact e24_315
  have e33_317 : en_317 33 = .inl (cy 0, 8, .inl (fun _ => 0)) := by rw [hen_317, va_up_ne _ _ (by decide)]; exact e33_315
  have ew42_317 : en_317 42 = .inr (5, [.ref (ad_315 43), .ref (ad_315 44), .ref (ad_315 45), .int 0, .int 0, .int 0, .long 0, .long 0, .long 0, .long 0]) := by rw [hen_317, va_up_ne _ _ (by decide)]; exact ew42_315
  have hv_317 : ∀ j, j < 3 → en_317 (34 + 4 * j) = .inr (5, [.ref (ad_315 (35 + 4 * j)), .ref (ad_315 (36 + 4 * j)), .ref (ad_315 (37 + 4 * j)), .int 0, .int 0, .int 0, .long 0, .long 0, .long 0, .long 0]) := fun j hj => by rw [hen_317, va_up_ne _ _ (fne2 34 4 13 (by decide))]; exact hv_316 j hj
  have e13_317 : en_317 13 = .inl (cy 4, 9, .inr (.inr (.inr (.inr (va_up (va_up (va_up (fun _ => none) (0 : Int32).toNatClampNeg (some q_306)) (1 : Int32).toNatClampNeg (some q_310)) (2 : Int32).toNatClampNeg (some q_314)))))) := by rw [hen_317]; exact va_up_self _ _ _
  refine lv_iinc (v := 3) (lv' := [(2, .int 3), (0, .ref (ad 12)), (1, .ref (ad 1))]) hx hb dX2_init_71 hl (k := 0) rfl (by decide) (by decide) rfl (fun ls hl => ?_)
  refine lv_goto (tgt := 52) hx hb dX2_init_74 (by decide) ?_
  refine lv_iload_n hx hb dX2_init_52 rfl (lv_at hl 0 rfl) ?_
  refine lv_bipush (v := 8) hx hb dX2_init_53 (by decide) ?_
  refine lv_icmp_gt (tgt := 77) hx hb dX2_init_55 (by decide) (fun c_0 => absurd c_0 (by decide)) (fun _ => ?_)
  refine lv_aload_n hx hb dX2_init_58 rfl (lv_at hl 1 rfl) ?_
  refine hp_get hx hb hts ix2 hown hK hh (q := 12) heta_315 (List.mem_range.mpr (by decide)) et_317 rfl 1 (by decide) (hts _ tw_123) (fun _ h9 => h9) rfl dX2_init_59 ?_
  refine lv_iload_n hx hb dX2_init_62 rfl (lv_at hl 0 rfl) ?_
  refine hq_new (ci := 5) (fs := [.null, .null, .null, .int 0, .int 0, .int 0, .long 0, .long 0, .long 0, .long 0]) hx hb hts ix6 tyX6 tyX6_ok hown (hts _ tw_69) (hts _ tw_74) (hts _ tw_4) hK hh hA rfl (fun j hj => by rcases (show j = 0 ∨ j = 1 ∨ j = 2 ∨ j = 3 ∨ j = 4 ∨ j = 5 ∨ j = 6 ∨ j = 7 ∨ j = 8 ∨ j = 9 by omega) with rfl | rfl | rfl | rfl | rfl | rfl | rfl | rfl | rfl | rfl <;> rfl) (Nat.le_of_ble_eq_true rfl) (Nat.le_of_ble_eq_true rfl) dX2_init_63 (fun q_318 H ad_318 en_318 had_318 hen_318 hh => ?_)
  have hh : Hp D A A s.heap H _ (List.range 47) ad_318 en_318 := hh
  have et_318 : en_318 12 = .inr (2, [.ref (ad 1), .ref q_297, .ref q_299, .ref q_301, .ref q_303, .int 0]) := by rw [hen_318, va_up_ne _ _ (by decide)]; exact et_317
  have heta_318 : ad_318 12 = (ad 12) := by rw [had_318, va_up_ne _ _ (by decide)]; exact heta_315
  have hex1a_318 : ad_318 1 = (ad 1) := by rw [had_318, va_up_ne _ _ (by decide)]; exact hex1a_315
  have e13_318 : en_318 13 = .inl (cy 4, 9, .inr (.inr (.inr (.inr (va_up (va_up (va_up (fun _ => none) (0 : Int32).toNatClampNeg (some q_306)) (1 : Int32).toNatClampNeg (some q_310)) (2 : Int32).toNatClampNeg (some q_314)))))) := by rw [hen_318, va_up_ne _ _ (by decide)]; exact e13_317
  have he13a_318 : ad_318 13 = q_297 := by rw [had_318, va_up_ne _ _ (by decide)]; exact he13a_315
  have e14_318 : en_318 14 = .inl (cy 7, 9, .inr (.inr (.inr (.inr (fun i => if i < 9 then some (r_299 i) else none))))) := by rw [hen_318, va_up_ne _ _ (by decide)]; exact e14_317
  have he14a_318 : ad_318 14 = q_299 := by rw [had_318, va_up_ne _ _ (by decide)]; exact he14a_315
  have e16_318 : en_318 16 = .inl (cy 0, 6, .inl (fun _ => 0)) := by rw [hen_318, va_up_ne _ _ (by decide)]; exact e16_317
  have he16a_318 : ad_318 16 = (r_299 1) := by rw [had_318, va_up_ne _ _ (by decide)]; exact he16a_315
  have e24_318 : en_318 24 = .inl (cy 8, 8, .inr (.inr (.inr (.inr (fun i => if i < 8 then some (r_301 i) else none))))) := by rw [hen_318, va_up_ne _ _ (by decide)]; exact e24_317
  have he24a_318 : ad_318 24 = q_301 := by rw [had_318, va_up_ne _ _ (by decide)]; exact he24a_315
  have e33_318 : en_318 33 = .inl (cy 0, 8, .inl (fun _ => 0)) := by rw [hen_318, va_up_ne _ _ (by decide)]; exact e33_317
  have he33a_318 : ad_318 33 = q_303 := by rw [had_318, va_up_ne _ _ (by decide)]; exact he33a_315
  have hew34a_318 : ad_318 34 = q_306 := by rw [had_318, va_up_ne _ _ (by decide)]; exact hew34a_315
  have hew38a_318 : ad_318 38 = q_310 := by rw [had_318, va_up_ne _ _ (by decide)]; exact hew38a_315
  have hew42a_318 : ad_318 42 = q_314 := by rw [had_318, va_up_ne _ _ (by decide)]; exact he42a_315
  have hv_318 : ∀ j, j < 3 → en_318 (34 + 4 * j) = .inr (5, [.ref (ad_318 (35 + 4 * j)), .ref (ad_318 (36 + 4 * j)), .ref (ad_318 (37 + 4 * j)), .int 0, .int 0, .int 0, .long 0, .long 0, .long 0, .long 0]) := fun j hj => by rw [hen_318, va_up_ne _ _ (fne 34 4 46 hj (by decide)), had_318, va_up_ne _ _ (fne 35 4 46 hj (by decide)), va_up_ne _ _ (fne 36 4 46 hj (by decide)), va_up_ne _ _ (fne 37 4 46 hj (by decide))]; exact hv_317 j hj
  have e46_318 : en_318 46 = .inr (5, [.null, .null, .null, .int 0, .int 0, .int 0, .long 0, .long 0, .long 0, .long 0]) := by rw [hen_318]; exact va_up_self _ _ _
  have he46a_318 : ad_318 46 = q_318 := by rw [had_318]; exact va_up_self _ _ _
  refine W.widen (k := 34) (n := 272) (Nat.le_refl _) (Nat.le_refl _) ?_
  refine lv_dup hx hb dX2_init_66 rfl ?_
  refine W.eq (g2 := F0 m 67 ls [.ref (ad_318 46), .ref q_318, .int 3, .ref q_297]) (by rw [he46a_318]) ?_
  refine hq_callC (va_runIN (As := []) (rest := [.ref q_318, .int 3, .ref q_297]) ⟨hx, hb, hml, hown, hts⟩ (c_X6_init l D cy _ ad_318 en_318 47 46 (by decide) e46_318) (kw_X6_init hts hX.2.2.2.2.2.2.1 ⟨by decide, by decide⟩) (preC_of hh hK hX) rfl rfl hl.1 rfl (lv_room (Nat.le_of_ble_eq_true rfl)) dX2_init_67 ⟨Nat.le_of_ble_eq_true rfl, Nat.le_of_ble_eq_true rfl⟩) hh hA (fun H locs ad_319 en_319 hw_319 hh => ?_)
  have hh : Hp D A A s.heap H _ (List.range 50) ad_319 en_319 := hh
  obtain ⟨hda_319, hue_319, ew_319, ewa_319, ewb_319, ewc_319⟩ := hw_319
  dsimp only at hda_319 hue_319 ew_319 ewa_319 ewb_319 ewc_319
  have et_319 : en_319 12 = .inr (2, [.ref (ad 1), .ref q_297, .ref q_299, .ref q_301, .ref q_303, .int 0]) := by rw [hue_319 _ (by decide) (by decide)]; exact et_318
  have heta_319 : ad_319 12 = (ad 12) := by rw [hda_319 _ (by decide)]; exact heta_318
  have hex1a_319 : ad_319 1 = (ad 1) := by rw [hda_319 _ (by decide)]; exact hex1a_318
  have e13_319 : en_319 13 = .inl (cy 4, 9, .inr (.inr (.inr (.inr (va_up (va_up (va_up (fun _ => none) (0 : Int32).toNatClampNeg (some q_306)) (1 : Int32).toNatClampNeg (some q_310)) (2 : Int32).toNatClampNeg (some q_314)))))) := by rw [hue_319 _ (by decide) (by decide)]; exact e13_318
  have he13a_319 : ad_319 13 = q_297 := by rw [hda_319 _ (by decide)]; exact he13a_318
  have e14_319 : en_319 14 = .inl (cy 7, 9, .inr (.inr (.inr (.inr (fun i => if i < 9 then some (r_299 i) else none))))) := by rw [hue_319 _ (by decide) (by decide)]; exact e14_318
  have he14a_319 : ad_319 14 = q_299 := by rw [hda_319 _ (by decide)]; exact he14a_318
  have e16_319 : en_319 16 = .inl (cy 0, 6, .inl (fun _ => 0)) := by rw [hue_319 _ (by decide) (by decide)]; exact e16_318
  have he16a_319 : ad_319 16 = (r_299 1) := by rw [hda_319 _ (by decide)]; exact he16a_318
  have e24_319 : en_319 24 = .inl (cy 8, 8, .inr (.inr (.inr (.inr (fun i => if i < 8 then some (r_301 i) else none))))) := by rw [hue_319 _ (by decide) (by decide)]; exact e24_318
  have he24a_319 : ad_319 24 = q_301 := by rw [hda_319 _ (by decide)]; exact he24a_318
  have e33_319 : en_319 33 = .inl (cy 0, 8, .inl (fun _ => 0)) := by rw [hue_319 _ (by decide) (by decide)]; exact e33_318
  have he33a_319 : ad_319 33 = q_303 := by rw [hda_319 _ (by decide)]; exact he33a_318
  have hew34a_319 : ad_319 34 = q_306 := by rw [hda_319 _ (by decide)]; exact hew34a_318
  have hew38a_319 : ad_319 38 = q_310 := by rw [hda_319 _ (by decide)]; exact hew38a_318
  have hew42a_319 : ad_319 42 = q_314 := by rw [hda_319 _ (by decide)]; exact hew42a_318
  have he46a_319 : ad_319 46 = q_318 := by rw [hda_319 _ (by decide)]; exact he46a_318
  have hv_319 : ∀ j, j < 3 → en_319 (34 + 4 * j) = .inr (5, [.ref (ad_319 (35 + 4 * j)), .ref (ad_319 (36 + 4 * j)), .ref (ad_319 (37 + 4 * j)), .int 0, .int 0, .int 0, .long 0, .long 0, .long 0, .long 0]) := fun j hj => by rw [hue_319 _ (flt 34 4 47 hj (by decide)) (fne 34 4 46 hj (by decide)), hda_319 _ (flt 35 4 47 hj (by decide)), hda_319 _ (flt 36 4 47 hj (by decide)), hda_319 _ (flt 37 4 47 hj (by decide))]; exact hv_318 j hj
  have ew46_319 := ew_319
  have hv_320 : ∀ j, j < 4 → en_319 (34 + 4 * j) = .inr (5, [.ref (ad_319 (35 + 4 * j)), .ref (ad_319 (36 + 4 * j)), .ref (ad_319 (37 + 4 * j)), .int 0, .int 0, .int 0, .long 0, .long 0, .long 0, .long 0]) := fun j hj => (Nat.lt_or_ge j 3).elim (fun h => hv_319 j h) (fun h => by have e0 : j = 3 := (by omega); subst e0; exact ew_319)
  refine W.widen (k := 37) (n := 296) (Nat.le_refl _) (Nat.le_refl _) ?_
  refine hp_astq hx hb hK hh (q := 13) (v := 46) he13a_319 (List.mem_range.mpr (by decide)) he46a_319 (List.mem_range.mpr (by decide)) e13_319 ew46_319 rfl rfl (vp_in_iff.mpr (by decide)) dX2_init_70 (fun H locs en_321 hen_321 hh => ?_)
  have et_321 : en_321 12 = .inr (2, [.ref (ad 1), .ref q_297, .ref q_299, .ref q_301, .ref q_303, .int 0]) := by rw [hen_321, va_up_ne _ _ (by decide)]; exact et_319
  have e14_321 : en_321 14 = .inl (cy 7, 9, .inr (.inr (.inr (.inr (fun i => if i < 9 then some (r_299 i) else none))))) := by rw [hen_321, va_up_ne _ _ (by decide)]; exact e14_319
  have e16_321 : en_321 16 = .inl (cy 0, 6, .inl (fun _ => 0)) := by rw [hen_321, va_up_ne _ _ (by decide)]; exact e16_319
  have e24_321 : en_321 24 = .inl (cy 8, 8, .inr (.inr (.inr (.inr (fun i => if i < 8 then some (r_301 i) else none))))) := by rw [hen_321, va_up_ne _ _ (by decide)]; exact e24_319
  have e33_321 : en_321 33 = .inl (cy 0, 8, .inl (fun _ => 0)) := by rw [hen_321, va_up_ne _ _ (by decide)]; exact e33_319
  have ew46_321 : en_321 46 = .inr (5, [.ref (ad_319 47), .ref (ad_319 48), .ref (ad_319 49), .int 0, .int 0, .int 0, .long 0, .long 0, .long 0, .long 0]) := by rw [hen_321, va_up_ne _ _ (by decide)]; exact ew46_319
  have hv_321 : ∀ j, j < 4 → en_321 (34 + 4 * j) = .inr (5, [.ref (ad_319 (35 + 4 * j)), .ref (ad_319 (36 + 4 * j)), .ref (ad_319 (37 + 4 * j)), .int 0, .int 0, .int 0, .long 0, .long 0, .long 0, .long 0]) := fun j hj => by rw [hen_321, va_up_ne _ _ (fne2 34 4 13 (by decide))]; exact hv_320 j hj
  have e13_321 : en_321 13 = .inl (cy 4, 9, .inr (.inr (.inr (.inr (va_up (va_up (va_up (va_up (fun _ => none) (0 : Int32).toNatClampNeg (some q_306)) (1 : Int32).toNatClampNeg (some q_310)) (2 : Int32).toNatClampNeg (some q_314)) (3 : Int32).toNatClampNeg (some q_318)))))) := by rw [hen_321]; exact va_up_self _ _ _
  refine lv_iinc (v := 4) (lv' := [(2, .int 4), (0, .ref (ad 12)), (1, .ref (ad 1))]) hx hb dX2_init_71 hl (k := 0) rfl (by decide) (by decide) rfl (fun ls hl => ?_)
  refine lv_goto (tgt := 52) hx hb dX2_init_74 (by decide) ?_
  refine lv_iload_n hx hb dX2_init_52 rfl (lv_at hl 0 rfl) ?_
  refine lv_bipush (v := 8) hx hb dX2_init_53 (by decide) ?_
  refine lv_icmp_gt (tgt := 77) hx hb dX2_init_55 (by decide) (fun c_0 => absurd c_0 (by decide)) (fun _ => ?_)
  refine lv_aload_n hx hb dX2_init_58 rfl (lv_at hl 1 rfl) ?_
  refine hp_get hx hb hts ix2 hown hK hh (q := 12) heta_319 (List.mem_range.mpr (by decide)) et_321 rfl 1 (by decide) (hts _ tw_123) (fun _ h9 => h9) rfl dX2_init_59 ?_
  refine lv_iload_n hx hb dX2_init_62 rfl (lv_at hl 0 rfl) ?_
  refine hq_new (ci := 5) (fs := [.null, .null, .null, .int 0, .int 0, .int 0, .long 0, .long 0, .long 0, .long 0]) hx hb hts ix6 tyX6 tyX6_ok hown (hts _ tw_69) (hts _ tw_74) (hts _ tw_4) hK hh hA rfl (fun j hj => by rcases (show j = 0 ∨ j = 1 ∨ j = 2 ∨ j = 3 ∨ j = 4 ∨ j = 5 ∨ j = 6 ∨ j = 7 ∨ j = 8 ∨ j = 9 by omega) with rfl | rfl | rfl | rfl | rfl | rfl | rfl | rfl | rfl | rfl <;> rfl) (Nat.le_of_ble_eq_true rfl) (Nat.le_of_ble_eq_true rfl) dX2_init_63 (fun q_322 H ad_322 en_322 had_322 hen_322 hh => ?_)
  have hh : Hp D A A s.heap H _ (List.range 51) ad_322 en_322 := hh
  have et_322 : en_322 12 = .inr (2, [.ref (ad 1), .ref q_297, .ref q_299, .ref q_301, .ref q_303, .int 0]) := by rw [hen_322, va_up_ne _ _ (by decide)]; exact et_321
  have heta_322 : ad_322 12 = (ad 12) := by rw [had_322, va_up_ne _ _ (by decide)]; exact heta_319
  have hex1a_322 : ad_322 1 = (ad 1) := by rw [had_322, va_up_ne _ _ (by decide)]; exact hex1a_319
  have e13_322 : en_322 13 = .inl (cy 4, 9, .inr (.inr (.inr (.inr (va_up (va_up (va_up (va_up (fun _ => none) (0 : Int32).toNatClampNeg (some q_306)) (1 : Int32).toNatClampNeg (some q_310)) (2 : Int32).toNatClampNeg (some q_314)) (3 : Int32).toNatClampNeg (some q_318)))))) := by rw [hen_322, va_up_ne _ _ (by decide)]; exact e13_321
  have he13a_322 : ad_322 13 = q_297 := by rw [had_322, va_up_ne _ _ (by decide)]; exact he13a_319
  have e14_322 : en_322 14 = .inl (cy 7, 9, .inr (.inr (.inr (.inr (fun i => if i < 9 then some (r_299 i) else none))))) := by rw [hen_322, va_up_ne _ _ (by decide)]; exact e14_321
  have he14a_322 : ad_322 14 = q_299 := by rw [had_322, va_up_ne _ _ (by decide)]; exact he14a_319
  have e16_322 : en_322 16 = .inl (cy 0, 6, .inl (fun _ => 0)) := by rw [hen_322, va_up_ne _ _ (by decide)]; exact e16_321
  have he16a_322 : ad_322 16 = (r_299 1) := by rw [had_322, va_up_ne _ _ (by decide)]; exact he16a_319
  have e24_322 : en_322 24 = .inl (cy 8, 8, .inr (.inr (.inr (.inr (fun i => if i < 8 then some (r_301 i) else none))))) := by rw [hen_322, va_up_ne _ _ (by decide)]; exact e24_321
  have he24a_322 : ad_322 24 = q_301 := by rw [had_322, va_up_ne _ _ (by decide)]; exact he24a_319
  have e33_322 : en_322 33 = .inl (cy 0, 8, .inl (fun _ => 0)) := by rw [hen_322, va_up_ne _ _ (by decide)]; exact e33_321
  have he33a_322 : ad_322 33 = q_303 := by rw [had_322, va_up_ne _ _ (by decide)]; exact he33a_319
  have hew34a_322 : ad_322 34 = q_306 := by rw [had_322, va_up_ne _ _ (by decide)]; exact hew34a_319
  have hew38a_322 : ad_322 38 = q_310 := by rw [had_322, va_up_ne _ _ (by decide)]; exact hew38a_319
  have hew42a_322 : ad_322 42 = q_314 := by rw [had_322, va_up_ne _ _ (by decide)]; exact hew42a_319
  have hew46a_322 : ad_322 46 = q_318 := by rw [had_322, va_up_ne _ _ (by decide)]; exact he46a_319
  have hv_322 : ∀ j, j < 4 → en_322 (34 + 4 * j) = .inr (5, [.ref (ad_322 (35 + 4 * j)), .ref (ad_322 (36 + 4 * j)), .ref (ad_322 (37 + 4 * j)), .int 0, .int 0, .int 0, .long 0, .long 0, .long 0, .long 0]) := fun j hj => by rw [hen_322, va_up_ne _ _ (fne 34 4 50 hj (by decide)), had_322, va_up_ne _ _ (fne 35 4 50 hj (by decide)), va_up_ne _ _ (fne 36 4 50 hj (by decide)), va_up_ne _ _ (fne 37 4 50 hj (by decide))]; exact hv_321 j hj
  have e50_322 : en_322 50 = .inr (5, [.null, .null, .null, .int 0, .int 0, .int 0, .long 0, .long 0, .long 0, .long 0]) := by rw [hen_322]; exact va_up_self _ _ _
  have he50a_322 : ad_322 50 = q_322 := by rw [had_322]; exact va_up_self _ _ _
  refine W.widen (k := 38) (n := 306) (Nat.le_refl _) (Nat.le_refl _) ?_
  refine lv_dup hx hb dX2_init_66 rfl ?_
  refine W.eq (g2 := F0 m 67 ls [.ref (ad_322 50), .ref q_322, .int 4, .ref q_297]) (by rw [he50a_322]) ?_
  refine hq_callC (va_runIN (As := []) (rest := [.ref q_322, .int 4, .ref q_297]) ⟨hx, hb, hml, hown, hts⟩ (c_X6_init l D cy _ ad_322 en_322 51 50 (by decide) e50_322) (kw_X6_init hts hX.2.2.2.2.2.2.1 ⟨by decide, by decide⟩) (preC_of hh hK hX) rfl rfl hl.1 rfl (lv_room (Nat.le_of_ble_eq_true rfl)) dX2_init_67 ⟨Nat.le_of_ble_eq_true rfl, Nat.le_of_ble_eq_true rfl⟩) hh hA (fun H locs ad_323 en_323 hw_323 hh => ?_)
  have hh : Hp D A A s.heap H _ (List.range 54) ad_323 en_323 := hh
  obtain ⟨hda_323, hue_323, ew_323, ewa_323, ewb_323, ewc_323⟩ := hw_323
  dsimp only at hda_323 hue_323 ew_323 ewa_323 ewb_323 ewc_323
  have et_323 : en_323 12 = .inr (2, [.ref (ad 1), .ref q_297, .ref q_299, .ref q_301, .ref q_303, .int 0]) := by rw [hue_323 _ (by decide) (by decide)]; exact et_322
  have heta_323 : ad_323 12 = (ad 12) := by rw [hda_323 _ (by decide)]; exact heta_322
  have hex1a_323 : ad_323 1 = (ad 1) := by rw [hda_323 _ (by decide)]; exact hex1a_322
  have e13_323 : en_323 13 = .inl (cy 4, 9, .inr (.inr (.inr (.inr (va_up (va_up (va_up (va_up (fun _ => none) (0 : Int32).toNatClampNeg (some q_306)) (1 : Int32).toNatClampNeg (some q_310)) (2 : Int32).toNatClampNeg (some q_314)) (3 : Int32).toNatClampNeg (some q_318)))))) := by rw [hue_323 _ (by decide) (by decide)]; exact e13_322
  have he13a_323 : ad_323 13 = q_297 := by rw [hda_323 _ (by decide)]; exact he13a_322
  have e14_323 : en_323 14 = .inl (cy 7, 9, .inr (.inr (.inr (.inr (fun i => if i < 9 then some (r_299 i) else none))))) := by rw [hue_323 _ (by decide) (by decide)]; exact e14_322
  have he14a_323 : ad_323 14 = q_299 := by rw [hda_323 _ (by decide)]; exact he14a_322
  have e16_323 : en_323 16 = .inl (cy 0, 6, .inl (fun _ => 0)) := by rw [hue_323 _ (by decide) (by decide)]; exact e16_322
  have he16a_323 : ad_323 16 = (r_299 1) := by rw [hda_323 _ (by decide)]; exact he16a_322
  have e24_323 : en_323 24 = .inl (cy 8, 8, .inr (.inr (.inr (.inr (fun i => if i < 8 then some (r_301 i) else none))))) := by rw [hue_323 _ (by decide) (by decide)]; exact e24_322
  have he24a_323 : ad_323 24 = q_301 := by rw [hda_323 _ (by decide)]; exact he24a_322
  have e33_323 : en_323 33 = .inl (cy 0, 8, .inl (fun _ => 0)) := by rw [hue_323 _ (by decide) (by decide)]; exact e33_322
  have he33a_323 : ad_323 33 = q_303 := by rw [hda_323 _ (by decide)]; exact he33a_322
  have hew34a_323 : ad_323 34 = q_306 := by rw [hda_323 _ (by decide)]; exact hew34a_322
  have hew38a_323 : ad_323 38 = q_310 := by rw [hda_323 _ (by decide)]; exact hew38a_322
  have hew42a_323 : ad_323 42 = q_314 := by rw [hda_323 _ (by decide)]; exact hew42a_322
  have hew46a_323 : ad_323 46 = q_318 := by rw [hda_323 _ (by decide)]; exact hew46a_322
  have he50a_323 : ad_323 50 = q_322 := by rw [hda_323 _ (by decide)]; exact he50a_322
  have hv_323 : ∀ j, j < 4 → en_323 (34 + 4 * j) = .inr (5, [.ref (ad_323 (35 + 4 * j)), .ref (ad_323 (36 + 4 * j)), .ref (ad_323 (37 + 4 * j)), .int 0, .int 0, .int 0, .long 0, .long 0, .long 0, .long 0]) := fun j hj => by rw [hue_323 _ (flt 34 4 51 hj (by decide)) (fne 34 4 50 hj (by decide)), hda_323 _ (flt 35 4 51 hj (by decide)), hda_323 _ (flt 36 4 51 hj (by decide)), hda_323 _ (flt 37 4 51 hj (by decide))]; exact hv_322 j hj
  have ew50_323 := ew_323
  have hv_324 : ∀ j, j < 5 → en_323 (34 + 4 * j) = .inr (5, [.ref (ad_323 (35 + 4 * j)), .ref (ad_323 (36 + 4 * j)), .ref (ad_323 (37 + 4 * j)), .int 0, .int 0, .int 0, .long 0, .long 0, .long 0, .long 0]) := fun j hj => (Nat.lt_or_ge j 4).elim (fun h => hv_323 j h) (fun h => by have e0 : j = 4 := (by omega); subst e0; exact ew_323)
  refine W.widen (k := 41) (n := 330) (Nat.le_refl _) (Nat.le_refl _) ?_
  refine hp_astq hx hb hK hh (q := 13) (v := 50) he13a_323 (List.mem_range.mpr (by decide)) he50a_323 (List.mem_range.mpr (by decide)) e13_323 ew50_323 rfl rfl (vp_in_iff.mpr (by decide)) dX2_init_70 (fun H locs en_325 hen_325 hh => ?_)
  have et_325 : en_325 12 = .inr (2, [.ref (ad 1), .ref q_297, .ref q_299, .ref q_301, .ref q_303, .int 0]) := by rw [hen_325, va_up_ne _ _ (by decide)]; exact et_323
  have e14_325 : en_325 14 = .inl (cy 7, 9, .inr (.inr (.inr (.inr (fun i => if i < 9 then some (r_299 i) else none))))) := by rw [hen_325, va_up_ne _ _ (by decide)]; exact e14_323
  have e16_325 : en_325 16 = .inl (cy 0, 6, .inl (fun _ => 0)) := by rw [hen_325, va_up_ne _ _ (by decide)]; exact e16_323
  have e24_325 : en_325 24 = .inl (cy 8, 8, .inr (.inr (.inr (.inr (fun i => if i < 8 then some (r_301 i) else none))))) := by rw [hen_325, va_up_ne _ _ (by decide)]; exact e24_323
  have e33_325 : en_325 33 = .inl (cy 0, 8, .inl (fun _ => 0)) := by rw [hen_325, va_up_ne _ _ (by decide)]; exact e33_323
  have ew50_325 : en_325 50 = .inr (5, [.ref (ad_323 51), .ref (ad_323 52), .ref (ad_323 53), .int 0, .int 0, .int 0, .long 0, .long 0, .long 0, .long 0]) := by rw [hen_325, va_up_ne _ _ (by decide)]; exact ew50_323
  have hv_325 : ∀ j, j < 5 → en_325 (34 + 4 * j) = .inr (5, [.ref (ad_323 (35 + 4 * j)), .ref (ad_323 (36 + 4 * j)), .ref (ad_323 (37 + 4 * j)), .int 0, .int 0, .int 0, .long 0, .long 0, .long 0, .long 0]) := fun j hj => by rw [hen_325, va_up_ne _ _ (fne2 34 4 13 (by decide))]; exact hv_324 j hj
  have e13_325 : en_325 13 = .inl (cy 4, 9, .inr (.inr (.inr (.inr (va_up (va_up (va_up (va_up (va_up (fun _ => none) (0 : Int32).toNatClampNeg (some q_306)) (1 : Int32).toNatClampNeg (some q_310)) (2 : Int32).toNatClampNeg (some q_314)) (3 : Int32).toNatClampNeg (some q_318)) (4 : Int32).toNatClampNeg (some q_322)))))) := by rw [hen_325]; exact va_up_self _ _ _
  refine lv_iinc (v := 5) (lv' := [(2, .int 5), (0, .ref (ad 12)), (1, .ref (ad 1))]) hx hb dX2_init_71 hl (k := 0) rfl (by decide) (by decide) rfl (fun ls hl => ?_)
  refine lv_goto (tgt := 52) hx hb dX2_init_74 (by decide) ?_
  refine lv_iload_n hx hb dX2_init_52 rfl (lv_at hl 0 rfl) ?_
  refine lv_bipush (v := 8) hx hb dX2_init_53 (by decide) ?_
  refine lv_icmp_gt (tgt := 77) hx hb dX2_init_55 (by decide) (fun c_0 => absurd c_0 (by decide)) (fun _ => ?_)
  refine lv_aload_n hx hb dX2_init_58 rfl (lv_at hl 1 rfl) ?_
  refine hp_get hx hb hts ix2 hown hK hh (q := 12) heta_323 (List.mem_range.mpr (by decide)) et_325 rfl 1 (by decide) (hts _ tw_123) (fun _ h9 => h9) rfl dX2_init_59 ?_
  refine lv_iload_n hx hb dX2_init_62 rfl (lv_at hl 0 rfl) ?_
  refine hq_new (ci := 5) (fs := [.null, .null, .null, .int 0, .int 0, .int 0, .long 0, .long 0, .long 0, .long 0]) hx hb hts ix6 tyX6 tyX6_ok hown (hts _ tw_69) (hts _ tw_74) (hts _ tw_4) hK hh hA rfl (fun j hj => by rcases (show j = 0 ∨ j = 1 ∨ j = 2 ∨ j = 3 ∨ j = 4 ∨ j = 5 ∨ j = 6 ∨ j = 7 ∨ j = 8 ∨ j = 9 by omega) with rfl | rfl | rfl | rfl | rfl | rfl | rfl | rfl | rfl | rfl <;> rfl) (Nat.le_of_ble_eq_true rfl) (Nat.le_of_ble_eq_true rfl) dX2_init_63 (fun q_326 H ad_326 en_326 had_326 hen_326 hh => ?_)
  have hh : Hp D A A s.heap H _ (List.range 55) ad_326 en_326 := hh
  have et_326 : en_326 12 = .inr (2, [.ref (ad 1), .ref q_297, .ref q_299, .ref q_301, .ref q_303, .int 0]) := by rw [hen_326, va_up_ne _ _ (by decide)]; exact et_325
  have heta_326 : ad_326 12 = (ad 12) := by rw [had_326, va_up_ne _ _ (by decide)]; exact heta_323
  have hex1a_326 : ad_326 1 = (ad 1) := by rw [had_326, va_up_ne _ _ (by decide)]; exact hex1a_323
  have e13_326 : en_326 13 = .inl (cy 4, 9, .inr (.inr (.inr (.inr (va_up (va_up (va_up (va_up (va_up (fun _ => none) (0 : Int32).toNatClampNeg (some q_306)) (1 : Int32).toNatClampNeg (some q_310)) (2 : Int32).toNatClampNeg (some q_314)) (3 : Int32).toNatClampNeg (some q_318)) (4 : Int32).toNatClampNeg (some q_322)))))) := by rw [hen_326, va_up_ne _ _ (by decide)]; exact e13_325
  have he13a_326 : ad_326 13 = q_297 := by rw [had_326, va_up_ne _ _ (by decide)]; exact he13a_323
  have e14_326 : en_326 14 = .inl (cy 7, 9, .inr (.inr (.inr (.inr (fun i => if i < 9 then some (r_299 i) else none))))) := by rw [hen_326, va_up_ne _ _ (by decide)]; exact e14_325
  have he14a_326 : ad_326 14 = q_299 := by rw [had_326, va_up_ne _ _ (by decide)]; exact he14a_323
  have e16_326 : en_326 16 = .inl (cy 0, 6, .inl (fun _ => 0)) := by rw [hen_326, va_up_ne _ _ (by decide)]; exact e16_325
  have he16a_326 : ad_326 16 = (r_299 1) := by rw [had_326, va_up_ne _ _ (by decide)]; exact he16a_323
  have e24_326 : en_326 24 = .inl (cy 8, 8, .inr (.inr (.inr (.inr (fun i => if i < 8 then some (r_301 i) else none))))) := by rw [hen_326, va_up_ne _ _ (by decide)]; exact e24_325
  have he24a_326 : ad_326 24 = q_301 := by rw [had_326, va_up_ne _ _ (by decide)]; exact he24a_323
  have e33_326 : en_326 33 = .inl (cy 0, 8, .inl (fun _ => 0)) := by rw [hen_326, va_up_ne _ _ (by decide)]; exact e33_325
  have he33a_326 : ad_326 33 = q_303 := by rw [had_326, va_up_ne _ _ (by decide)]; exact he33a_323
  have hew34a_326 : ad_326 34 = q_306 := by rw [had_326, va_up_ne _ _ (by decide)]; exact hew34a_323
  have hew38a_326 : ad_326 38 = q_310 := by rw [had_326, va_up_ne _ _ (by decide)]; exact hew38a_323
  have hew42a_326 : ad_326 42 = q_314 := by rw [had_326, va_up_ne _ _ (by decide)]; exact hew42a_323
  have hew46a_326 : ad_326 46 = q_318 := by rw [had_326, va_up_ne _ _ (by decide)]; exact hew46a_323
  have hew50a_326 : ad_326 50 = q_322 := by rw [had_326, va_up_ne _ _ (by decide)]; exact he50a_323
  have hv_326 : ∀ j, j < 5 → en_326 (34 + 4 * j) = .inr (5, [.ref (ad_326 (35 + 4 * j)), .ref (ad_326 (36 + 4 * j)), .ref (ad_326 (37 + 4 * j)), .int 0, .int 0, .int 0, .long 0, .long 0, .long 0, .long 0]) := fun j hj => by rw [hen_326, va_up_ne _ _ (fne 34 4 54 hj (by decide)), had_326, va_up_ne _ _ (fne 35 4 54 hj (by decide)), va_up_ne _ _ (fne 36 4 54 hj (by decide)), va_up_ne _ _ (fne 37 4 54 hj (by decide))]; exact hv_325 j hj
  have e54_326 : en_326 54 = .inr (5, [.null, .null, .null, .int 0, .int 0, .int 0, .long 0, .long 0, .long 0, .long 0]) := by rw [hen_326]; exact va_up_self _ _ _
  have he54a_326 : ad_326 54 = q_326 := by rw [had_326]; exact va_up_self _ _ _
  refine W.widen (k := 42) (n := 340) (Nat.le_refl _) (Nat.le_refl _) ?_
  refine lv_dup hx hb dX2_init_66 rfl ?_
  refine W.eq (g2 := F0 m 67 ls [.ref (ad_326 54), .ref q_326, .int 5, .ref q_297]) (by rw [he54a_326]) ?_
  refine hq_callC (va_runIN (As := []) (rest := [.ref q_326, .int 5, .ref q_297]) ⟨hx, hb, hml, hown, hts⟩ (c_X6_init l D cy _ ad_326 en_326 55 54 (by decide) e54_326) (kw_X6_init hts hX.2.2.2.2.2.2.1 ⟨by decide, by decide⟩) (preC_of hh hK hX) rfl rfl hl.1 rfl (lv_room (Nat.le_of_ble_eq_true rfl)) dX2_init_67 ⟨Nat.le_of_ble_eq_true rfl, Nat.le_of_ble_eq_true rfl⟩) hh hA (fun H locs ad_327 en_327 hw_327 hh => ?_)
  have hh : Hp D A A s.heap H _ (List.range 58) ad_327 en_327 := hh
  obtain ⟨hda_327, hue_327, ew_327, ewa_327, ewb_327, ewc_327⟩ := hw_327
  dsimp only at hda_327 hue_327 ew_327 ewa_327 ewb_327 ewc_327
  have et_327 : en_327 12 = .inr (2, [.ref (ad 1), .ref q_297, .ref q_299, .ref q_301, .ref q_303, .int 0]) := by rw [hue_327 _ (by decide) (by decide)]; exact et_326
  have heta_327 : ad_327 12 = (ad 12) := by rw [hda_327 _ (by decide)]; exact heta_326
  have hex1a_327 : ad_327 1 = (ad 1) := by rw [hda_327 _ (by decide)]; exact hex1a_326
  have e13_327 : en_327 13 = .inl (cy 4, 9, .inr (.inr (.inr (.inr (va_up (va_up (va_up (va_up (va_up (fun _ => none) (0 : Int32).toNatClampNeg (some q_306)) (1 : Int32).toNatClampNeg (some q_310)) (2 : Int32).toNatClampNeg (some q_314)) (3 : Int32).toNatClampNeg (some q_318)) (4 : Int32).toNatClampNeg (some q_322)))))) := by rw [hue_327 _ (by decide) (by decide)]; exact e13_326
  have he13a_327 : ad_327 13 = q_297 := by rw [hda_327 _ (by decide)]; exact he13a_326
  have e14_327 : en_327 14 = .inl (cy 7, 9, .inr (.inr (.inr (.inr (fun i => if i < 9 then some (r_299 i) else none))))) := by rw [hue_327 _ (by decide) (by decide)]; exact e14_326
  have he14a_327 : ad_327 14 = q_299 := by rw [hda_327 _ (by decide)]; exact he14a_326
  have e16_327 : en_327 16 = .inl (cy 0, 6, .inl (fun _ => 0)) := by rw [hue_327 _ (by decide) (by decide)]; exact e16_326
  have he16a_327 : ad_327 16 = (r_299 1) := by rw [hda_327 _ (by decide)]; exact he16a_326
  have e24_327 : en_327 24 = .inl (cy 8, 8, .inr (.inr (.inr (.inr (fun i => if i < 8 then some (r_301 i) else none))))) := by rw [hue_327 _ (by decide) (by decide)]; exact e24_326
  have he24a_327 : ad_327 24 = q_301 := by rw [hda_327 _ (by decide)]; exact he24a_326
  have e33_327 : en_327 33 = .inl (cy 0, 8, .inl (fun _ => 0)) := by rw [hue_327 _ (by decide) (by decide)]; exact e33_326
  have he33a_327 : ad_327 33 = q_303 := by rw [hda_327 _ (by decide)]; exact he33a_326
  have hew34a_327 : ad_327 34 = q_306 := by rw [hda_327 _ (by decide)]; exact hew34a_326
  have hew38a_327 : ad_327 38 = q_310 := by rw [hda_327 _ (by decide)]; exact hew38a_326
  have hew42a_327 : ad_327 42 = q_314 := by rw [hda_327 _ (by decide)]; exact hew42a_326
  have hew46a_327 : ad_327 46 = q_318 := by rw [hda_327 _ (by decide)]; exact hew46a_326
  have hew50a_327 : ad_327 50 = q_322 := by rw [hda_327 _ (by decide)]; exact hew50a_326
  have he54a_327 : ad_327 54 = q_326 := by rw [hda_327 _ (by decide)]; exact he54a_326
  have hv_327 : ∀ j, j < 5 → en_327 (34 + 4 * j) = .inr (5, [.ref (ad_327 (35 + 4 * j)), .ref (ad_327 (36 + 4 * j)), .ref (ad_327 (37 + 4 * j)), .int 0, .int 0, .int 0, .long 0, .long 0, .long 0, .long 0]) := fun j hj => by rw [hue_327 _ (flt 34 4 55 hj (by decide)) (fne 34 4 54 hj (by decide)), hda_327 _ (flt 35 4 55 hj (by decide)), hda_327 _ (flt 36 4 55 hj (by decide)), hda_327 _ (flt 37 4 55 hj (by decide))]; exact hv_326 j hj
  have ew54_327 := ew_327
  have hv_328 : ∀ j, j < 6 → en_327 (34 + 4 * j) = .inr (5, [.ref (ad_327 (35 + 4 * j)), .ref (ad_327 (36 + 4 * j)), .ref (ad_327 (37 + 4 * j)), .int 0, .int 0, .int 0, .long 0, .long 0, .long 0, .long 0]) := fun j hj => (Nat.lt_or_ge j 5).elim (fun h => hv_327 j h) (fun h => by have e0 : j = 5 := (by omega); subst e0; exact ew_327)
  refine W.widen (k := 45) (n := 364) (Nat.le_refl _) (Nat.le_refl _) ?_
  refine hp_astq hx hb hK hh (q := 13) (v := 54) he13a_327 (List.mem_range.mpr (by decide)) he54a_327 (List.mem_range.mpr (by decide)) e13_327 ew54_327 rfl rfl (vp_in_iff.mpr (by decide)) dX2_init_70 (fun H locs en_329 hen_329 hh => ?_)
  have et_329 : en_329 12 = .inr (2, [.ref (ad 1), .ref q_297, .ref q_299, .ref q_301, .ref q_303, .int 0]) := by rw [hen_329, va_up_ne _ _ (by decide)]; exact et_327
  have e14_329 : en_329 14 = .inl (cy 7, 9, .inr (.inr (.inr (.inr (fun i => if i < 9 then some (r_299 i) else none))))) := by rw [hen_329, va_up_ne _ _ (by decide)]; exact e14_327
  have e16_329 : en_329 16 = .inl (cy 0, 6, .inl (fun _ => 0)) := by rw [hen_329, va_up_ne _ _ (by decide)]; exact e16_327
  have e24_329 : en_329 24 = .inl (cy 8, 8, .inr (.inr (.inr (.inr (fun i => if i < 8 then some (r_301 i) else none))))) := by rw [hen_329, va_up_ne _ _ (by decide)]; exact e24_327
  have e33_329 : en_329 33 = .inl (cy 0, 8, .inl (fun _ => 0)) := by rw [hen_329, va_up_ne _ _ (by decide)]; exact e33_327
  have ew54_329 : en_329 54 = .inr (5, [.ref (ad_327 55), .ref (ad_327 56), .ref (ad_327 57), .int 0, .int 0, .int 0, .long 0, .long 0, .long 0, .long 0]) := by rw [hen_329, va_up_ne _ _ (by decide)]; exact ew54_327
  have hv_329 : ∀ j, j < 6 → en_329 (34 + 4 * j) = .inr (5, [.ref (ad_327 (35 + 4 * j)), .ref (ad_327 (36 + 4 * j)), .ref (ad_327 (37 + 4 * j)), .int 0, .int 0, .int 0, .long 0, .long 0, .long 0, .long 0]) := fun j hj => by rw [hen_329, va_up_ne _ _ (fne2 34 4 13 (by decide))]; exact hv_328 j hj
  have e13_329 : en_329 13 = .inl (cy 4, 9, .inr (.inr (.inr (.inr (va_up (va_up (va_up (va_up (va_up (va_up (fun _ => none) (0 : Int32).toNatClampNeg (some q_306)) (1 : Int32).toNatClampNeg (some q_310)) (2 : Int32).toNatClampNeg (some q_314)) (3 : Int32).toNatClampNeg (some q_318)) (4 : Int32).toNatClampNeg (some q_322)) (5 : Int32).toNatClampNeg (some q_326)))))) := by rw [hen_329]; exact va_up_self _ _ _
  refine lv_iinc (v := 6) (lv' := [(2, .int 6), (0, .ref (ad 12)), (1, .ref (ad 1))]) hx hb dX2_init_71 hl (k := 0) rfl (by decide) (by decide) rfl (fun ls hl => ?_)
  refine lv_goto (tgt := 52) hx hb dX2_init_74 (by decide) ?_
  refine lv_iload_n hx hb dX2_init_52 rfl (lv_at hl 0 rfl) ?_
  refine lv_bipush (v := 8) hx hb dX2_init_53 (by decide) ?_
  refine lv_icmp_gt (tgt := 77) hx hb dX2_init_55 (by decide) (fun c_0 => absurd c_0 (by decide)) (fun _ => ?_)
  refine lv_aload_n hx hb dX2_init_58 rfl (lv_at hl 1 rfl) ?_
  refine hp_get hx hb hts ix2 hown hK hh (q := 12) heta_327 (List.mem_range.mpr (by decide)) et_329 rfl 1 (by decide) (hts _ tw_123) (fun _ h9 => h9) rfl dX2_init_59 ?_
  refine lv_iload_n hx hb dX2_init_62 rfl (lv_at hl 0 rfl) ?_
  refine hq_new (ci := 5) (fs := [.null, .null, .null, .int 0, .int 0, .int 0, .long 0, .long 0, .long 0, .long 0]) hx hb hts ix6 tyX6 tyX6_ok hown (hts _ tw_69) (hts _ tw_74) (hts _ tw_4) hK hh hA rfl (fun j hj => by rcases (show j = 0 ∨ j = 1 ∨ j = 2 ∨ j = 3 ∨ j = 4 ∨ j = 5 ∨ j = 6 ∨ j = 7 ∨ j = 8 ∨ j = 9 by omega) with rfl | rfl | rfl | rfl | rfl | rfl | rfl | rfl | rfl | rfl <;> rfl) (Nat.le_of_ble_eq_true rfl) (Nat.le_of_ble_eq_true rfl) dX2_init_63 (fun q_330 H ad_330 en_330 had_330 hen_330 hh => ?_)
  have hh : Hp D A A s.heap H _ (List.range 59) ad_330 en_330 := hh
  have et_330 : en_330 12 = .inr (2, [.ref (ad 1), .ref q_297, .ref q_299, .ref q_301, .ref q_303, .int 0]) := by rw [hen_330, va_up_ne _ _ (by decide)]; exact et_329
  have heta_330 : ad_330 12 = (ad 12) := by rw [had_330, va_up_ne _ _ (by decide)]; exact heta_327
  have hex1a_330 : ad_330 1 = (ad 1) := by rw [had_330, va_up_ne _ _ (by decide)]; exact hex1a_327
  have e13_330 : en_330 13 = .inl (cy 4, 9, .inr (.inr (.inr (.inr (va_up (va_up (va_up (va_up (va_up (va_up (fun _ => none) (0 : Int32).toNatClampNeg (some q_306)) (1 : Int32).toNatClampNeg (some q_310)) (2 : Int32).toNatClampNeg (some q_314)) (3 : Int32).toNatClampNeg (some q_318)) (4 : Int32).toNatClampNeg (some q_322)) (5 : Int32).toNatClampNeg (some q_326)))))) := by rw [hen_330, va_up_ne _ _ (by decide)]; exact e13_329
  have he13a_330 : ad_330 13 = q_297 := by rw [had_330, va_up_ne _ _ (by decide)]; exact he13a_327
  have e14_330 : en_330 14 = .inl (cy 7, 9, .inr (.inr (.inr (.inr (fun i => if i < 9 then some (r_299 i) else none))))) := by rw [hen_330, va_up_ne _ _ (by decide)]; exact e14_329
  have he14a_330 : ad_330 14 = q_299 := by rw [had_330, va_up_ne _ _ (by decide)]; exact he14a_327
  have e16_330 : en_330 16 = .inl (cy 0, 6, .inl (fun _ => 0)) := by rw [hen_330, va_up_ne _ _ (by decide)]; exact e16_329
  have he16a_330 : ad_330 16 = (r_299 1) := by rw [had_330, va_up_ne _ _ (by decide)]; exact he16a_327
  have e24_330 : en_330 24 = .inl (cy 8, 8, .inr (.inr (.inr (.inr (fun i => if i < 8 then some (r_301 i) else none))))) := by rw [hen_330, va_up_ne _ _ (by decide)]; exact e24_329
  have he24a_330 : ad_330 24 = q_301 := by rw [had_330, va_up_ne _ _ (by decide)]; exact he24a_327
  have e33_330 : en_330 33 = .inl (cy 0, 8, .inl (fun _ => 0)) := by rw [hen_330, va_up_ne _ _ (by decide)]; exact e33_329
  have he33a_330 : ad_330 33 = q_303 := by rw [had_330, va_up_ne _ _ (by decide)]; exact he33a_327
  have hew34a_330 : ad_330 34 = q_306 := by rw [had_330, va_up_ne _ _ (by decide)]; exact hew34a_327
  have hew38a_330 : ad_330 38 = q_310 := by rw [had_330, va_up_ne _ _ (by decide)]; exact hew38a_327
  have hew42a_330 : ad_330 42 = q_314 := by rw [had_330, va_up_ne _ _ (by decide)]; exact hew42a_327
  have hew46a_330 : ad_330 46 = q_318 := by rw [had_330, va_up_ne _ _ (by decide)]; exact hew46a_327
  have hew50a_330 : ad_330 50 = q_322 := by rw [had_330, va_up_ne _ _ (by decide)]; exact hew50a_327
  have hew54a_330 : ad_330 54 = q_326 := by rw [had_330, va_up_ne _ _ (by decide)]; exact he54a_327
  have hv_330 : ∀ j, j < 6 → en_330 (34 + 4 * j) = .inr (5, [.ref (ad_330 (35 + 4 * j)), .ref (ad_330 (36 + 4 * j)), .ref (ad_330 (37 + 4 * j)), .int 0, .int 0, .int 0, .long 0, .long 0, .long 0, .long 0]) := fun j hj => by rw [hen_330, va_up_ne _ _ (fne 34 4 58 hj (by decide)), had_330, va_up_ne _ _ (fne 35 4 58 hj (by decide)), va_up_ne _ _ (fne 36 4 58 hj (by decide)), va_up_ne _ _ (fne 37 4 58 hj (by decide))]; exact hv_329 j hj
  have e58_330 : en_330 58 = .inr (5, [.null, .null, .null, .int 0, .int 0, .int 0, .long 0, .long 0, .long 0, .long 0]) := by rw [hen_330]; exact va_up_self _ _ _
  have he58a_330 : ad_330 58 = q_330 := by rw [had_330]; exact va_up_self _ _ _
  refine W.widen (k := 46) (n := 374) (Nat.le_refl _) (Nat.le_refl _) ?_
  refine lv_dup hx hb dX2_init_66 rfl ?_
  refine W.eq (g2 := F0 m 67 ls [.ref (ad_330 58), .ref q_330, .int 6, .ref q_297]) (by rw [he58a_330]) ?_
  refine hq_callC (va_runIN (As := []) (rest := [.ref q_330, .int 6, .ref q_297]) ⟨hx, hb, hml, hown, hts⟩ (c_X6_init l D cy _ ad_330 en_330 59 58 (by decide) e58_330) (kw_X6_init hts hX.2.2.2.2.2.2.1 ⟨by decide, by decide⟩) (preC_of hh hK hX) rfl rfl hl.1 rfl (lv_room (Nat.le_of_ble_eq_true rfl)) dX2_init_67 ⟨Nat.le_of_ble_eq_true rfl, Nat.le_of_ble_eq_true rfl⟩) hh hA (fun H locs ad_331 en_331 hw_331 hh => ?_)
  have hh : Hp D A A s.heap H _ (List.range 62) ad_331 en_331 := hh
  obtain ⟨hda_331, hue_331, ew_331, ewa_331, ewb_331, ewc_331⟩ := hw_331
  dsimp only at hda_331 hue_331 ew_331 ewa_331 ewb_331 ewc_331
  have et_331 : en_331 12 = .inr (2, [.ref (ad 1), .ref q_297, .ref q_299, .ref q_301, .ref q_303, .int 0]) := by rw [hue_331 _ (by decide) (by decide)]; exact et_330
  have heta_331 : ad_331 12 = (ad 12) := by rw [hda_331 _ (by decide)]; exact heta_330
  have hex1a_331 : ad_331 1 = (ad 1) := by rw [hda_331 _ (by decide)]; exact hex1a_330
  have e13_331 : en_331 13 = .inl (cy 4, 9, .inr (.inr (.inr (.inr (va_up (va_up (va_up (va_up (va_up (va_up (fun _ => none) (0 : Int32).toNatClampNeg (some q_306)) (1 : Int32).toNatClampNeg (some q_310)) (2 : Int32).toNatClampNeg (some q_314)) (3 : Int32).toNatClampNeg (some q_318)) (4 : Int32).toNatClampNeg (some q_322)) (5 : Int32).toNatClampNeg (some q_326)))))) := by rw [hue_331 _ (by decide) (by decide)]; exact e13_330
  have he13a_331 : ad_331 13 = q_297 := by rw [hda_331 _ (by decide)]; exact he13a_330
  have e14_331 : en_331 14 = .inl (cy 7, 9, .inr (.inr (.inr (.inr (fun i => if i < 9 then some (r_299 i) else none))))) := by rw [hue_331 _ (by decide) (by decide)]; exact e14_330
  have he14a_331 : ad_331 14 = q_299 := by rw [hda_331 _ (by decide)]; exact he14a_330
  have e16_331 : en_331 16 = .inl (cy 0, 6, .inl (fun _ => 0)) := by rw [hue_331 _ (by decide) (by decide)]; exact e16_330
  have he16a_331 : ad_331 16 = (r_299 1) := by rw [hda_331 _ (by decide)]; exact he16a_330
  have e24_331 : en_331 24 = .inl (cy 8, 8, .inr (.inr (.inr (.inr (fun i => if i < 8 then some (r_301 i) else none))))) := by rw [hue_331 _ (by decide) (by decide)]; exact e24_330
  have he24a_331 : ad_331 24 = q_301 := by rw [hda_331 _ (by decide)]; exact he24a_330
  have e33_331 : en_331 33 = .inl (cy 0, 8, .inl (fun _ => 0)) := by rw [hue_331 _ (by decide) (by decide)]; exact e33_330
  have he33a_331 : ad_331 33 = q_303 := by rw [hda_331 _ (by decide)]; exact he33a_330
  have hew34a_331 : ad_331 34 = q_306 := by rw [hda_331 _ (by decide)]; exact hew34a_330
  have hew38a_331 : ad_331 38 = q_310 := by rw [hda_331 _ (by decide)]; exact hew38a_330
  have hew42a_331 : ad_331 42 = q_314 := by rw [hda_331 _ (by decide)]; exact hew42a_330
  have hew46a_331 : ad_331 46 = q_318 := by rw [hda_331 _ (by decide)]; exact hew46a_330
  have hew50a_331 : ad_331 50 = q_322 := by rw [hda_331 _ (by decide)]; exact hew50a_330
  have hew54a_331 : ad_331 54 = q_326 := by rw [hda_331 _ (by decide)]; exact hew54a_330
  have he58a_331 : ad_331 58 = q_330 := by rw [hda_331 _ (by decide)]; exact he58a_330
  have hv_331 : ∀ j, j < 6 → en_331 (34 + 4 * j) = .inr (5, [.ref (ad_331 (35 + 4 * j)), .ref (ad_331 (36 + 4 * j)), .ref (ad_331 (37 + 4 * j)), .int 0, .int 0, .int 0, .long 0, .long 0, .long 0, .long 0]) := fun j hj => by rw [hue_331 _ (flt 34 4 59 hj (by decide)) (fne 34 4 58 hj (by decide)), hda_331 _ (flt 35 4 59 hj (by decide)), hda_331 _ (flt 36 4 59 hj (by decide)), hda_331 _ (flt 37 4 59 hj (by decide))]; exact hv_330 j hj
  have ew58_331 := ew_331
  have hv_332 : ∀ j, j < 7 → en_331 (34 + 4 * j) = .inr (5, [.ref (ad_331 (35 + 4 * j)), .ref (ad_331 (36 + 4 * j)), .ref (ad_331 (37 + 4 * j)), .int 0, .int 0, .int 0, .long 0, .long 0, .long 0, .long 0]) := fun j hj => (Nat.lt_or_ge j 6).elim (fun h => hv_331 j h) (fun h => by have e0 : j = 6 := (by omega); subst e0; exact ew_331)
  refine W.widen (k := 49) (n := 398) (Nat.le_refl _) (Nat.le_refl _) ?_
  refine hp_astq hx hb hK hh (q := 13) (v := 58) he13a_331 (List.mem_range.mpr (by decide)) he58a_331 (List.mem_range.mpr (by decide)) e13_331 ew58_331 rfl rfl (vp_in_iff.mpr (by decide)) dX2_init_70 (fun H locs en_333 hen_333 hh => ?_)
  have et_333 : en_333 12 = .inr (2, [.ref (ad 1), .ref q_297, .ref q_299, .ref q_301, .ref q_303, .int 0]) := by rw [hen_333, va_up_ne _ _ (by decide)]; exact et_331
  have e14_333 : en_333 14 = .inl (cy 7, 9, .inr (.inr (.inr (.inr (fun i => if i < 9 then some (r_299 i) else none))))) := by rw [hen_333, va_up_ne _ _ (by decide)]; exact e14_331
  have e16_333 : en_333 16 = .inl (cy 0, 6, .inl (fun _ => 0)) := by rw [hen_333, va_up_ne _ _ (by decide)]; exact e16_331
  have e24_333 : en_333 24 = .inl (cy 8, 8, .inr (.inr (.inr (.inr (fun i => if i < 8 then some (r_301 i) else none))))) := by rw [hen_333, va_up_ne _ _ (by decide)]; exact e24_331
  have e33_333 : en_333 33 = .inl (cy 0, 8, .inl (fun _ => 0)) := by rw [hen_333, va_up_ne _ _ (by decide)]; exact e33_331
  have ew58_333 : en_333 58 = .inr (5, [.ref (ad_331 59), .ref (ad_331 60), .ref (ad_331 61), .int 0, .int 0, .int 0, .long 0, .long 0, .long 0, .long 0]) := by rw [hen_333, va_up_ne _ _ (by decide)]; exact ew58_331
  have hv_333 : ∀ j, j < 7 → en_333 (34 + 4 * j) = .inr (5, [.ref (ad_331 (35 + 4 * j)), .ref (ad_331 (36 + 4 * j)), .ref (ad_331 (37 + 4 * j)), .int 0, .int 0, .int 0, .long 0, .long 0, .long 0, .long 0]) := fun j hj => by rw [hen_333, va_up_ne _ _ (fne2 34 4 13 (by decide))]; exact hv_332 j hj
  have e13_333 : en_333 13 = .inl (cy 4, 9, .inr (.inr (.inr (.inr (va_up (va_up (va_up (va_up (va_up (va_up (va_up (fun _ => none) (0 : Int32).toNatClampNeg (some q_306)) (1 : Int32).toNatClampNeg (some q_310)) (2 : Int32).toNatClampNeg (some q_314)) (3 : Int32).toNatClampNeg (some q_318)) (4 : Int32).toNatClampNeg (some q_322)) (5 : Int32).toNatClampNeg (some q_326)) (6 : Int32).toNatClampNeg (some q_330)))))) := by rw [hen_333]; exact va_up_self _ _ _
  refine lv_iinc (v := 7) (lv' := [(2, .int 7), (0, .ref (ad 12)), (1, .ref (ad 1))]) hx hb dX2_init_71 hl (k := 0) rfl (by decide) (by decide) rfl (fun ls hl => ?_)
  refine lv_goto (tgt := 52) hx hb dX2_init_74 (by decide) ?_
  refine lv_iload_n hx hb dX2_init_52 rfl (lv_at hl 0 rfl) ?_
  refine lv_bipush (v := 8) hx hb dX2_init_53 (by decide) ?_
  refine lv_icmp_gt (tgt := 77) hx hb dX2_init_55 (by decide) (fun c_0 => absurd c_0 (by decide)) (fun _ => ?_)
  refine lv_aload_n hx hb dX2_init_58 rfl (lv_at hl 1 rfl) ?_
  refine hp_get hx hb hts ix2 hown hK hh (q := 12) heta_331 (List.mem_range.mpr (by decide)) et_333 rfl 1 (by decide) (hts _ tw_123) (fun _ h9 => h9) rfl dX2_init_59 ?_
  refine lv_iload_n hx hb dX2_init_62 rfl (lv_at hl 0 rfl) ?_
  refine hq_new (ci := 5) (fs := [.null, .null, .null, .int 0, .int 0, .int 0, .long 0, .long 0, .long 0, .long 0]) hx hb hts ix6 tyX6 tyX6_ok hown (hts _ tw_69) (hts _ tw_74) (hts _ tw_4) hK hh hA rfl (fun j hj => by rcases (show j = 0 ∨ j = 1 ∨ j = 2 ∨ j = 3 ∨ j = 4 ∨ j = 5 ∨ j = 6 ∨ j = 7 ∨ j = 8 ∨ j = 9 by omega) with rfl | rfl | rfl | rfl | rfl | rfl | rfl | rfl | rfl | rfl <;> rfl) (Nat.le_of_ble_eq_true rfl) (Nat.le_of_ble_eq_true rfl) dX2_init_63 (fun q_334 H ad_334 en_334 had_334 hen_334 hh => ?_)
  have hh : Hp D A A s.heap H _ (List.range 63) ad_334 en_334 := hh
  have et_334 : en_334 12 = .inr (2, [.ref (ad 1), .ref q_297, .ref q_299, .ref q_301, .ref q_303, .int 0]) := by rw [hen_334, va_up_ne _ _ (by decide)]; exact et_333
  have heta_334 : ad_334 12 = (ad 12) := by rw [had_334, va_up_ne _ _ (by decide)]; exact heta_331
  have hex1a_334 : ad_334 1 = (ad 1) := by rw [had_334, va_up_ne _ _ (by decide)]; exact hex1a_331
  have e13_334 : en_334 13 = .inl (cy 4, 9, .inr (.inr (.inr (.inr (va_up (va_up (va_up (va_up (va_up (va_up (va_up (fun _ => none) (0 : Int32).toNatClampNeg (some q_306)) (1 : Int32).toNatClampNeg (some q_310)) (2 : Int32).toNatClampNeg (some q_314)) (3 : Int32).toNatClampNeg (some q_318)) (4 : Int32).toNatClampNeg (some q_322)) (5 : Int32).toNatClampNeg (some q_326)) (6 : Int32).toNatClampNeg (some q_330)))))) := by rw [hen_334, va_up_ne _ _ (by decide)]; exact e13_333
  have he13a_334 : ad_334 13 = q_297 := by rw [had_334, va_up_ne _ _ (by decide)]; exact he13a_331
  have e14_334 : en_334 14 = .inl (cy 7, 9, .inr (.inr (.inr (.inr (fun i => if i < 9 then some (r_299 i) else none))))) := by rw [hen_334, va_up_ne _ _ (by decide)]; exact e14_333
  have he14a_334 : ad_334 14 = q_299 := by rw [had_334, va_up_ne _ _ (by decide)]; exact he14a_331
  have e16_334 : en_334 16 = .inl (cy 0, 6, .inl (fun _ => 0)) := by rw [hen_334, va_up_ne _ _ (by decide)]; exact e16_333
  have he16a_334 : ad_334 16 = (r_299 1) := by rw [had_334, va_up_ne _ _ (by decide)]; exact he16a_331
  have e24_334 : en_334 24 = .inl (cy 8, 8, .inr (.inr (.inr (.inr (fun i => if i < 8 then some (r_301 i) else none))))) := by rw [hen_334, va_up_ne _ _ (by decide)]; exact e24_333
  have he24a_334 : ad_334 24 = q_301 := by rw [had_334, va_up_ne _ _ (by decide)]; exact he24a_331
  have e33_334 : en_334 33 = .inl (cy 0, 8, .inl (fun _ => 0)) := by rw [hen_334, va_up_ne _ _ (by decide)]; exact e33_333
  have he33a_334 : ad_334 33 = q_303 := by rw [had_334, va_up_ne _ _ (by decide)]; exact he33a_331
  have hew34a_334 : ad_334 34 = q_306 := by rw [had_334, va_up_ne _ _ (by decide)]; exact hew34a_331
  have hew38a_334 : ad_334 38 = q_310 := by rw [had_334, va_up_ne _ _ (by decide)]; exact hew38a_331
  have hew42a_334 : ad_334 42 = q_314 := by rw [had_334, va_up_ne _ _ (by decide)]; exact hew42a_331
  have hew46a_334 : ad_334 46 = q_318 := by rw [had_334, va_up_ne _ _ (by decide)]; exact hew46a_331
  have hew50a_334 : ad_334 50 = q_322 := by rw [had_334, va_up_ne _ _ (by decide)]; exact hew50a_331
  have hew54a_334 : ad_334 54 = q_326 := by rw [had_334, va_up_ne _ _ (by decide)]; exact hew54a_331
  have hew58a_334 : ad_334 58 = q_330 := by rw [had_334, va_up_ne _ _ (by decide)]; exact he58a_331
  have hv_334 : ∀ j, j < 7 → en_334 (34 + 4 * j) = .inr (5, [.ref (ad_334 (35 + 4 * j)), .ref (ad_334 (36 + 4 * j)), .ref (ad_334 (37 + 4 * j)), .int 0, .int 0, .int 0, .long 0, .long 0, .long 0, .long 0]) := fun j hj => by rw [hen_334, va_up_ne _ _ (fne 34 4 62 hj (by decide)), had_334, va_up_ne _ _ (fne 35 4 62 hj (by decide)), va_up_ne _ _ (fne 36 4 62 hj (by decide)), va_up_ne _ _ (fne 37 4 62 hj (by decide))]; exact hv_333 j hj
  have e62_334 : en_334 62 = .inr (5, [.null, .null, .null, .int 0, .int 0, .int 0, .long 0, .long 0, .long 0, .long 0]) := by rw [hen_334]; exact va_up_self _ _ _
  have he62a_334 : ad_334 62 = q_334 := by rw [had_334]; exact va_up_self _ _ _
  refine W.widen (k := 50) (n := 408) (Nat.le_refl _) (Nat.le_refl _) ?_
  refine lv_dup hx hb dX2_init_66 rfl ?_
  refine W.eq (g2 := F0 m 67 ls [.ref (ad_334 62), .ref q_334, .int 7, .ref q_297]) (by rw [he62a_334]) ?_
  refine hq_callC (va_runIN (As := []) (rest := [.ref q_334, .int 7, .ref q_297]) ⟨hx, hb, hml, hown, hts⟩ (c_X6_init l D cy _ ad_334 en_334 63 62 (by decide) e62_334) (kw_X6_init hts hX.2.2.2.2.2.2.1 ⟨by decide, by decide⟩) (preC_of hh hK hX) rfl rfl hl.1 rfl (lv_room (Nat.le_of_ble_eq_true rfl)) dX2_init_67 ⟨Nat.le_of_ble_eq_true rfl, Nat.le_of_ble_eq_true rfl⟩) hh hA (fun H locs ad_335 en_335 hw_335 hh => ?_)
  have hh : Hp D A A s.heap H _ (List.range 66) ad_335 en_335 := hh
  obtain ⟨hda_335, hue_335, ew_335, ewa_335, ewb_335, ewc_335⟩ := hw_335
  dsimp only at hda_335 hue_335 ew_335 ewa_335 ewb_335 ewc_335
  have et_335 : en_335 12 = .inr (2, [.ref (ad 1), .ref q_297, .ref q_299, .ref q_301, .ref q_303, .int 0]) := by rw [hue_335 _ (by decide) (by decide)]; exact et_334
  have heta_335 : ad_335 12 = (ad 12) := by rw [hda_335 _ (by decide)]; exact heta_334
  have hex1a_335 : ad_335 1 = (ad 1) := by rw [hda_335 _ (by decide)]; exact hex1a_334
  have e13_335 : en_335 13 = .inl (cy 4, 9, .inr (.inr (.inr (.inr (va_up (va_up (va_up (va_up (va_up (va_up (va_up (fun _ => none) (0 : Int32).toNatClampNeg (some q_306)) (1 : Int32).toNatClampNeg (some q_310)) (2 : Int32).toNatClampNeg (some q_314)) (3 : Int32).toNatClampNeg (some q_318)) (4 : Int32).toNatClampNeg (some q_322)) (5 : Int32).toNatClampNeg (some q_326)) (6 : Int32).toNatClampNeg (some q_330)))))) := by rw [hue_335 _ (by decide) (by decide)]; exact e13_334
  have he13a_335 : ad_335 13 = q_297 := by rw [hda_335 _ (by decide)]; exact he13a_334
  have e14_335 : en_335 14 = .inl (cy 7, 9, .inr (.inr (.inr (.inr (fun i => if i < 9 then some (r_299 i) else none))))) := by rw [hue_335 _ (by decide) (by decide)]; exact e14_334
  have he14a_335 : ad_335 14 = q_299 := by rw [hda_335 _ (by decide)]; exact he14a_334
  have e16_335 : en_335 16 = .inl (cy 0, 6, .inl (fun _ => 0)) := by rw [hue_335 _ (by decide) (by decide)]; exact e16_334
  have he16a_335 : ad_335 16 = (r_299 1) := by rw [hda_335 _ (by decide)]; exact he16a_334
  have e24_335 : en_335 24 = .inl (cy 8, 8, .inr (.inr (.inr (.inr (fun i => if i < 8 then some (r_301 i) else none))))) := by rw [hue_335 _ (by decide) (by decide)]; exact e24_334
  have he24a_335 : ad_335 24 = q_301 := by rw [hda_335 _ (by decide)]; exact he24a_334
  have e33_335 : en_335 33 = .inl (cy 0, 8, .inl (fun _ => 0)) := by rw [hue_335 _ (by decide) (by decide)]; exact e33_334
  have he33a_335 : ad_335 33 = q_303 := by rw [hda_335 _ (by decide)]; exact he33a_334
  have hew34a_335 : ad_335 34 = q_306 := by rw [hda_335 _ (by decide)]; exact hew34a_334
  have hew38a_335 : ad_335 38 = q_310 := by rw [hda_335 _ (by decide)]; exact hew38a_334
  have hew42a_335 : ad_335 42 = q_314 := by rw [hda_335 _ (by decide)]; exact hew42a_334
  have hew46a_335 : ad_335 46 = q_318 := by rw [hda_335 _ (by decide)]; exact hew46a_334
  have hew50a_335 : ad_335 50 = q_322 := by rw [hda_335 _ (by decide)]; exact hew50a_334
  have hew54a_335 : ad_335 54 = q_326 := by rw [hda_335 _ (by decide)]; exact hew54a_334
  have hew58a_335 : ad_335 58 = q_330 := by rw [hda_335 _ (by decide)]; exact hew58a_334
  have he62a_335 : ad_335 62 = q_334 := by rw [hda_335 _ (by decide)]; exact he62a_334
  have hv_335 : ∀ j, j < 7 → en_335 (34 + 4 * j) = .inr (5, [.ref (ad_335 (35 + 4 * j)), .ref (ad_335 (36 + 4 * j)), .ref (ad_335 (37 + 4 * j)), .int 0, .int 0, .int 0, .long 0, .long 0, .long 0, .long 0]) := fun j hj => by rw [hue_335 _ (flt 34 4 63 hj (by decide)) (fne 34 4 62 hj (by decide)), hda_335 _ (flt 35 4 63 hj (by decide)), hda_335 _ (flt 36 4 63 hj (by decide)), hda_335 _ (flt 37 4 63 hj (by decide))]; exact hv_334 j hj
  have ew62_335 := ew_335
  have hv_336 : ∀ j, j < 8 → en_335 (34 + 4 * j) = .inr (5, [.ref (ad_335 (35 + 4 * j)), .ref (ad_335 (36 + 4 * j)), .ref (ad_335 (37 + 4 * j)), .int 0, .int 0, .int 0, .long 0, .long 0, .long 0, .long 0]) := fun j hj => (Nat.lt_or_ge j 7).elim (fun h => hv_335 j h) (fun h => by have e0 : j = 7 := (by omega); subst e0; exact ew_335)
  refine W.widen (k := 53) (n := 432) (Nat.le_refl _) (Nat.le_refl _) ?_
  refine hp_astq hx hb hK hh (q := 13) (v := 62) he13a_335 (List.mem_range.mpr (by decide)) he62a_335 (List.mem_range.mpr (by decide)) e13_335 ew62_335 rfl rfl (vp_in_iff.mpr (by decide)) dX2_init_70 (fun H locs en_337 hen_337 hh => ?_)
  have et_337 : en_337 12 = .inr (2, [.ref (ad 1), .ref q_297, .ref q_299, .ref q_301, .ref q_303, .int 0]) := by rw [hen_337, va_up_ne _ _ (by decide)]; exact et_335
  have e14_337 : en_337 14 = .inl (cy 7, 9, .inr (.inr (.inr (.inr (fun i => if i < 9 then some (r_299 i) else none))))) := by rw [hen_337, va_up_ne _ _ (by decide)]; exact e14_335
  have e16_337 : en_337 16 = .inl (cy 0, 6, .inl (fun _ => 0)) := by rw [hen_337, va_up_ne _ _ (by decide)]; exact e16_335
  have e24_337 : en_337 24 = .inl (cy 8, 8, .inr (.inr (.inr (.inr (fun i => if i < 8 then some (r_301 i) else none))))) := by rw [hen_337, va_up_ne _ _ (by decide)]; exact e24_335
  have e33_337 : en_337 33 = .inl (cy 0, 8, .inl (fun _ => 0)) := by rw [hen_337, va_up_ne _ _ (by decide)]; exact e33_335
  have ew62_337 : en_337 62 = .inr (5, [.ref (ad_335 63), .ref (ad_335 64), .ref (ad_335 65), .int 0, .int 0, .int 0, .long 0, .long 0, .long 0, .long 0]) := by rw [hen_337, va_up_ne _ _ (by decide)]; exact ew62_335
  have hv_337 : ∀ j, j < 8 → en_337 (34 + 4 * j) = .inr (5, [.ref (ad_335 (35 + 4 * j)), .ref (ad_335 (36 + 4 * j)), .ref (ad_335 (37 + 4 * j)), .int 0, .int 0, .int 0, .long 0, .long 0, .long 0, .long 0]) := fun j hj => by rw [hen_337, va_up_ne _ _ (fne2 34 4 13 (by decide))]; exact hv_336 j hj
  have e13_337 : en_337 13 = .inl (cy 4, 9, .inr (.inr (.inr (.inr (va_up (va_up (va_up (va_up (va_up (va_up (va_up (va_up (fun _ => none) (0 : Int32).toNatClampNeg (some q_306)) (1 : Int32).toNatClampNeg (some q_310)) (2 : Int32).toNatClampNeg (some q_314)) (3 : Int32).toNatClampNeg (some q_318)) (4 : Int32).toNatClampNeg (some q_322)) (5 : Int32).toNatClampNeg (some q_326)) (6 : Int32).toNatClampNeg (some q_330)) (7 : Int32).toNatClampNeg (some q_334)))))) := by rw [hen_337]; exact va_up_self _ _ _
  refine lv_iinc (v := 8) (lv' := [(2, .int 8), (0, .ref (ad 12)), (1, .ref (ad 1))]) hx hb dX2_init_71 hl (k := 0) rfl (by decide) (by decide) rfl (fun ls hl => ?_)
  refine lv_goto (tgt := 52) hx hb dX2_init_74 (by decide) ?_
  refine lv_iload_n hx hb dX2_init_52 rfl (lv_at hl 0 rfl) ?_
  refine lv_bipush (v := 8) hx hb dX2_init_53 (by decide) ?_
  refine lv_icmp_gt (tgt := 77) hx hb dX2_init_55 (by decide) (fun c_0 => absurd c_0 (by decide)) (fun _ => ?_)
  refine lv_aload_n hx hb dX2_init_58 rfl (lv_at hl 1 rfl) ?_
  refine hp_get hx hb hts ix2 hown hK hh (q := 12) heta_335 (List.mem_range.mpr (by decide)) et_337 rfl 1 (by decide) (hts _ tw_123) (fun _ h9 => h9) rfl dX2_init_59 ?_
  refine lv_iload_n hx hb dX2_init_62 rfl (lv_at hl 0 rfl) ?_
  refine hq_new (ci := 5) (fs := [.null, .null, .null, .int 0, .int 0, .int 0, .long 0, .long 0, .long 0, .long 0]) hx hb hts ix6 tyX6 tyX6_ok hown (hts _ tw_69) (hts _ tw_74) (hts _ tw_4) hK hh hA rfl (fun j hj => by rcases (show j = 0 ∨ j = 1 ∨ j = 2 ∨ j = 3 ∨ j = 4 ∨ j = 5 ∨ j = 6 ∨ j = 7 ∨ j = 8 ∨ j = 9 by omega) with rfl | rfl | rfl | rfl | rfl | rfl | rfl | rfl | rfl | rfl <;> rfl) (Nat.le_of_ble_eq_true rfl) (Nat.le_of_ble_eq_true rfl) dX2_init_63 (fun q_338 H ad_338 en_338 had_338 hen_338 hh => ?_)
  have hh : Hp D A A s.heap H _ (List.range 67) ad_338 en_338 := hh
  have et_338 : en_338 12 = .inr (2, [.ref (ad 1), .ref q_297, .ref q_299, .ref q_301, .ref q_303, .int 0]) := by rw [hen_338, va_up_ne _ _ (by decide)]; exact et_337
  have heta_338 : ad_338 12 = (ad 12) := by rw [had_338, va_up_ne _ _ (by decide)]; exact heta_335
  have hex1a_338 : ad_338 1 = (ad 1) := by rw [had_338, va_up_ne _ _ (by decide)]; exact hex1a_335
  have e13_338 : en_338 13 = .inl (cy 4, 9, .inr (.inr (.inr (.inr (va_up (va_up (va_up (va_up (va_up (va_up (va_up (va_up (fun _ => none) (0 : Int32).toNatClampNeg (some q_306)) (1 : Int32).toNatClampNeg (some q_310)) (2 : Int32).toNatClampNeg (some q_314)) (3 : Int32).toNatClampNeg (some q_318)) (4 : Int32).toNatClampNeg (some q_322)) (5 : Int32).toNatClampNeg (some q_326)) (6 : Int32).toNatClampNeg (some q_330)) (7 : Int32).toNatClampNeg (some q_334)))))) := by rw [hen_338, va_up_ne _ _ (by decide)]; exact e13_337
  have he13a_338 : ad_338 13 = q_297 := by rw [had_338, va_up_ne _ _ (by decide)]; exact he13a_335
  have e14_338 : en_338 14 = .inl (cy 7, 9, .inr (.inr (.inr (.inr (fun i => if i < 9 then some (r_299 i) else none))))) := by rw [hen_338, va_up_ne _ _ (by decide)]; exact e14_337
  have he14a_338 : ad_338 14 = q_299 := by rw [had_338, va_up_ne _ _ (by decide)]; exact he14a_335
  have e16_338 : en_338 16 = .inl (cy 0, 6, .inl (fun _ => 0)) := by rw [hen_338, va_up_ne _ _ (by decide)]; exact e16_337
  have he16a_338 : ad_338 16 = (r_299 1) := by rw [had_338, va_up_ne _ _ (by decide)]; exact he16a_335
  have e24_338 : en_338 24 = .inl (cy 8, 8, .inr (.inr (.inr (.inr (fun i => if i < 8 then some (r_301 i) else none))))) := by rw [hen_338, va_up_ne _ _ (by decide)]; exact e24_337
  have he24a_338 : ad_338 24 = q_301 := by rw [had_338, va_up_ne _ _ (by decide)]; exact he24a_335
  have e33_338 : en_338 33 = .inl (cy 0, 8, .inl (fun _ => 0)) := by rw [hen_338, va_up_ne _ _ (by decide)]; exact e33_337
  have he33a_338 : ad_338 33 = q_303 := by rw [had_338, va_up_ne _ _ (by decide)]; exact he33a_335
  have hew34a_338 : ad_338 34 = q_306 := by rw [had_338, va_up_ne _ _ (by decide)]; exact hew34a_335
  have hew38a_338 : ad_338 38 = q_310 := by rw [had_338, va_up_ne _ _ (by decide)]; exact hew38a_335
  have hew42a_338 : ad_338 42 = q_314 := by rw [had_338, va_up_ne _ _ (by decide)]; exact hew42a_335
  have hew46a_338 : ad_338 46 = q_318 := by rw [had_338, va_up_ne _ _ (by decide)]; exact hew46a_335
  have hew50a_338 : ad_338 50 = q_322 := by rw [had_338, va_up_ne _ _ (by decide)]; exact hew50a_335
  have hew54a_338 : ad_338 54 = q_326 := by rw [had_338, va_up_ne _ _ (by decide)]; exact hew54a_335
  have hew58a_338 : ad_338 58 = q_330 := by rw [had_338, va_up_ne _ _ (by decide)]; exact hew58a_335
  have hew62a_338 : ad_338 62 = q_334 := by rw [had_338, va_up_ne _ _ (by decide)]; exact he62a_335
  have hv_338 : ∀ j, j < 8 → en_338 (34 + 4 * j) = .inr (5, [.ref (ad_338 (35 + 4 * j)), .ref (ad_338 (36 + 4 * j)), .ref (ad_338 (37 + 4 * j)), .int 0, .int 0, .int 0, .long 0, .long 0, .long 0, .long 0]) := fun j hj => by rw [hen_338, va_up_ne _ _ (fne 34 4 66 hj (by decide)), had_338, va_up_ne _ _ (fne 35 4 66 hj (by decide)), va_up_ne _ _ (fne 36 4 66 hj (by decide)), va_up_ne _ _ (fne 37 4 66 hj (by decide))]; exact hv_337 j hj
  have e66_338 : en_338 66 = .inr (5, [.null, .null, .null, .int 0, .int 0, .int 0, .long 0, .long 0, .long 0, .long 0]) := by rw [hen_338]; exact va_up_self _ _ _
  have he66a_338 : ad_338 66 = q_338 := by rw [had_338]; exact va_up_self _ _ _
  refine W.widen (k := 54) (n := 442) (Nat.le_refl _) (Nat.le_refl _) ?_
  refine lv_dup hx hb dX2_init_66 rfl ?_
  refine W.eq (g2 := F0 m 67 ls [.ref (ad_338 66), .ref q_338, .int 8, .ref q_297]) (by rw [he66a_338]) ?_
  refine hq_callC (va_runIN (As := []) (rest := [.ref q_338, .int 8, .ref q_297]) ⟨hx, hb, hml, hown, hts⟩ (c_X6_init l D cy _ ad_338 en_338 67 66 (by decide) e66_338) (kw_X6_init hts hX.2.2.2.2.2.2.1 ⟨by decide, by decide⟩) (preC_of hh hK hX) rfl rfl hl.1 rfl (lv_room (Nat.le_of_ble_eq_true rfl)) dX2_init_67 ⟨Nat.le_of_ble_eq_true rfl, Nat.le_of_ble_eq_true rfl⟩) hh hA (fun H locs ad_339 en_339 hw_339 hh => ?_)
  have hh : Hp D A A s.heap H _ (List.range 70) ad_339 en_339 := hh
  obtain ⟨hda_339, hue_339, ew_339, ewa_339, ewb_339, ewc_339⟩ := hw_339
  dsimp only at hda_339 hue_339 ew_339 ewa_339 ewb_339 ewc_339
  have et_339 : en_339 12 = .inr (2, [.ref (ad 1), .ref q_297, .ref q_299, .ref q_301, .ref q_303, .int 0]) := by rw [hue_339 _ (by decide) (by decide)]; exact et_338
  have heta_339 : ad_339 12 = (ad 12) := by rw [hda_339 _ (by decide)]; exact heta_338
  have hex1a_339 : ad_339 1 = (ad 1) := by rw [hda_339 _ (by decide)]; exact hex1a_338
  have e13_339 : en_339 13 = .inl (cy 4, 9, .inr (.inr (.inr (.inr (va_up (va_up (va_up (va_up (va_up (va_up (va_up (va_up (fun _ => none) (0 : Int32).toNatClampNeg (some q_306)) (1 : Int32).toNatClampNeg (some q_310)) (2 : Int32).toNatClampNeg (some q_314)) (3 : Int32).toNatClampNeg (some q_318)) (4 : Int32).toNatClampNeg (some q_322)) (5 : Int32).toNatClampNeg (some q_326)) (6 : Int32).toNatClampNeg (some q_330)) (7 : Int32).toNatClampNeg (some q_334)))))) := by rw [hue_339 _ (by decide) (by decide)]; exact e13_338
  have he13a_339 : ad_339 13 = q_297 := by rw [hda_339 _ (by decide)]; exact he13a_338
  have e14_339 : en_339 14 = .inl (cy 7, 9, .inr (.inr (.inr (.inr (fun i => if i < 9 then some (r_299 i) else none))))) := by rw [hue_339 _ (by decide) (by decide)]; exact e14_338
  have he14a_339 : ad_339 14 = q_299 := by rw [hda_339 _ (by decide)]; exact he14a_338
  have e16_339 : en_339 16 = .inl (cy 0, 6, .inl (fun _ => 0)) := by rw [hue_339 _ (by decide) (by decide)]; exact e16_338
  have he16a_339 : ad_339 16 = (r_299 1) := by rw [hda_339 _ (by decide)]; exact he16a_338
  have e24_339 : en_339 24 = .inl (cy 8, 8, .inr (.inr (.inr (.inr (fun i => if i < 8 then some (r_301 i) else none))))) := by rw [hue_339 _ (by decide) (by decide)]; exact e24_338
  have he24a_339 : ad_339 24 = q_301 := by rw [hda_339 _ (by decide)]; exact he24a_338
  have e33_339 : en_339 33 = .inl (cy 0, 8, .inl (fun _ => 0)) := by rw [hue_339 _ (by decide) (by decide)]; exact e33_338
  have he33a_339 : ad_339 33 = q_303 := by rw [hda_339 _ (by decide)]; exact he33a_338
  have hew34a_339 : ad_339 34 = q_306 := by rw [hda_339 _ (by decide)]; exact hew34a_338
  have hew38a_339 : ad_339 38 = q_310 := by rw [hda_339 _ (by decide)]; exact hew38a_338
  have hew42a_339 : ad_339 42 = q_314 := by rw [hda_339 _ (by decide)]; exact hew42a_338
  have hew46a_339 : ad_339 46 = q_318 := by rw [hda_339 _ (by decide)]; exact hew46a_338
  have hew50a_339 : ad_339 50 = q_322 := by rw [hda_339 _ (by decide)]; exact hew50a_338
  have hew54a_339 : ad_339 54 = q_326 := by rw [hda_339 _ (by decide)]; exact hew54a_338
  have hew58a_339 : ad_339 58 = q_330 := by rw [hda_339 _ (by decide)]; exact hew58a_338
  have hew62a_339 : ad_339 62 = q_334 := by rw [hda_339 _ (by decide)]; exact hew62a_338
  have he66a_339 : ad_339 66 = q_338 := by rw [hda_339 _ (by decide)]; exact he66a_338
  have hv_339 : ∀ j, j < 8 → en_339 (34 + 4 * j) = .inr (5, [.ref (ad_339 (35 + 4 * j)), .ref (ad_339 (36 + 4 * j)), .ref (ad_339 (37 + 4 * j)), .int 0, .int 0, .int 0, .long 0, .long 0, .long 0, .long 0]) := fun j hj => by rw [hue_339 _ (flt 34 4 67 hj (by decide)) (fne 34 4 66 hj (by decide)), hda_339 _ (flt 35 4 67 hj (by decide)), hda_339 _ (flt 36 4 67 hj (by decide)), hda_339 _ (flt 37 4 67 hj (by decide))]; exact hv_338 j hj
  have ew66_339 := ew_339
  have hv_340 : ∀ j, j < 9 → en_339 (34 + 4 * j) = .inr (5, [.ref (ad_339 (35 + 4 * j)), .ref (ad_339 (36 + 4 * j)), .ref (ad_339 (37 + 4 * j)), .int 0, .int 0, .int 0, .long 0, .long 0, .long 0, .long 0]) := fun j hj => (Nat.lt_or_ge j 8).elim (fun h => hv_339 j h) (fun h => by have e0 : j = 8 := (by omega); subst e0; exact ew_339)
  refine W.widen (k := 57) (n := 466) (Nat.le_refl _) (Nat.le_refl _) ?_
  refine hp_astq hx hb hK hh (q := 13) (v := 66) he13a_339 (List.mem_range.mpr (by decide)) he66a_339 (List.mem_range.mpr (by decide)) e13_339 ew66_339 rfl rfl (vp_in_iff.mpr (by decide)) dX2_init_70 (fun H locs en_341 hen_341 hh => ?_)
  have et_341 : en_341 12 = .inr (2, [.ref (ad 1), .ref q_297, .ref q_299, .ref q_301, .ref q_303, .int 0]) := by rw [hen_341, va_up_ne _ _ (by decide)]; exact et_339
  have e14_341 : en_341 14 = .inl (cy 7, 9, .inr (.inr (.inr (.inr (fun i => if i < 9 then some (r_299 i) else none))))) := by rw [hen_341, va_up_ne _ _ (by decide)]; exact e14_339
  have e16_341 : en_341 16 = .inl (cy 0, 6, .inl (fun _ => 0)) := by rw [hen_341, va_up_ne _ _ (by decide)]; exact e16_339
  have e24_341 : en_341 24 = .inl (cy 8, 8, .inr (.inr (.inr (.inr (fun i => if i < 8 then some (r_301 i) else none))))) := by rw [hen_341, va_up_ne _ _ (by decide)]; exact e24_339
  have e33_341 : en_341 33 = .inl (cy 0, 8, .inl (fun _ => 0)) := by rw [hen_341, va_up_ne _ _ (by decide)]; exact e33_339
  have ew66_341 : en_341 66 = .inr (5, [.ref (ad_339 67), .ref (ad_339 68), .ref (ad_339 69), .int 0, .int 0, .int 0, .long 0, .long 0, .long 0, .long 0]) := by rw [hen_341, va_up_ne _ _ (by decide)]; exact ew66_339
  have hv_341 : ∀ j, j < 9 → en_341 (34 + 4 * j) = .inr (5, [.ref (ad_339 (35 + 4 * j)), .ref (ad_339 (36 + 4 * j)), .ref (ad_339 (37 + 4 * j)), .int 0, .int 0, .int 0, .long 0, .long 0, .long 0, .long 0]) := fun j hj => by rw [hen_341, va_up_ne _ _ (fne2 34 4 13 (by decide))]; exact hv_340 j hj
  have e13_341 : en_341 13 = .inl (cy 4, 9, .inr (.inr (.inr (.inr (va_up (va_up (va_up (va_up (va_up (va_up (va_up (va_up (va_up (fun _ => none) (0 : Int32).toNatClampNeg (some q_306)) (1 : Int32).toNatClampNeg (some q_310)) (2 : Int32).toNatClampNeg (some q_314)) (3 : Int32).toNatClampNeg (some q_318)) (4 : Int32).toNatClampNeg (some q_322)) (5 : Int32).toNatClampNeg (some q_326)) (6 : Int32).toNatClampNeg (some q_330)) (7 : Int32).toNatClampNeg (some q_334)) (8 : Int32).toNatClampNeg (some q_338)))))) := by rw [hen_341]; exact va_up_self _ _ _
  refine lv_iinc (v := 9) (lv' := [(2, .int 9), (0, .ref (ad 12)), (1, .ref (ad 1))]) hx hb dX2_init_71 hl (k := 0) rfl (by decide) (by decide) rfl (fun ls hl => ?_)
  refine lv_goto (tgt := 52) hx hb dX2_init_74 (by decide) ?_
  refine lv_iload_n hx hb dX2_init_52 rfl (lv_at hl 0 rfl) ?_
  refine lv_bipush (v := 8) hx hb dX2_init_53 (by decide) ?_
  refine lv_icmp_gt (tgt := 77) hx hb dX2_init_55 (by decide) (fun _ => ?_) (fun c_0 => absurd c_0 (by decide))
  have hh := hp_refs (g := (fun j => some (ad_339 (15 + j)))) hh e14_341 (fun j hj => by have hj9 : 15 + j < 24 := (Nat.add_lt_add_left hj 15); show (if j < 9 then some (r_299 j) else none) = some (ad_339 (15 + j)); rw [if_pos hj, hda_339 _ (Nat.lt_of_lt_of_le hj9 (by decide)), had_338, va_up_ne _ _ (Nat.ne_of_lt (Nat.lt_of_lt_of_le hj9 (by decide))), hda_335 _ (Nat.lt_of_lt_of_le hj9 (by decide)), had_334, va_up_ne _ _ (Nat.ne_of_lt (Nat.lt_of_lt_of_le hj9 (by decide))), hda_331 _ (Nat.lt_of_lt_of_le hj9 (by decide)), had_330, va_up_ne _ _ (Nat.ne_of_lt (Nat.lt_of_lt_of_le hj9 (by decide))), hda_327 _ (Nat.lt_of_lt_of_le hj9 (by decide)), had_326, va_up_ne _ _ (Nat.ne_of_lt (Nat.lt_of_lt_of_le hj9 (by decide))), hda_323 _ (Nat.lt_of_lt_of_le hj9 (by decide)), had_322, va_up_ne _ _ (Nat.ne_of_lt (Nat.lt_of_lt_of_le hj9 (by decide))), hda_319 _ (Nat.lt_of_lt_of_le hj9 (by decide)), had_318, va_up_ne _ _ (Nat.ne_of_lt (Nat.lt_of_lt_of_le hj9 (by decide))), hda_315 _ (Nat.lt_of_lt_of_le hj9 (by decide)), had_314, va_up_ne _ _ (Nat.ne_of_lt (Nat.lt_of_lt_of_le hj9 (by decide))), hda_311 _ (Nat.lt_of_lt_of_le hj9 (by decide)), had_310, va_up_ne _ _ (Nat.ne_of_lt (Nat.lt_of_lt_of_le hj9 (by decide))), hda_307 _ (Nat.lt_of_lt_of_le hj9 (by decide)), had_306, va_up_ne _ _ (Nat.ne_of_lt (Nat.lt_of_lt_of_le hj9 (by decide))), had_303, va_up_ne _ _ (Nat.ne_of_lt (Nat.lt_of_lt_of_le hj9 (by decide))), had_301, mAd_lt (Nat.lt_of_lt_of_le hj9 (by decide)), hr14_299 j hj])
  obtain ⟨en_342, hen_342⟩ : ∃ z, z = va_up en_341 14 (.inl (cy 7, 9, .inr (.inr (.inr (.inr (fun j => some (ad_339 (15 + j)))))))) := ⟨_, rfl⟩
  rw [← hen_342] at hh
  have et_342 : en_342 12 = .inr (2, [.ref (ad 1), .ref q_297, .ref q_299, .ref q_301, .ref q_303, .int 0]) := by rw [hen_342, va_up_ne _ _ (by decide)]; exact et_341
  have e13_342 : en_342 13 = .inl (cy 4, 9, .inr (.inr (.inr (.inr (va_up (va_up (va_up (va_up (va_up (va_up (va_up (va_up (va_up (fun _ => none) (0 : Int32).toNatClampNeg (some q_306)) (1 : Int32).toNatClampNeg (some q_310)) (2 : Int32).toNatClampNeg (some q_314)) (3 : Int32).toNatClampNeg (some q_318)) (4 : Int32).toNatClampNeg (some q_322)) (5 : Int32).toNatClampNeg (some q_326)) (6 : Int32).toNatClampNeg (some q_330)) (7 : Int32).toNatClampNeg (some q_334)) (8 : Int32).toNatClampNeg (some q_338)))))) := by rw [hen_342, va_up_ne _ _ (by decide)]; exact e13_341
  have e16_342 : en_342 16 = .inl (cy 0, 6, .inl (fun _ => 0)) := by rw [hen_342, va_up_ne _ _ (by decide)]; exact e16_341
  have e24_342 : en_342 24 = .inl (cy 8, 8, .inr (.inr (.inr (.inr (fun i => if i < 8 then some (r_301 i) else none))))) := by rw [hen_342, va_up_ne _ _ (by decide)]; exact e24_341
  have e33_342 : en_342 33 = .inl (cy 0, 8, .inl (fun _ => 0)) := by rw [hen_342, va_up_ne _ _ (by decide)]; exact e33_341
  have hv_342 : ∀ j, j < 9 → en_342 (34 + 4 * j) = .inr (5, [.ref (ad_339 (35 + 4 * j)), .ref (ad_339 (36 + 4 * j)), .ref (ad_339 (37 + 4 * j)), .int 0, .int 0, .int 0, .long 0, .long 0, .long 0, .long 0]) := fun j hj => by rw [hen_342, va_up_ne _ _ (fne2 34 4 14 (by decide))]; exact hv_341 j hj
  have e14_342 : en_342 14 = .inl (cy 7, 9, .inr (.inr (.inr (.inr (fun j => some (ad_339 (15 + j))))))) := by rw [hen_342]; exact va_up_self _ _ _
  have hfg_343 : ∀ j, j < 9 → ((va_up (va_up (va_up (va_up (va_up (va_up (va_up (va_up (va_up (fun _ => none) (0 : Int32).toNatClampNeg (some q_306)) (1 : Int32).toNatClampNeg (some q_310)) (2 : Int32).toNatClampNeg (some q_314)) (3 : Int32).toNatClampNeg (some q_318)) (4 : Int32).toNatClampNeg (some q_322)) (5 : Int32).toNatClampNeg (some q_326)) (6 : Int32).toNatClampNeg (some q_330)) (7 : Int32).toNatClampNeg (some q_334)) (8 : Int32).toNatClampNeg (some q_338)) : Nat → Option Nat) j = (fun j => some (ad_339 (34 + 4 * j))) j := by
    intro j hj
    rcases (show j = 0 ∨ j = 1 ∨ j = 2 ∨ j = 3 ∨ j = 4 ∨ j = 5 ∨ j = 6 ∨ j = 7 ∨ j = 8 by omega) with rfl | rfl | rfl | rfl | rfl | rfl | rfl | rfl | rfl
    · exact (congrArg some hew34a_339).symm
    · exact (congrArg some hew38a_339).symm
    · exact (congrArg some hew42a_339).symm
    · exact (congrArg some hew46a_339).symm
    · exact (congrArg some hew50a_339).symm
    · exact (congrArg some hew54a_339).symm
    · exact (congrArg some hew58a_339).symm
    · exact (congrArg some hew62a_339).symm
    · exact (congrArg some he66a_339).symm
  have hh := hp_refs (g := (fun j => some (ad_339 (34 + 4 * j)))) hh e13_342 (hfg_343)
  obtain ⟨en_344, hen_344⟩ : ∃ z, z = va_up en_342 13 (.inl (cy 4, 9, .inr (.inr (.inr (.inr (fun j => some (ad_339 (34 + 4 * j)))))))) := ⟨_, rfl⟩
  rw [← hen_344] at hh
  have et_344 : en_344 12 = .inr (2, [.ref (ad 1), .ref q_297, .ref q_299, .ref q_301, .ref q_303, .int 0]) := by rw [hen_344, va_up_ne _ _ (by decide)]; exact et_342
  have e14_344 : en_344 14 = .inl (cy 7, 9, .inr (.inr (.inr (.inr (fun j => some (ad_339 (15 + j))))))) := by rw [hen_344, va_up_ne _ _ (by decide)]; exact e14_342
  have e16_344 : en_344 16 = .inl (cy 0, 6, .inl (fun _ => 0)) := by rw [hen_344, va_up_ne _ _ (by decide)]; exact e16_342
  have e24_344 : en_344 24 = .inl (cy 8, 8, .inr (.inr (.inr (.inr (fun i => if i < 8 then some (r_301 i) else none))))) := by rw [hen_344, va_up_ne _ _ (by decide)]; exact e24_342
  have e33_344 : en_344 33 = .inl (cy 0, 8, .inl (fun _ => 0)) := by rw [hen_344, va_up_ne _ _ (by decide)]; exact e33_342
  have hv_344 : ∀ j, j < 9 → en_344 (34 + 4 * j) = .inr (5, [.ref (ad_339 (35 + 4 * j)), .ref (ad_339 (36 + 4 * j)), .ref (ad_339 (37 + 4 * j)), .int 0, .int 0, .int 0, .long 0, .long 0, .long 0, .long 0]) := fun j hj => by rw [hen_344, va_up_ne _ _ (fne2 34 4 13 (by decide))]; exact hv_342 j hj
  have e13_344 : en_344 13 = .inl (cy 4, 9, .inr (.inr (.inr (.inr (fun j => some (ad_339 (34 + 4 * j))))))) := by rw [hen_344]; exact va_up_self _ _ _
  exact hq_vret hx hb hr hlocks hh (⟨(fun i hi => by dsimp only; rw [hda_339 _ (Nat.lt_of_lt_of_le hi (by decide)), had_338, va_up_ne _ _ (Nat.ne_of_lt (Nat.lt_of_lt_of_le hi (by decide))), hda_335 _ (Nat.lt_of_lt_of_le hi (by decide)), had_334, va_up_ne _ _ (Nat.ne_of_lt (Nat.lt_of_lt_of_le hi (by decide))), hda_331 _ (Nat.lt_of_lt_of_le hi (by decide)), had_330, va_up_ne _ _ (Nat.ne_of_lt (Nat.lt_of_lt_of_le hi (by decide))), hda_327 _ (Nat.lt_of_lt_of_le hi (by decide)), had_326, va_up_ne _ _ (Nat.ne_of_lt (Nat.lt_of_lt_of_le hi (by decide))), hda_323 _ (Nat.lt_of_lt_of_le hi (by decide)), had_322, va_up_ne _ _ (Nat.ne_of_lt (Nat.lt_of_lt_of_le hi (by decide))), hda_319 _ (Nat.lt_of_lt_of_le hi (by decide)), had_318, va_up_ne _ _ (Nat.ne_of_lt (Nat.lt_of_lt_of_le hi (by decide))), hda_315 _ (Nat.lt_of_lt_of_le hi (by decide)), had_314, va_up_ne _ _ (Nat.ne_of_lt (Nat.lt_of_lt_of_le hi (by decide))), hda_311 _ (Nat.lt_of_lt_of_le hi (by decide)), had_310, va_up_ne _ _ (Nat.ne_of_lt (Nat.lt_of_lt_of_le hi (by decide))), hda_307 _ (Nat.lt_of_lt_of_le hi (by decide)), had_306, va_up_ne _ _ (Nat.ne_of_lt (Nat.lt_of_lt_of_le hi (by decide))), had_303, va_up_ne _ _ (Nat.ne_of_lt (Nat.lt_of_lt_of_le hi (by decide))), had_301, mAd_lt (Nat.lt_of_lt_of_le hi (by decide)), had_299, mAd_lt (Nat.lt_of_lt_of_le hi (by decide)), had_297, va_up_ne _ _ (Nat.ne_of_lt (Nat.lt_of_lt_of_le hi (by decide)))]), (fun i hi hne => by dsimp only; rw [hen_344, va_up_ne _ _ (Nat.ne_of_lt (Nat.lt_of_lt_of_le hi (by decide))), hen_342, va_up_ne _ _ (Nat.ne_of_lt (Nat.lt_of_lt_of_le hi (by decide))), hen_341, va_up_ne _ _ (Nat.ne_of_lt (Nat.lt_of_lt_of_le hi (by decide))), hue_339 _ (Nat.lt_of_lt_of_le hi (by decide)) (Nat.ne_of_lt (Nat.lt_of_lt_of_le hi (by decide))), hen_338, va_up_ne _ _ (Nat.ne_of_lt (Nat.lt_of_lt_of_le hi (by decide))), hen_337, va_up_ne _ _ (Nat.ne_of_lt (Nat.lt_of_lt_of_le hi (by decide))), hue_335 _ (Nat.lt_of_lt_of_le hi (by decide)) (Nat.ne_of_lt (Nat.lt_of_lt_of_le hi (by decide))), hen_334, va_up_ne _ _ (Nat.ne_of_lt (Nat.lt_of_lt_of_le hi (by decide))), hen_333, va_up_ne _ _ (Nat.ne_of_lt (Nat.lt_of_lt_of_le hi (by decide))), hue_331 _ (Nat.lt_of_lt_of_le hi (by decide)) (Nat.ne_of_lt (Nat.lt_of_lt_of_le hi (by decide))), hen_330, va_up_ne _ _ (Nat.ne_of_lt (Nat.lt_of_lt_of_le hi (by decide))), hen_329, va_up_ne _ _ (Nat.ne_of_lt (Nat.lt_of_lt_of_le hi (by decide))), hue_327 _ (Nat.lt_of_lt_of_le hi (by decide)) (Nat.ne_of_lt (Nat.lt_of_lt_of_le hi (by decide))), hen_326, va_up_ne _ _ (Nat.ne_of_lt (Nat.lt_of_lt_of_le hi (by decide))), hen_325, va_up_ne _ _ (Nat.ne_of_lt (Nat.lt_of_lt_of_le hi (by decide))), hue_323 _ (Nat.lt_of_lt_of_le hi (by decide)) (Nat.ne_of_lt (Nat.lt_of_lt_of_le hi (by decide))), hen_322, va_up_ne _ _ (Nat.ne_of_lt (Nat.lt_of_lt_of_le hi (by decide))), hen_321, va_up_ne _ _ (Nat.ne_of_lt (Nat.lt_of_lt_of_le hi (by decide))), hue_319 _ (Nat.lt_of_lt_of_le hi (by decide)) (Nat.ne_of_lt (Nat.lt_of_lt_of_le hi (by decide))), hen_318, va_up_ne _ _ (Nat.ne_of_lt (Nat.lt_of_lt_of_le hi (by decide))), hen_317, va_up_ne _ _ (Nat.ne_of_lt (Nat.lt_of_lt_of_le hi (by decide))), hue_315 _ (Nat.lt_of_lt_of_le hi (by decide)) (Nat.ne_of_lt (Nat.lt_of_lt_of_le hi (by decide))), hen_314, va_up_ne _ _ (Nat.ne_of_lt (Nat.lt_of_lt_of_le hi (by decide))), hen_313, va_up_ne _ _ (Nat.ne_of_lt (Nat.lt_of_lt_of_le hi (by decide))), hue_311 _ (Nat.lt_of_lt_of_le hi (by decide)) (Nat.ne_of_lt (Nat.lt_of_lt_of_le hi (by decide))), hen_310, va_up_ne _ _ (Nat.ne_of_lt (Nat.lt_of_lt_of_le hi (by decide))), hen_309, va_up_ne _ _ (Nat.ne_of_lt (Nat.lt_of_lt_of_le hi (by decide))), hue_307 _ (Nat.lt_of_lt_of_le hi (by decide)) (Nat.ne_of_lt (Nat.lt_of_lt_of_le hi (by decide))), hen_306, va_up_ne _ _ (Nat.ne_of_lt (Nat.lt_of_lt_of_le hi (by decide))), hen_305, va_up_ne _ _ hne, hen_304, va_up_ne _ _ hne, hen_303, va_up_ne _ _ (Nat.ne_of_lt (Nat.lt_of_lt_of_le hi (by decide))), hen_302, va_up_ne _ _ hne, hen_301, mEn_lt (Nat.lt_of_lt_of_le hi (by decide)), hen_300, va_up_ne _ _ hne, hen_299, mEn_lt (Nat.lt_of_lt_of_le hi (by decide)), hen_298, va_up_ne _ _ hne, hen_297, va_up_ne _ _ (Nat.ne_of_lt (Nat.lt_of_lt_of_le hi (by decide)))]), (by dsimp only; rw [hex1a_339, he13a_339, he14a_339, he24a_339, he33a_339]; exact et_344), e13_344, e14_344, e16_344, hv_344⟩) dX2_init_77
theorem kw_X2_init {R : Room} {s : State} {args : Array Value} {own : String} {idx : Nat} (hts : ∀ w ∈ TB, w.before args s = true) (hl : Cond.methodLink own idx yX2_init ∈ TB) (hR : 3 + 1 ≤ R.frames ∧ 8 + (3 + 11) + 40 * 3 ≤ R.locals) : CallB R s args own idx yX2_init cX2_init 3 none (Cond.code yX2_init cX2_init 3 none :: TB) (rmC 3 57 466) 57 466 1 ∧ yX2_init.name = "<init>" ∧ (Cond.instanceMethod yX2_init).before args s = true := cwI 1 hts (TB_W tw_67) rfl rfl rfl (hts _ tw_3) (hts _ hl) (hts _ tw_66) rfl (by decide +kernel) hR
