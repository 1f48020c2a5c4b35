theorem RX_new {cy : Nat → ClassId} {ad : Nat → Nat} {en : Nat → va_E} (e0 : en 0 = .inr (11, [.int 0, .int 0, .int 2, .int 0, .int 0, .ref (ad 1), .ref (ad 2), .ref (ad 3), .ref (ad 4), .ref (ad 5), .ref (ad 6), .ref (ad 7), .ref (ad 8), .ref (ad 9), .int 0, .long 0, .long 0, .long 0, .long 0, .ref (ad 10), .ref (ad 11), .ref (ad 12), .int 0, .long 0, .ref (ad 13), .int (-9), .ref (ad 14), .ref (ad 15), .ref (ad 16), .ref (ad 17), .int 0, .ref (ad 18), .ref (ad 19)])) (e3 : (∃ g : Nat → Int32, en 3 = .inl (cy 0, 4, .inl g) ∧ ∀ j, j < 4 → g j = -9)) (e1 : en 1 = .inl (cy 0, 54, .inl (fun _ => 0))) (e2 : en 2 = .inl (cy 2, 36, .inl (fun _ => 0))) (e4 : en 4 = .inl (cy 0, 4, .inl (fun _ => 0))) (e5 : en 5 = .inl (cy 0, 160, .inl (fun _ => 0))) (e6 : en 6 = .inl (cy 1, 117, .inr (.inl (fun _ => 0)))) (e7 : en 7 = .inl (cy 0, 13, .inl (fun _ => 0))) (e8 : en 8 = .inl (cy 1, 6, .inr (.inl (fun _ => 0)))) (e9 : en 9 = .inl (cy 1, 6, .inr (.inl (fun _ => 0)))) (e10 : en 10 = .inl (cy 0, 12, .inl (fun _ => 0))) (e11 : en 11 = .inl (cy 0, 12, .inl (fun _ => 0))) (e12 : en 12 = .inl (cy 0, 12, .inl (fun _ => 0))) (e13 : en 13 = .inl (cy 0, 12, .inl (fun _ => 0))) (e14 : en 14 = .inl (cy 1, 18009, .inr (.inl (fun _ => 0)))) (e15 : en 15 = .inl (cy 0, 2001, .inl (fun _ => 0))) (e16 : en 16 = .inl (cy 0, 4096, .inl (fun _ => 0))) (e17 : en 17 = .inl (cy 0, 2001, .inl (fun _ => 0))) (e18 : en 18 = .inl (cy 0, 120, .inl (fun _ => 0))) (e19 : en 19 = .inl (cy 0, 10, .inl (fun _ => 0))) : RX cy (List.range 20) ad en :=
  ⟨fun c hc => List.mem_range.mpr hc, fun c _ => ⟨fun h9 => by subst h9; exact ⟨0, 0, 2, 0, 0, 0, 0, 0, 0, 0, 0, 0, -9, 0, e0, by omega, by omega, by omega, by omega, by omega⟩,
    fun h9 => by subst h9; exact ⟨_, e1⟩,
    fun h9 => by subst h9; exact ⟨_, e2, fun i _ => Or.inl rfl⟩,
    fun h9 => by subst h9; obtain ⟨g, h1, -⟩ := e3; exact ⟨g, h1⟩,
    fun h9 => by subst h9; exact ⟨_, e4, fun i _ => ⟨0, by omega, rfl⟩⟩,
    fun h9 => by subst h9; exact ⟨_, e5⟩,
    fun h9 => by subst h9; exact ⟨_, e6⟩,
    fun h9 => by subst h9; exact ⟨_, e7⟩,
    fun h9 => by subst h9; exact ⟨_, e8⟩,
    fun h9 => by subst h9; exact ⟨_, e9⟩,
    fun h9 => by subst h9; exact ⟨_, e10⟩,
    fun h9 => by subst h9; exact ⟨_, e11⟩,
    fun h9 => by subst h9; exact ⟨_, e12, fun i _ => ⟨0, by omega, rfl⟩⟩,
    fun h9 => by subst h9; exact ⟨_, e13⟩,
    fun h9 => by subst h9; exact ⟨_, e14⟩,
    fun h9 => by subst h9; exact ⟨_, e15⟩,
    fun h9 => by subst h9; exact ⟨_, e16⟩,
    fun h9 => by subst h9; exact ⟨_, e17⟩,
    fun h9 => by subst h9; exact ⟨_, e18, fun i _ => ⟨0, by omega, rfl⟩⟩,
    fun h9 => by subst h9; exact ⟨_, e19, fun i _ => ⟨0, by omega, rfl⟩⟩⟩⟩
set_option maxHeartbeats 8000000 in
set_option maxRecDepth 100000 in
/-- AnyOrderModel() -/
theorem c_X12_init (l : Launch) (D : va_G) (cy : Nat → ClassId) (sz : Nat) (ad : Nat → Nat) (en : Nat → va_E)  (et : en 0 = .inr (11, [.int 0, .int 0, .int 0, .int 0, .int 0, .null, .null, .null, .null, .null, .null, .null, .null, .null, .int 0, .long 0, .long 0, .long 0, .long 0, .null, .null, .null, .int 0, .long 0, .null, .int 0, .null, .null, .null, .null, .int 0, .null, .null])) : Met l yX12_init (Cond.code yX12_init cX12_init 1 none :: TB) (rmC 1 19 26685) (va_Pc [.ref (ad 0)] (PreC D cy 1 ad en sz)) (va_Qv (S := (Nat → Nat) × (Nat → va_E)) (fun u => (∀ i, i < 1 → u.1 i = ad i) ∧ (∀ i, i < 1 → i ≠ 0 → u.2 i = en i) ∧ u.2 0 = .inr (11, [.int 0, .int 0, .int 2, .int 0, .int 0, .ref (u.1 1), .ref (u.1 2), .ref (u.1 3), .ref (u.1 4), .ref (u.1 5), .ref (u.1 6), .ref (u.1 7), .ref (u.1 8), .ref (u.1 9), .int 0, .long 0, .long 0, .long 0, .long 0, .ref (u.1 10), .ref (u.1 11), .ref (u.1 12), .int 0, .long 0, .ref (u.1 13), .int (-9), .ref (u.1 14), .ref (u.1 15), .ref (u.1 16), .ref (u.1 17), .int 0, .ref (u.1 18), .ref (u.1 19)]) ∧ (∃ g : Nat → Int32, u.2 3 = .inl (cy 0, 4, .inl g) ∧ ∀ j, j < 4 → g j = -9) ∧ u.2 1 = .inl (cy 0, 54, .inl (fun _ => 0)) ∧ u.2 2 = .inl (cy 2, 36, .inl (fun _ => 0)) ∧ u.2 4 = .inl (cy 0, 4, .inl (fun _ => 0)) ∧ u.2 5 = .inl (cy 0, 160, .inl (fun _ => 0)) ∧ u.2 6 = .inl (cy 1, 117, .inr (.inl (fun _ => 0))) ∧ u.2 7 = .inl (cy 0, 13, .inl (fun _ => 0)) ∧ u.2 8 = .inl (cy 1, 6, .inr (.inl (fun _ => 0))) ∧ u.2 9 = .inl (cy 1, 6, .inr (.inl (fun _ => 0))) ∧ u.2 10 = .inl (cy 0, 12, .inl (fun _ => 0)) ∧ u.2 11 = .inl (cy 0, 12, .inl (fun _ => 0)) ∧ u.2 12 = .inl (cy 0, 12, .inl (fun _ => 0)) ∧ u.2 13 = .inl (cy 0, 12, .inl (fun _ => 0)) ∧ u.2 14 = .inl (cy 1, 18009, .inr (.inl (fun _ => 0))) ∧ u.2 15 = .inl (cy 0, 2001, .inl (fun _ => 0)) ∧ u.2 16 = .inl (cy 0, 4096, .inl (fun _ => 0)) ∧ u.2 17 = .inl (cy 0, 2001, .inl (fun _ => 0)) ∧ u.2 18 = .inl (cy 0, 120, .inl (fun _ => 0)) ∧ u.2 19 = .inl (cy 0, 10, .inl (fun _ => 0))) (PostC D 20 (Af (List.range 1) ad sz)) (Af (List.range 1) ad sz)) 19 26685 (Af (List.range 1) ad sz) := by
  refine Met.ofW (cc := cX12_init) (maxL := 1) (ret := none) (by decide) rfl ?_
  intro p e s m args below meth c s₁ B hml hv
  obtain ⟨rfl, ⟨hsz, hP, hK, hD0⟩, hX⟩ := hv
  have hx := B.exec
  have hb := B.bytes
  have hr := B.returns
  have hts : ∀ w ∈ TB, w.before _ s = true := fun w h => atoms_spec (ws := _ :: TB) B.pre w (List.mem_cons_of_mem _ h)
  have hown : s.vm.findClass RX12 = some m.cls := findClass_of_methodNamed B.named
  have hlocks := B.notSynchronized
  have hin : meth.name = "<init>" := (name_of_methodNamed B.named B.method).1
  have hh : Hp D (Af (List.range 1) ad sz) (Af (List.range 1) ad sz) s.heap s.heap [] (List.range 1) ad en := ⟨hP, Af_self hD0, va_S.rf⟩
  have hA : ∀ q : Nat, s.heap.size ≤ q → (Af (List.range 1) ad sz) q := fun q h => Or.inr (by rw [hsz] at h; exact h)
  generalize (Af (List.range 1) ad sz) = A at hh hA ⊢
  have hl := lv_entry ([.ref (ad 0)]) (n := 1) (Nat.le_of_ble_eq_true rfl)
  rw [lg_entry_eq]
  generalize (lg_sl ([.ref (ad 0)]) ++ List.replicate (1 - (lg_sl ([.ref (ad 0)])).length) Slot.unset).toArray = ls at hl ⊢
  have hl : lv_has ls 1 [(0, .ref (ad 0))] := hl
  refine lv_aload_n hx hb dX12_init_0 rfl (lv_at hl 0 rfl) ?_
  refine W.objInit hx hb hown (hts _ tw_878) (hts _ tw_23) (hts _ tw_24) rfl (by rw [hml]; exact hl.1) rfl dX12_init_1 (Nat.le_of_ble_eq_true rfl) (Nat.le_of_ble_eq_true rfl) ?_
  refine W.eq (g2 := F0 m 4 ls []) rfl ?_
  refine lv_aload_n hx hb dX12_init_4 rfl (lv_at hl 0 rfl) ?_
  refine lv_iconst (v := 2) hx hb dX12_init_5 (by decide) ?_
  refine hp_put hx hb hts ix12 tyX12 tyX12_ok nmX12 hown hK hh (q := 0) rfl (List.mem_range.mpr (by decide)) et rfl 2 (by decide) (hts _ tw_881) (fun _ h9 => h9) rfl (ty := .int) (by decide +kernel) rfl rfl (Nat.le_of_ble_eq_true rfl) dX12_init_6 (fun H locs en_433 hen_433 hh => ?_)
  have et_433 : en_433 0 = .inr (11, [.int 0, .int 0, .int 2, .int 0, .int 0, .null, .null, .null, .null, .null, .null, .null, .null, .null, .int 0, .long 0, .long 0, .long 0, .long 0, .null, .null, .null, .int 0, .long 0, .null, .int 0, .null, .null, .null, .null, .int 0, .null, .null]) := by rw [hen_433]; exact va_up_self _ _ _
  refine lv_aload_n hx hb dX12_init_9 rfl (lv_at hl 0 rfl) ?_
  refine lv_bipush (v := 54) hx hb dX12_init_10 (by decide) ?_
  refine hq_newa (atype := .int) (ty := .int) hx hb (hts _ tw_121) rfl hK hh hA 0 rfl (N' := 54) (a0 := (54, .inl (fun _ => 0))) (fun _ => rfl) (by decide) (by decide) (by decide) (Nat.le_of_ble_eq_true rfl) (Nat.le_of_ble_eq_true rfl) dX12_init_12 (fun q_434 H ad_434 en_434 had_434 hen_434 hh => ?_)
  have hh : Hp D A A s.heap H _ (List.range 2) ad_434 en_434 := hh
  have et_434 : en_434 0 = .inr (11, [.int 0, .int 0, .int 2, .int 0, .int 0, .null, .null, .null, .null, .null, .null, .null, .null, .null, .int 0, .long 0, .long 0, .long 0, .long 0, .null, .null, .null, .int 0, .long 0, .null, .int 0, .null, .null, .null, .null, .int 0, .null, .null]) := by rw [hen_434, va_up_ne _ _ (by decide)]; exact et_433
  have heta_434 : ad_434 0 = (ad 0) := by rw [had_434, va_up_ne _ _ (by decide)]
  have e1_434 : en_434 1 = .inl (cy 0, 54, .inl (fun _ => 0)) := by rw [hen_434]; exact va_up_self _ _ _
  have he1a_434 : ad_434 1 = q_434 := by rw [had_434]; exact va_up_self _ _ _
  clear et_433
  refine W.widen (k := 1) (n := 54) (Nat.le_refl _) (Nat.le_refl _) ?_
  refine hp_putF hx hb hts ix12 tyX12 tyX12_ok nmX12 hown hK hh (q := 0) heta_434 (List.mem_range.mpr (by decide)) et_434 rfl 5 (by decide) (hts _ tw_884) (fun _ h9 => h9) rfl hin rfl (ty := (.array .int)) (by decide +kernel) rfl rfl (Nat.le_of_ble_eq_true rfl) dX12_init_14 (fun H locs en_435 hen_435 hh => ?_)
  have e1_435 : en_435 1 = .inl (cy 0, 54, .inl (fun _ => 0)) := by rw [hen_435, va_up_ne _ _ (by decide)]; exact e1_434
  have et_435 : en_435 0 = .inr (11, [.int 0, .int 0, .int 2, .int 0, .int 0, .ref q_434, .null, .null, .null, .null, .null, .null, .null, .null, .int 0, .long 0, .long 0, .long 0, .long 0, .null, .null, .null, .int 0, .long 0, .null, .int 0, .null, .null, .null, .null, .int 0, .null, .null]) := by rw [hen_435]; exact va_up_self _ _ _
  clear et_434 e1_434
  refine lv_aload_n hx hb dX12_init_17 rfl (lv_at hl 0 rfl) ?_
  refine lv_bipush (v := 36) hx hb dX12_init_18 (by decide) ?_
  refine hq_newa (atype := .boolean) (ty := .boolean) hx hb (hts _ tw_62) rfl hK hh hA 2 rfl (N' := 36) (a0 := (36, .inl (fun _ => 0))) (fun _ => rfl) (by decide) (by decide) (by decide) (Nat.le_of_ble_eq_true rfl) (Nat.le_of_ble_eq_true rfl) dX12_init_20 (fun q_436 H ad_436 en_436 had_436 hen_436 hh => ?_)
  have hh : Hp D A A s.heap H _ (List.range 3) ad_436 en_436 := hh
  have et_436 : en_436 0 = .inr (11, [.int 0, .int 0, .int 2, .int 0, .int 0, .ref q_434, .null, .null, .null, .null, .null, .null, .null, .null, .int 0, .long 0, .long 0, .long 0, .long 0, .null, .null, .null, .int 0, .long 0, .null, .int 0, .null, .null, .null, .null, .int 0, .null, .null]) := by rw [hen_436, va_up_ne _ _ (by decide)]; exact et_435
  have heta_436 : ad_436 0 = (ad 0) := by rw [had_436, va_up_ne _ _ (by decide)]; exact heta_434
  have e1_436 : en_436 1 = .inl (cy 0, 54, .inl (fun _ => 0)) := by rw [hen_436, va_up_ne _ _ (by decide)]; exact e1_435
  have he1a_436 : ad_436 1 = q_434 := by rw [had_436, va_up_ne _ _ (by decide)]; exact he1a_434
  have e2_436 : en_436 2 = .inl (cy 2, 36, .inl (fun _ => 0)) := by rw [hen_436]; exact va_up_self _ _ _
  have he2a_436 : ad_436 2 = q_436 := by rw [had_436]; exact va_up_self _ _ _
  clear heta_434 he1a_434 e1_435 et_435
  refine W.widen (k := 2) (n := 90) (Nat.le_refl _) (Nat.le_refl _) ?_
  refine hp_putF hx hb hts ix12 tyX12 tyX12_ok nmX12 hown hK hh (q := 0) heta_436 (List.mem_range.mpr (by decide)) et_436 rfl 6 (by decide) (hts _ tw_885) (fun _ h9 => h9) rfl hin rfl (ty := (.array .boolean)) (by decide +kernel) rfl rfl (Nat.le_of_ble_eq_true rfl) dX12_init_22 (fun H locs en_437 hen_437 hh => ?_)
  have e1_437 : en_437 1 = .inl (cy 0, 54, .inl (fun _ => 0)) := by rw [hen_437, va_up_ne _ _ (by decide)]; exact e1_436
  have e2_437 : en_437 2 = .inl (cy 2, 36, .inl (fun _ => 0)) := by rw [hen_437, va_up_ne _ _ (by decide)]; exact e2_436
  have et_437 : en_437 0 = .inr (11, [.int 0, .int 0, .int 2, .int 0, .int 0, .ref q_434, .ref q_436, .null, .null, .null, .null, .null, .null, .null, .int 0, .long 0, .long 0, .long 0, .long 0, .null, .null, .null, .int 0, .long 0, .null, .int 0, .null, .null, .null, .null, .int 0, .null, .null]) := by rw [hen_437]; exact va_up_self _ _ _
  clear et_436 e1_436 e2_436
  refine lv_aload_n hx hb dX12_init_25 rfl (lv_at hl 0 rfl) ?_
  refine lv_iconst (v := 4) hx hb dX12_init_26 (by decide) ?_
  refine hq_newa (atype := .int) (ty := .int) hx hb (hts _ tw_121) rfl hK hh hA 0 rfl (N' := 4) (a0 := (4, .inl (fun _ => 0))) (fun _ => rfl) (by decide) (by decide) (by decide) (Nat.le_of_ble_eq_true rfl) (Nat.le_of_ble_eq_true rfl) dX12_init_27 (fun q_438 H ad_438 en_438 had_438 hen_438 hh => ?_)
  have hh : Hp D A A s.heap H _ (List.range 4) ad_438 en_438 := hh
  have et_438 : en_438 0 = .inr (11, [.int 0, .int 0, .int 2, .int 0, .int 0, .ref q_434, .ref q_436, .null, .null, .null, .null, .null, .null, .null, .int 0, .long 0, .long 0, .long 0, .long 0, .null, .null, .null, .int 0, .long 0, .null, .int 0, .null, .null, .null, .null, .int 0, .null, .null]) := by rw [hen_438, va_up_ne _ _ (by decide)]; exact et_437
  have heta_438 : ad_438 0 = (ad 0) := by rw [had_438, va_up_ne _ _ (by decide)]; exact heta_436
  have e1_438 : en_438 1 = .inl (cy 0, 54, .inl (fun _ => 0)) := by rw [hen_438, va_up_ne _ _ (by decide)]; exact e1_437
  have he1a_438 : ad_438 1 = q_434 := by rw [had_438, va_up_ne _ _ (by decide)]; exact he1a_436
  have e2_438 : en_438 2 = .inl (cy 2, 36, .inl (fun _ => 0)) := by rw [hen_438, va_up_ne _ _ (by decide)]; exact e2_437
  have he2a_438 : ad_438 2 = q_436 := by rw [had_438, va_up_ne _ _ (by decide)]; exact he2a_436
  have e3_438 : en_438 3 = .inl (cy 0, 4, .inl (fun _ => 0)) := by rw [hen_438]; exact va_up_self _ _ _
  have he3a_438 : ad_438 3 = q_438 := by rw [had_438]; exact va_up_self _ _ _
  clear heta_436 he1a_436 he2a_436 e1_437 e2_437 et_437
  refine W.widen (k := 3) (n := 94) (Nat.le_refl _) (Nat.le_refl _) ?_
  refine lv_dup hx hb dX12_init_29 rfl ?_
  refine lv_iconst (v := 0) hx hb dX12_init_30 (by decide) ?_
  refine lv_bipush (v := (-9)) hx hb dX12_init_31 (by decide) ?_
  refine hp_iast hx hb hK hh (q := 3) he3a_438 (List.mem_range.mpr (by decide)) e3_438 (vp_in_iff.mpr (by decide)) dX12_init_33 (fun H locs en_439 hen_439 hh => ?_)
  have et_439 : en_439 0 = .inr (11, [.int 0, .int 0, .int 2, .int 0, .int 0, .ref q_434, .ref q_436, .null, .null, .null, .null, .null, .null, .null, .int 0, .long 0, .long 0, .long 0, .long 0, .null, .null, .null, .int 0, .long 0, .null, .int 0, .null, .null, .null, .null, .int 0, .null, .null]) := by rw [hen_439, va_up_ne _ _ (by decide)]; exact et_438
  have e1_439 : en_439 1 = .inl (cy 0, 54, .inl (fun _ => 0)) := by rw [hen_439, va_up_ne _ _ (by decide)]; exact e1_438
  have e2_439 : en_439 2 = .inl (cy 2, 36, .inl (fun _ => 0)) := by rw [hen_439, va_up_ne _ _ (by decide)]; exact e2_438
  have e3_439 : en_439 3 = .inl (cy 0, 4, .inl (upd (fun _ => 0) (0 : Int32).toNatClampNeg (-9))) := by rw [hen_439]; exact va_up_self _ _ _
  clear et_438 e1_438 e2_438 e3_438
  refine lv_dup hx hb dX12_init_34 rfl ?_
  refine lv_iconst (v := 1) hx hb dX12_init_35 (by decide) ?_
  refine lv_bipush (v := (-9)) hx hb dX12_init_36 (by decide) ?_
  refine hp_iast hx hb hK hh (q := 3) he3a_438 (List.mem_range.mpr (by decide)) e3_439 (vp_in_iff.mpr (by decide)) dX12_init_38 (fun H locs en_440 hen_440 hh => ?_)
  have et_440 : en_440 0 = .inr (11, [.int 0, .int 0, .int 2, .int 0, .int 0, .ref q_434, .ref q_436, .null, .null, .null, .null, .null, .null, .null, .int 0, .long 0, .long 0, .long 0, .long 0, .null, .null, .null, .int 0, .long 0, .null, .int 0, .null, .null, .null, .null, .int 0, .null, .null]) := by rw [hen_440, va_up_ne _ _ (by decide)]; exact et_439
  have e1_440 : en_440 1 = .inl (cy 0, 54, .inl (fun _ => 0)) := by rw [hen_440, va_up_ne _ _ (by decide)]; exact e1_439
  have e2_440 : en_440 2 = .inl (cy 2, 36, .inl (fun _ => 0)) := by rw [hen_440, va_up_ne _ _ (by decide)]; exact e2_439
  have e3_440 : en_440 3 = .inl (cy 0, 4, .inl (upd (upd (fun _ => 0) (0 : Int32).toNatClampNeg (-9)) (1 : Int32).toNatClampNeg (-9))) := by rw [hen_440]; exact va_up_self _ _ _
  clear et_439 e1_439 e2_439 e3_439
  refine lv_dup hx hb dX12_init_39 rfl ?_
  refine lv_iconst (v := 2) hx hb dX12_init_40 (by decide) ?_
  refine lv_bipush (v := (-9)) hx hb dX12_init_41 (by decide) ?_
  refine hp_iast hx hb hK hh (q := 3) he3a_438 (List.mem_range.mpr (by decide)) e3_440 (vp_in_iff.mpr (by decide)) dX12_init_43 (fun H locs en_441 hen_441 hh => ?_)
  have et_441 : en_441 0 = .inr (11, [.int 0, .int 0, .int 2, .int 0, .int 0, .ref q_434, .ref q_436, .null, .null, .null, .null, .null, .null, .null, .int 0, .long 0, .long 0, .long 0, .long 0, .null, .null, .null, .int 0, .long 0, .null, .int 0, .null, .null, .null, .null, .int 0, .null, .null]) := by rw [hen_441, va_up_ne _ _ (by decide)]; exact et_440
  have e1_441 : en_441 1 = .inl (cy 0, 54, .inl (fun _ => 0)) := by rw [hen_441, va_up_ne _ _ (by decide)]; exact e1_440
  have e2_441 : en_441 2 = .inl (cy 2, 36, .inl (fun _ => 0)) := by rw [hen_441, va_up_ne _ _ (by decide)]; exact e2_440
  have e3_441 : en_441 3 = .inl (cy 0, 4, .inl (upd (upd (upd (fun _ => 0) (0 : Int32).toNatClampNeg (-9)) (1 : Int32).toNatClampNeg (-9)) (2 : Int32).toNatClampNeg (-9))) := by rw [hen_441]; exact va_up_self _ _ _
  clear et_440 e1_440 e2_440 e3_440
  refine lv_dup hx hb dX12_init_44 rfl ?_
  refine lv_iconst (v := 3) hx hb dX12_init_45 (by decide) ?_
  refine lv_bipush (v := (-9)) hx hb dX12_init_46 (by decide) ?_
  refine hp_iast hx hb hK hh (q := 3) he3a_438 (List.mem_range.mpr (by decide)) e3_441 (vp_in_iff.mpr (by decide)) dX12_init_48 (fun H locs en_442 hen_442 hh => ?_)
  have et_442 : en_442 0 = .inr (11, [.int 0, .int 0, .int 2, .int 0, .int 0, .ref q_434, .ref q_436, .null, .null, .null, .null, .null, .null, .null, .int 0, .long 0, .long 0, .long 0, .long 0, .null, .null, .null, .int 0, .long 0, .null, .int 0, .null, .null, .null, .null, .int 0, .null, .null]) := by rw [hen_442, va_up_ne _ _ (by decide)]; exact et_441
  have e1_442 : en_442 1 = .inl (cy 0, 54, .inl (fun _ => 0)) := by rw [hen_442, va_up_ne _ _ (by decide)]; exact e1_441
  have e2_442 : en_442 2 = .inl (cy 2, 36, .inl (fun _ => 0)) := by rw [hen_442, va_up_ne _ _ (by decide)]; exact e2_441
  have e3_442 : en_442 3 = .inl (cy 0, 4, .inl (upd (upd (upd (upd (fun _ => 0) (0 : Int32).toNatClampNeg (-9)) (1 : Int32).toNatClampNeg (-9)) (2 : Int32).toNatClampNeg (-9)) (3 : Int32).toNatClampNeg (-9))) := by rw [hen_442]; exact va_up_self _ _ _
  clear et_441 e1_441 e2_441 e3_441
  refine hp_putF hx hb hts ix12 tyX12 tyX12_ok nmX12 hown hK hh (q := 0) heta_438 (List.mem_range.mpr (by decide)) et_442 rfl 7 (by decide) (hts _ tw_886) (fun _ h9 => h9) rfl hin rfl (ty := (.array .int)) (by decide +kernel) rfl rfl (Nat.le_of_ble_eq_true rfl) dX12_init_49 (fun H locs en_443 hen_443 hh => ?_)
  have e1_443 : en_443 1 = .inl (cy 0, 54, .inl (fun _ => 0)) := by rw [hen_443, va_up_ne _ _ (by decide)]; exact e1_442
  have e2_443 : en_443 2 = .inl (cy 2, 36, .inl (fun _ => 0)) := by rw [hen_443, va_up_ne _ _ (by decide)]; exact e2_442
  have e3_443 : en_443 3 = .inl (cy 0, 4, .inl (upd (upd (upd (upd (fun _ => 0) (0 : Int32).toNatClampNeg (-9)) (1 : Int32).toNatClampNeg (-9)) (2 : Int32).toNatClampNeg (-9)) (3 : Int32).toNatClampNeg (-9))) := by rw [hen_443, va_up_ne _ _ (by decide)]; exact e3_442
  have et_443 : en_443 0 = .inr (11, [.int 0, .int 0, .int 2, .int 0, .int 0, .ref q_434, .ref q_436, .ref q_438, .null, .null, .null, .null, .null, .null, .int 0, .long 0, .long 0, .long 0, .long 0, .null, .null, .null, .int 0, .long 0, .null, .int 0, .null, .null, .null, .null, .int 0, .null, .null]) := by rw [hen_443]; exact va_up_self _ _ _
  clear et_442 e1_442 e2_442 e3_442
  refine lv_aload_n hx hb dX12_init_52 rfl (lv_at hl 0 rfl) ?_
  refine lv_iconst (v := 4) hx hb dX12_init_53 (by decide) ?_
  refine hq_newa (atype := .int) (ty := .int) hx hb (hts _ tw_121) rfl hK hh hA 0 rfl (N' := 4) (a0 := (4, .inl (fun _ => 0))) (fun _ => rfl) (by decide) (by decide) (by decide) (Nat.le_of_ble_eq_true rfl) (Nat.le_of_ble_eq_true rfl) dX12_init_54 (fun q_444 H ad_444 en_444 had_444 hen_444 hh => ?_)
  have hh : Hp D A A s.heap H _ (List.range 5) ad_444 en_444 := hh
  have et_444 : en_444 0 = .inr (11, [.int 0, .int 0, .int 2, .int 0, .int 0, .ref q_434, .ref q_436, .ref q_438, .null, .null, .null, .null, .null, .null, .int 0, .long 0, .long 0, .long 0, .long 0, .null, .null, .null, .int 0, .long 0, .null, .int 0, .null, .null, .null, .null, .int 0, .null, .null]) := by rw [hen_444, va_up_ne _ _ (by decide)]; exact et_443
  have heta_444 : ad_444 0 = (ad 0) := by rw [had_444, va_up_ne _ _ (by decide)]; exact heta_438
  have e1_444 : en_444 1 = .inl (cy 0, 54, .inl (fun _ => 0)) := by rw [hen_444, va_up_ne _ _ (by decide)]; exact e1_443
  have he1a_444 : ad_444 1 = q_434 := by rw [had_444, va_up_ne _ _ (by decide)]; exact he1a_438
  have e2_444 : en_444 2 = .inl (cy 2, 36, .inl (fun _ => 0)) := by rw [hen_444, va_up_ne _ _ (by decide)]; exact e2_443
  have he2a_444 : ad_444 2 = q_436 := by rw [had_444, va_up_ne _ _ (by decide)]; exact he2a_438
  have e3_444 : en_444 3 = .inl (cy 0, 4, .inl (upd (upd (upd (upd (fun _ => 0) (0 : Int32).toNatClampNeg (-9)) (1 : Int32).toNatClampNeg (-9)) (2 : Int32).toNatClampNeg (-9)) (3 : Int32).toNatClampNeg (-9))) := by rw [hen_444, va_up_ne _ _ (by decide)]; exact e3_443
  have he3a_444 : ad_444 3 = q_438 := by rw [had_444, va_up_ne _ _ (by decide)]; exact he3a_438
  have e4_444 : en_444 4 = .inl (cy 0, 4, .inl (fun _ => 0)) := by rw [hen_444]; exact va_up_self _ _ _
  have he4a_444 : ad_444 4 = q_444 := by rw [had_444]; exact va_up_self _ _ _
  clear heta_438 he1a_438 he2a_438 he3a_438 e1_443 e2_443 e3_443 et_443
  refine W.widen (k := 4) (n := 98) (Nat.le_refl _) (Nat.le_refl _) ?_
  refine hp_putF hx hb hts ix12 tyX12 tyX12_ok nmX12 hown hK hh (q := 0) heta_444 (List.mem_range.mpr (by decide)) et_444 rfl 8 (by decide) (hts _ tw_887) (fun _ h9 => h9) rfl hin rfl (ty := (.array .int)) (by decide +kernel) rfl rfl (Nat.le_of_ble_eq_true rfl) dX12_init_56 (fun H locs en_445 hen_445 hh => ?_)
  have e1_445 : en_445 1 = .inl (cy 0, 54, .inl (fun _ => 0)) := by rw [hen_445, va_up_ne _ _ (by decide)]; exact e1_444
  have e2_445 : en_445 2 = .inl (cy 2, 36, .inl (fun _ => 0)) := by rw [hen_445, va_up_ne _ _ (by decide)]; exact e2_444
  have e3_445 : en_445 3 = .inl (cy 0, 4, .inl (upd (upd (upd (upd (fun _ => 0) (0 : Int32).toNatClampNeg (-9)) (1 : Int32).toNatClampNeg (-9)) (2 : Int32).toNatClampNeg (-9)) (3 : Int32).toNatClampNeg (-9))) := by rw [hen_445, va_up_ne _ _ (by decide)]; exact e3_444
  have e4_445 : en_445 4 = .inl (cy 0, 4, .inl (fun _ => 0)) := by rw [hen_445, va_up_ne _ _ (by decide)]; exact e4_444
  have et_445 : en_445 0 = .inr (11, [.int 0, .int 0, .int 2, .int 0, .int 0, .ref q_434, .ref q_436, .ref q_438, .ref q_444, .null, .null, .null, .null, .null, .int 0, .long 0, .long 0, .long 0, .long 0, .null, .null, .null, .int 0, .long 0, .null, .int 0, .null, .null, .null, .null, .int 0, .null, .null]) := by rw [hen_445]; exact va_up_self _ _ _
  clear et_444 e1_444 e2_444 e3_444 e4_444
  refine lv_aload_n hx hb dX12_init_59 rfl (lv_at hl 0 rfl) ?_
  refine lv_sipush (v := 160) hx hb dX12_init_60 (by decide) ?_
  refine hq_newa (atype := .int) (ty := .int) hx hb (hts _ tw_121) rfl hK hh hA 0 rfl (N' := 160) (a0 := (160, .inl (fun _ => 0))) (fun _ => rfl) (by decide) (by decide) (by decide) (Nat.le_of_ble_eq_true rfl) (Nat.le_of_ble_eq_true rfl) dX12_init_63 (fun q_446 H ad_446 en_446 had_446 hen_446 hh => ?_)
  have hh : Hp D A A s.heap H _ (List.range 6) ad_446 en_446 := hh
  have et_446 : en_446 0 = .inr (11, [.int 0, .int 0, .int 2, .int 0, .int 0, .ref q_434, .ref q_436, .ref q_438, .ref q_444, .null, .null, .null, .null, .null, .int 0, .long 0, .long 0, .long 0, .long 0, .null, .null, .null, .int 0, .long 0, .null, .int 0, .null, .null, .null, .null, .int 0, .null, .null]) := by rw [hen_446, va_up_ne _ _ (by decide)]; exact et_445
  have heta_446 : ad_446 0 = (ad 0) := by rw [had_446, va_up_ne _ _ (by decide)]; exact heta_444
  have e1_446 : en_446 1 = .inl (cy 0, 54, .inl (fun _ => 0)) := by rw [hen_446, va_up_ne _ _ (by decide)]; exact e1_445
  have he1a_446 : ad_446 1 = q_434 := by rw [had_446, va_up_ne _ _ (by decide)]; exact he1a_444
  have e2_446 : en_446 2 = .inl (cy 2, 36, .inl (fun _ => 0)) := by rw [hen_446, va_up_ne _ _ (by decide)]; exact e2_445
  have he2a_446 : ad_446 2 = q_436 := by rw [had_446, va_up_ne _ _ (by decide)]; exact he2a_444
  have e3_446 : en_446 3 = .inl (cy 0, 4, .inl (upd (upd (upd (upd (fun _ => 0) (0 : Int32).toNatClampNeg (-9)) (1 : Int32).toNatClampNeg (-9)) (2 : Int32).toNatClampNeg (-9)) (3 : Int32).toNatClampNeg (-9))) := by rw [hen_446, va_up_ne _ _ (by decide)]; exact e3_445
  have he3a_446 : ad_446 3 = q_438 := by rw [had_446, va_up_ne _ _ (by decide)]; exact he3a_444
  have e4_446 : en_446 4 = .inl (cy 0, 4, .inl (fun _ => 0)) := by rw [hen_446, va_up_ne _ _ (by decide)]; exact e4_445
  have he4a_446 : ad_446 4 = q_444 := by rw [had_446, va_up_ne _ _ (by decide)]; exact he4a_444
  have e5_446 : en_446 5 = .inl (cy 0, 160, .inl (fun _ => 0)) := by rw [hen_446]; exact va_up_self _ _ _
  have he5a_446 : ad_446 5 = q_446 := by rw [had_446]; exact va_up_self _ _ _
  clear heta_444 he1a_444 he2a_444 he3a_444 he4a_444 e1_445 e2_445 e3_445 e4_445 et_445
  refine W.widen (k := 5) (n := 258) (Nat.le_refl _) (Nat.le_refl _) ?_
  refine hp_putF hx hb hts ix12 tyX12 tyX12_ok nmX12 hown hK hh (q := 0) heta_446 (List.mem_range.mpr (by decide)) et_446 rfl 9 (by decide) (hts _ tw_888) (fun _ h9 => h9) rfl hin rfl (ty := (.array .int)) (by decide +kernel) rfl rfl (Nat.le_of_ble_eq_true rfl) dX12_init_65 (fun H locs en_447 hen_447 hh => ?_)
  have e1_447 : en_447 1 = .inl (cy 0, 54, .inl (fun _ => 0)) := by rw [hen_447, va_up_ne _ _ (by decide)]; exact e1_446
  have e2_447 : en_447 2 = .inl (cy 2, 36, .inl (fun _ => 0)) := by rw [hen_447, va_up_ne _ _ (by decide)]; exact e2_446
  have e3_447 : en_447 3 = .inl (cy 0, 4, .inl (upd (upd (upd (upd (fun _ => 0) (0 : Int32).toNatClampNeg (-9)) (1 : Int32).toNatClampNeg (-9)) (2 : Int32).toNatClampNeg (-9)) (3 : Int32).toNatClampNeg (-9))) := by rw [hen_447, va_up_ne _ _ (by decide)]; exact e3_446
  have e4_447 : en_447 4 = .inl (cy 0, 4, .inl (fun _ => 0)) := by rw [hen_447, va_up_ne _ _ (by decide)]; exact e4_446
  have e5_447 : en_447 5 = .inl (cy 0, 160, .inl (fun _ => 0)) := by rw [hen_447, va_up_ne _ _ (by decide)]; exact e5_446
  have et_447 : en_447 0 = .inr (11, [.int 0, .int 0, .int 2, .int 0, .int 0, .ref q_434, .ref q_436, .ref q_438, .ref q_444, .ref q_446, .null, .null, .null, .null, .int 0, .long 0, .long 0, .long 0, .long 0, .null, .null, .null, .int 0, .long 0, .null, .int 0, .null, .null, .null, .null, .int 0, .null, .null]) := by rw [hen_447]; exact va_up_self _ _ _
  clear et_446 e1_446 e2_446 e3_446 e4_446 e5_446
  refine lv_aload_n hx hb dX12_init_68 rfl (lv_at hl 0 rfl) ?_
  refine lv_bipush (v := 117) hx hb dX12_init_69 (by decide) ?_
  refine hq_newa (atype := .long) (ty := .long) hx hb (hts _ tw_61) rfl hK hh hA 1 rfl (N' := 117) (a0 := (117, .inr (.inl (fun _ => 0)))) (fun _ => rfl) (by decide) (by decide) (by decide) (Nat.le_of_ble_eq_true rfl) (Nat.le_of_ble_eq_true rfl) dX12_init_71 (fun q_448 H ad_448 en_448 had_448 hen_448 hh => ?_)
  have hh : Hp D A A s.heap H _ (List.range 7) ad_448 en_448 := hh
  have et_448 : en_448 0 = .inr (11, [.int 0, .int 0, .int 2, .int 0, .int 0, .ref q_434, .ref q_436, .ref q_438, .ref q_444, .ref q_446, .null, .null, .null, .null, .int 0, .long 0, .long 0, .long 0, .long 0, .null, .null, .null, .int 0, .long 0, .null, .int 0, .null, .null, .null, .null, .int 0, .null, .null]) := by rw [hen_448, va_up_ne _ _ (by decide)]; exact et_447
  have heta_448 : ad_448 0 = (ad 0) := by rw [had_448, va_up_ne _ _ (by decide)]; exact heta_446
  have e1_448 : en_448 1 = .inl (cy 0, 54, .inl (fun _ => 0)) := by rw [hen_448, va_up_ne _ _ (by decide)]; exact e1_447
  have he1a_448 : ad_448 1 = q_434 := by rw [had_448, va_up_ne _ _ (by decide)]; exact he1a_446
  have e2_448 : en_448 2 = .inl (cy 2, 36, .inl (fun _ => 0)) := by rw [hen_448, va_up_ne _ _ (by decide)]; exact e2_447
  have he2a_448 : ad_448 2 = q_436 := by rw [had_448, va_up_ne _ _ (by decide)]; exact he2a_446
  have e3_448 : en_448 3 = .inl (cy 0, 4, .inl (upd (upd (upd (upd (fun _ => 0) (0 : Int32).toNatClampNeg (-9)) (1 : Int32).toNatClampNeg (-9)) (2 : Int32).toNatClampNeg (-9)) (3 : Int32).toNatClampNeg (-9))) := by rw [hen_448, va_up_ne _ _ (by decide)]; exact e3_447
  have he3a_448 : ad_448 3 = q_438 := by rw [had_448, va_up_ne _ _ (by decide)]; exact he3a_446
  have e4_448 : en_448 4 = .inl (cy 0, 4, .inl (fun _ => 0)) := by rw [hen_448, va_up_ne _ _ (by decide)]; exact e4_447
  have he4a_448 : ad_448 4 = q_444 := by rw [had_448, va_up_ne _ _ (by decide)]; exact he4a_446
  have e5_448 : en_448 5 = .inl (cy 0, 160, .inl (fun _ => 0)) := by rw [hen_448, va_up_ne _ _ (by decide)]; exact e5_447
  have he5a_448 : ad_448 5 = q_446 := by rw [had_448, va_up_ne _ _ (by decide)]; exact he5a_446
  have e6_448 : en_448 6 = .inl (cy 1, 117, .inr (.inl (fun _ => 0))) := by rw [hen_448]; exact va_up_self _ _ _
  have he6a_448 : ad_448 6 = q_448 := by rw [had_448]; exact va_up_self _ _ _
  clear heta_446 he1a_446 he2a_446 he3a_446 he4a_446 he5a_446 e1_447 e2_447 e3_447 e4_447 e5_447 et_447
  refine W.widen (k := 6) (n := 375) (Nat.le_refl _) (Nat.le_refl _) ?_
  refine hp_putF hx hb hts ix12 tyX12 tyX12_ok nmX12 hown hK hh (q := 0) heta_448 (List.mem_range.mpr (by decide)) et_448 rfl 10 (by decide) (hts _ tw_889) (fun _ h9 => h9) rfl hin rfl (ty := (.array .long)) (by decide +kernel) rfl rfl (Nat.le_of_ble_eq_true rfl) dX12_init_73 (fun H locs en_449 hen_449 hh => ?_)
  have e1_449 : en_449 1 = .inl (cy 0, 54, .inl (fun _ => 0)) := by rw [hen_449, va_up_ne _ _ (by decide)]; exact e1_448
  have e2_449 : en_449 2 = .inl (cy 2, 36, .inl (fun _ => 0)) := by rw [hen_449, va_up_ne _ _ (by decide)]; exact e2_448
  have e3_449 : en_449 3 = .inl (cy 0, 4, .inl (upd (upd (upd (upd (fun _ => 0) (0 : Int32).toNatClampNeg (-9)) (1 : Int32).toNatClampNeg (-9)) (2 : Int32).toNatClampNeg (-9)) (3 : Int32).toNatClampNeg (-9))) := by rw [hen_449, va_up_ne _ _ (by decide)]; exact e3_448
  have e4_449 : en_449 4 = .inl (cy 0, 4, .inl (fun _ => 0)) := by rw [hen_449, va_up_ne _ _ (by decide)]; exact e4_448
  have e5_449 : en_449 5 = .inl (cy 0, 160, .inl (fun _ => 0)) := by rw [hen_449, va_up_ne _ _ (by decide)]; exact e5_448
  have e6_449 : en_449 6 = .inl (cy 1, 117, .inr (.inl (fun _ => 0))) := by rw [hen_449, va_up_ne _ _ (by decide)]; exact e6_448
  have et_449 : en_449 0 = .inr (11, [.int 0, .int 0, .int 2, .int 0, .int 0, .ref q_434, .ref q_436, .ref q_438, .ref q_444, .ref q_446, .ref q_448, .null, .null, .null, .int 0, .long 0, .long 0, .long 0, .long 0, .null, .null, .null, .int 0, .long 0, .null, .int 0, .null, .null, .null, .null, .int 0, .null, .null]) := by rw [hen_449]; exact va_up_self _ _ _
  clear et_448 e1_448 e2_448 e3_448 e4_448 e5_448 e6_448
  refine lv_aload_n hx hb dX12_init_76 rfl (lv_at hl 0 rfl) ?_
  refine lv_bipush (v := 13) hx hb dX12_init_77 (by decide) ?_
  refine hq_newa (atype := .int) (ty := .int) hx hb (hts _ tw_121) rfl hK hh hA 0 rfl (N' := 13) (a0 := (13, .inl (fun _ => 0))) (fun _ => rfl) (by decide) (by decide) (by decide) (Nat.le_of_ble_eq_true rfl) (Nat.le_of_ble_eq_true rfl) dX12_init_79 (fun q_450 H ad_450 en_450 had_450 hen_450 hh => ?_)
  have hh : Hp D A A s.heap H _ (List.range 8) ad_450 en_450 := hh
  have et_450 : en_450 0 = .inr (11, [.int 0, .int 0, .int 2, .int 0, .int 0, .ref q_434, .ref q_436, .ref q_438, .ref q_444, .ref q_446, .ref q_448, .null, .null, .null, .int 0, .long 0, .long 0, .long 0, .long 0, .null, .null, .null, .int 0, .long 0, .null, .int 0, .null, .null, .null, .null, .int 0, .null, .null]) := by rw [hen_450, va_up_ne _ _ (by decide)]; exact et_449
  have heta_450 : ad_450 0 = (ad 0) := by rw [had_450, va_up_ne _ _ (by decide)]; exact heta_448
  have e1_450 : en_450 1 = .inl (cy 0, 54, .inl (fun _ => 0)) := by rw [hen_450, va_up_ne _ _ (by decide)]; exact e1_449
  have he1a_450 : ad_450 1 = q_434 := by rw [had_450, va_up_ne _ _ (by decide)]; exact he1a_448
  have e2_450 : en_450 2 = .inl (cy 2, 36, .inl (fun _ => 0)) := by rw [hen_450, va_up_ne _ _ (by decide)]; exact e2_449
  have he2a_450 : ad_450 2 = q_436 := by rw [had_450, va_up_ne _ _ (by decide)]; exact he2a_448
  have e3_450 : en_450 3 = .inl (cy 0, 4, .inl (upd (upd (upd (upd (fun _ => 0) (0 : Int32).toNatClampNeg (-9)) (1 : Int32).toNatClampNeg (-9)) (2 : Int32).toNatClampNeg (-9)) (3 : Int32).toNatClampNeg (-9))) := by rw [hen_450, va_up_ne _ _ (by decide)]; exact e3_449
  have he3a_450 : ad_450 3 = q_438 := by rw [had_450, va_up_ne _ _ (by decide)]; exact he3a_448
  have e4_450 : en_450 4 = .inl (cy 0, 4, .inl (fun _ => 0)) := by rw [hen_450, va_up_ne _ _ (by decide)]; exact e4_449
  have he4a_450 : ad_450 4 = q_444 := by rw [had_450, va_up_ne _ _ (by decide)]; exact he4a_448
  have e5_450 : en_450 5 = .inl (cy 0, 160, .inl (fun _ => 0)) := by rw [hen_450, va_up_ne _ _ (by decide)]; exact e5_449
  have he5a_450 : ad_450 5 = q_446 := by rw [had_450, va_up_ne _ _ (by decide)]; exact he5a_448
  have e6_450 : en_450 6 = .inl (cy 1, 117, .inr (.inl (fun _ => 0))) := by rw [hen_450, va_up_ne _ _ (by decide)]; exact e6_449
  have he6a_450 : ad_450 6 = q_448 := by rw [had_450, va_up_ne _ _ (by decide)]; exact he6a_448
  have e7_450 : en_450 7 = .inl (cy 0, 13, .inl (fun _ => 0)) := by rw [hen_450]; exact va_up_self _ _ _
  have he7a_450 : ad_450 7 = q_450 := by rw [had_450]; exact va_up_self _ _ _
  clear heta_448 he1a_448 he2a_448 he3a_448 he4a_448 he5a_448 he6a_448 e1_449 e2_449 e3_449 e4_449 e5_449 e6_449 et_449
  refine W.widen (k := 7) (n := 388) (Nat.le_refl _) (Nat.le_refl _) ?_
  refine hp_putF hx hb hts ix12 tyX12 tyX12_ok nmX12 hown hK hh (q := 0) heta_450 (List.mem_range.mpr (by decide)) et_450 rfl 11 (by decide) (hts _ tw_890) (fun _ h9 => h9) rfl hin rfl (ty := (.array .int)) (by decide +kernel) rfl rfl (Nat.le_of_ble_eq_true rfl) dX12_init_81 (fun H locs en_451 hen_451 hh => ?_)
  have e1_451 : en_451 1 = .inl (cy 0, 54, .inl (fun _ => 0)) := by rw [hen_451, va_up_ne _ _ (by decide)]; exact e1_450
  have e2_451 : en_451 2 = .inl (cy 2, 36, .inl (fun _ => 0)) := by rw [hen_451, va_up_ne _ _ (by decide)]; exact e2_450
  have e3_451 : en_451 3 = .inl (cy 0, 4, .inl (upd (upd (upd (upd (fun _ => 0) (0 : Int32).toNatClampNeg (-9)) (1 : Int32).toNatClampNeg (-9)) (2 : Int32).toNatClampNeg (-9)) (3 : Int32).toNatClampNeg (-9))) := by rw [hen_451, va_up_ne _ _ (by decide)]; exact e3_450
  have e4_451 : en_451 4 = .inl (cy 0, 4, .inl (fun _ => 0)) := by rw [hen_451, va_up_ne _ _ (by decide)]; exact e4_450
  have e5_451 : en_451 5 = .inl (cy 0, 160, .inl (fun _ => 0)) := by rw [hen_451, va_up_ne _ _ (by decide)]; exact e5_450
  have e6_451 : en_451 6 = .inl (cy 1, 117, .inr (.inl (fun _ => 0))) := by rw [hen_451, va_up_ne _ _ (by decide)]; exact e6_450
  have e7_451 : en_451 7 = .inl (cy 0, 13, .inl (fun _ => 0)) := by rw [hen_451, va_up_ne _ _ (by decide)]; exact e7_450
  have et_451 : en_451 0 = .inr (11, [.int 0, .int 0, .int 2, .int 0, .int 0, .ref q_434, .ref q_436, .ref q_438, .ref q_444, .ref q_446, .ref q_448, .ref q_450, .null, .null, .int 0, .long 0, .long 0, .long 0, .long 0, .null, .null, .null, .int 0, .long 0, .null, .int 0, .null, .null, .null, .null, .int 0, .null, .null]) := by rw [hen_451]; exact va_up_self _ _ _
  clear et_450 e1_450 e2_450 e3_450 e4_450 e5_450 e6_450 e7_450
  refine lv_aload_n hx hb dX12_init_84 rfl (lv_at hl 0 rfl) ?_
  refine lv_bipush (v := 6) hx hb dX12_init_85 (by decide) ?_
  refine hq_newa (atype := .long) (ty := .long) hx hb (hts _ tw_61) rfl hK hh hA 1 rfl (N' := 6) (a0 := (6, .inr (.inl (fun _ => 0)))) (fun _ => rfl) (by decide) (by decide) (by decide) (Nat.le_of_ble_eq_true rfl) (Nat.le_of_ble_eq_true rfl) dX12_init_87 (fun q_452 H ad_452 en_452 had_452 hen_452 hh => ?_)
  have hh : Hp D A A s.heap H _ (List.range 9) ad_452 en_452 := hh
  have et_452 : en_452 0 = .inr (11, [.int 0, .int 0, .int 2, .int 0, .int 0, .ref q_434, .ref q_436, .ref q_438, .ref q_444, .ref q_446, .ref q_448, .ref q_450, .null, .null, .int 0, .long 0, .long 0, .long 0, .long 0, .null, .null, .null, .int 0, .long 0, .null, .int 0, .null, .null, .null, .null, .int 0, .null, .null]) := by rw [hen_452, va_up_ne _ _ (by decide)]; exact et_451
  have heta_452 : ad_452 0 = (ad 0) := by rw [had_452, va_up_ne _ _ (by decide)]; exact heta_450
  have e1_452 : en_452 1 = .inl (cy 0, 54, .inl (fun _ => 0)) := by rw [hen_452, va_up_ne _ _ (by decide)]; exact e1_451
  have he1a_452 : ad_452 1 = q_434 := by rw [had_452, va_up_ne _ _ (by decide)]; exact he1a_450
  have e2_452 : en_452 2 = .inl (cy 2, 36, .inl (fun _ => 0)) := by rw [hen_452, va_up_ne _ _ (by decide)]; exact e2_451
  have he2a_452 : ad_452 2 = q_436 := by rw [had_452, va_up_ne _ _ (by decide)]; exact he2a_450
  have e3_452 : en_452 3 = .inl (cy 0, 4, .inl (upd (upd (upd (upd (fun _ => 0) (0 : Int32).toNatClampNeg (-9)) (1 : Int32).toNatClampNeg (-9)) (2 : Int32).toNatClampNeg (-9)) (3 : Int32).toNatClampNeg (-9))) := by rw [hen_452, va_up_ne _ _ (by decide)]; exact e3_451
  have he3a_452 : ad_452 3 = q_438 := by rw [had_452, va_up_ne _ _ (by decide)]; exact he3a_450
  have e4_452 : en_452 4 = .inl (cy 0, 4, .inl (fun _ => 0)) := by rw [hen_452, va_up_ne _ _ (by decide)]; exact e4_451
  have he4a_452 : ad_452 4 = q_444 := by rw [had_452, va_up_ne _ _ (by decide)]; exact he4a_450
  have e5_452 : en_452 5 = .inl (cy 0, 160, .inl (fun _ => 0)) := by rw [hen_452, va_up_ne _ _ (by decide)]; exact e5_451
  have he5a_452 : ad_452 5 = q_446 := by rw [had_452, va_up_ne _ _ (by decide)]; exact he5a_450
  have e6_452 : en_452 6 = .inl (cy 1, 117, .inr (.inl (fun _ => 0))) := by rw [hen_452, va_up_ne _ _ (by decide)]; exact e6_451
  have he6a_452 : ad_452 6 = q_448 := by rw [had_452, va_up_ne _ _ (by decide)]; exact he6a_450
  have e7_452 : en_452 7 = .inl (cy 0, 13, .inl (fun _ => 0)) := by rw [hen_452, va_up_ne _ _ (by decide)]; exact e7_451
  have he7a_452 : ad_452 7 = q_450 := by rw [had_452, va_up_ne _ _ (by decide)]; exact he7a_450
  have e8_452 : en_452 8 = .inl (cy 1, 6, .inr (.inl (fun _ => 0))) := by rw [hen_452]; exact va_up_self _ _ _
  have he8a_452 : ad_452 8 = q_452 := by rw [had_452]; exact va_up_self _ _ _
  clear heta_450 he1a_450 he2a_450 he3a_450 he4a_450 he5a_450 he6a_450 he7a_450 e1_451 e2_451 e3_451 e4_451 e5_451 e6_451 e7_451 et_451
  refine W.widen (k := 8) (n := 394) (Nat.le_refl _) (Nat.le_refl _) ?_
  refine hp_putF hx hb hts ix12 tyX12 tyX12_ok nmX12 hown hK hh (q := 0) heta_452 (List.mem_range.mpr (by decide)) et_452 rfl 12 (by decide) (hts _ tw_891) (fun _ h9 => h9) rfl hin rfl (ty := (.array .long)) (by decide +kernel) rfl rfl (Nat.le_of_ble_eq_true rfl) dX12_init_89 (fun H locs en_453 hen_453 hh => ?_)
  have e1_453 : en_453 1 = .inl (cy 0, 54, .inl (fun _ => 0)) := by rw [hen_453, va_up_ne _ _ (by decide)]; exact e1_452
  have e2_453 : en_453 2 = .inl (cy 2, 36, .inl (fun _ => 0)) := by rw [hen_453, va_up_ne _ _ (by decide)]; exact e2_452
  have e3_453 : en_453 3 = .inl (cy 0, 4, .inl (upd (upd (upd (upd (fun _ => 0) (0 : Int32).toNatClampNeg (-9)) (1 : Int32).toNatClampNeg (-9)) (2 : Int32).toNatClampNeg (-9)) (3 : Int32).toNatClampNeg (-9))) := by rw [hen_453, va_up_ne _ _ (by decide)]; exact e3_452
  have e4_453 : en_453 4 = .inl (cy 0, 4, .inl (fun _ => 0)) := by rw [hen_453, va_up_ne _ _ (by decide)]; exact e4_452
  have e5_453 : en_453 5 = .inl (cy 0, 160, .inl (fun _ => 0)) := by rw [hen_453, va_up_ne _ _ (by decide)]; exact e5_452
  have e6_453 : en_453 6 = .inl (cy 1, 117, .inr (.inl (fun _ => 0))) := by rw [hen_453, va_up_ne _ _ (by decide)]; exact e6_452
  have e7_453 : en_453 7 = .inl (cy 0, 13, .inl (fun _ => 0)) := by rw [hen_453, va_up_ne _ _ (by decide)]; exact e7_452
  have e8_453 : en_453 8 = .inl (cy 1, 6, .inr (.inl (fun _ => 0))) := by rw [hen_453, va_up_ne _ _ (by decide)]; exact e8_452
  have et_453 : en_453 0 = .inr (11, [.int 0, .int 0, .int 2, .int 0, .int 0, .ref q_434, .ref q_436, .ref q_438, .ref q_444, .ref q_446, .ref q_448, .ref q_450, .ref q_452, .null, .int 0, .long 0, .long 0, .long 0, .long 0, .null, .null, .null, .int 0, .long 0, .null, .int 0, .null, .null, .null, .null, .int 0, .null, .null]) := by rw [hen_453]; exact va_up_self _ _ _
  clear et_452 e1_452 e2_452 e3_452 e4_452 e5_452 e6_452 e7_452 e8_452
  refine lv_aload_n hx hb dX12_init_92 rfl (lv_at hl 0 rfl) ?_
  refine lv_bipush (v := 6) hx hb dX12_init_93 (by decide) ?_
  refine hq_newa (atype := .long) (ty := .long) hx hb (hts _ tw_61) rfl hK hh hA 1 rfl (N' := 6) (a0 := (6, .inr (.inl (fun _ => 0)))) (fun _ => rfl) (by decide) (by decide) (by decide) (Nat.le_of_ble_eq_true rfl) (Nat.le_of_ble_eq_true rfl) dX12_init_95 (fun q_454 H ad_454 en_454 had_454 hen_454 hh => ?_)
  have hh : Hp D A A s.heap H _ (List.range 10) ad_454 en_454 := hh
  have et_454 : en_454 0 = .inr (11, [.int 0, .int 0, .int 2, .int 0, .int 0, .ref q_434, .ref q_436, .ref q_438, .ref q_444, .ref q_446, .ref q_448, .ref q_450, .ref q_452, .null, .int 0, .long 0, .long 0, .long 0, .long 0, .null, .null, .null, .int 0, .long 0, .null, .int 0, .null, .null, .null, .null, .int 0, .null, .null]) := by rw [hen_454, va_up_ne _ _ (by decide)]; exact et_453
  have heta_454 : ad_454 0 = (ad 0) := by rw [had_454, va_up_ne _ _ (by decide)]; exact heta_452
  have e1_454 : en_454 1 = .inl (cy 0, 54, .inl (fun _ => 0)) := by rw [hen_454, va_up_ne _ _ (by decide)]; exact e1_453
  have he1a_454 : ad_454 1 = q_434 := by rw [had_454, va_up_ne _ _ (by decide)]; exact he1a_452
  have e2_454 : en_454 2 = .inl (cy 2, 36, .inl (fun _ => 0)) := by rw [hen_454, va_up_ne _ _ (by decide)]; exact e2_453
  have he2a_454 : ad_454 2 = q_436 := by rw [had_454, va_up_ne _ _ (by decide)]; exact he2a_452
  have e3_454 : en_454 3 = .inl (cy 0, 4, .inl (upd (upd (upd (upd (fun _ => 0) (0 : Int32).toNatClampNeg (-9)) (1 : Int32).toNatClampNeg (-9)) (2 : Int32).toNatClampNeg (-9)) (3 : Int32).toNatClampNeg (-9))) := by rw [hen_454, va_up_ne _ _ (by decide)]; exact e3_453
  have he3a_454 : ad_454 3 = q_438 := by rw [had_454, va_up_ne _ _ (by decide)]; exact he3a_452
  have e4_454 : en_454 4 = .inl (cy 0, 4, .inl (fun _ => 0)) := by rw [hen_454, va_up_ne _ _ (by decide)]; exact e4_453
  have he4a_454 : ad_454 4 = q_444 := by rw [had_454, va_up_ne _ _ (by decide)]; exact he4a_452
  have e5_454 : en_454 5 = .inl (cy 0, 160, .inl (fun _ => 0)) := by rw [hen_454, va_up_ne _ _ (by decide)]; exact e5_453
  have he5a_454 : ad_454 5 = q_446 := by rw [had_454, va_up_ne _ _ (by decide)]; exact he5a_452
  have e6_454 : en_454 6 = .inl (cy 1, 117, .inr (.inl (fun _ => 0))) := by rw [hen_454, va_up_ne _ _ (by decide)]; exact e6_453
  have he6a_454 : ad_454 6 = q_448 := by rw [had_454, va_up_ne _ _ (by decide)]; exact he6a_452
  have e7_454 : en_454 7 = .inl (cy 0, 13, .inl (fun _ => 0)) := by rw [hen_454, va_up_ne _ _ (by decide)]; exact e7_453
  have he7a_454 : ad_454 7 = q_450 := by rw [had_454, va_up_ne _ _ (by decide)]; exact he7a_452
  have e8_454 : en_454 8 = .inl (cy 1, 6, .inr (.inl (fun _ => 0))) := by rw [hen_454, va_up_ne _ _ (by decide)]; exact e8_453
  have he8a_454 : ad_454 8 = q_452 := by rw [had_454, va_up_ne _ _ (by decide)]; exact he8a_452
  have e9_454 : en_454 9 = .inl (cy 1, 6, .inr (.inl (fun _ => 0))) := by rw [hen_454]; exact va_up_self _ _ _
  have he9a_454 : ad_454 9 = q_454 := by rw [had_454]; exact va_up_self _ _ _
  clear heta_452 he1a_452 he2a_452 he3a_452 he4a_452 he5a_452 he6a_452 he7a_452 he8a_452 e1_453 e2_453 e3_453 e4_453 e5_453 e6_453 e7_453 e8_453 et_453
  refine W.widen (k := 9) (n := 400) (Nat.le_refl _) (Nat.le_refl _) ?_
  refine hp_putF hx hb hts ix12 tyX12 tyX12_ok nmX12 hown hK hh (q := 0) heta_454 (List.mem_range.mpr (by decide)) et_454 rfl 13 (by decide) (hts _ tw_892) (fun _ h9 => h9) rfl hin rfl (ty := (.array .long)) (by decide +kernel) rfl rfl (Nat.le_of_ble_eq_true rfl) dX12_init_97 (fun H locs en_455 hen_455 hh => ?_)
  have e1_455 : en_455 1 = .inl (cy 0, 54, .inl (fun _ => 0)) := by rw [hen_455, va_up_ne _ _ (by decide)]; exact e1_454
  have e2_455 : en_455 2 = .inl (cy 2, 36, .inl (fun _ => 0)) := by rw [hen_455, va_up_ne _ _ (by decide)]; exact e2_454
  have e3_455 : en_455 3 = .inl (cy 0, 4, .inl (upd (upd (upd (upd (fun _ => 0) (0 : Int32).toNatClampNeg (-9)) (1 : Int32).toNatClampNeg (-9)) (2 : Int32).toNatClampNeg (-9)) (3 : Int32).toNatClampNeg (-9))) := by rw [hen_455, va_up_ne _ _ (by decide)]; exact e3_454
  have e4_455 : en_455 4 = .inl (cy 0, 4, .inl (fun _ => 0)) := by rw [hen_455, va_up_ne _ _ (by decide)]; exact e4_454
  have e5_455 : en_455 5 = .inl (cy 0, 160, .inl (fun _ => 0)) := by rw [hen_455, va_up_ne _ _ (by decide)]; exact e5_454
  have e6_455 : en_455 6 = .inl (cy 1, 117, .inr (.inl (fun _ => 0))) := by rw [hen_455, va_up_ne _ _ (by decide)]; exact e6_454
  have e7_455 : en_455 7 = .inl (cy 0, 13, .inl (fun _ => 0)) := by rw [hen_455, va_up_ne _ _ (by decide)]; exact e7_454
  have e8_455 : en_455 8 = .inl (cy 1, 6, .inr (.inl (fun _ => 0))) := by rw [hen_455, va_up_ne _ _ (by decide)]; exact e8_454
  have e9_455 : en_455 9 = .inl (cy 1, 6, .inr (.inl (fun _ => 0))) := by rw [hen_455, va_up_ne _ _ (by decide)]; exact e9_454
  have et_455 : en_455 0 = .inr (11, [.int 0, .int 0, .int 2, .int 0, .int 0, .ref q_434, .ref q_436, .ref q_438, .ref q_444, .ref q_446, .ref q_448, .ref q_450, .ref q_452, .ref q_454, .int 0, .long 0, .long 0, .long 0, .long 0, .null, .null, .null, .int 0, .long 0, .null, .int 0, .null, .null, .null, .null, .int 0, .null, .null]) := by rw [hen_455]; exact va_up_self _ _ _
  clear et_454 e1_454 e2_454 e3_454 e4_454 e5_454 e6_454 e7_454 e8_454 e9_454
  refine lv_aload_n hx hb dX12_init_100 rfl (lv_at hl 0 rfl) ?_
  refine lv_bipush (v := 12) hx hb dX12_init_101 (by decide) ?_
  refine hq_newa (atype := .int) (ty := .int) hx hb (hts _ tw_121) rfl hK hh hA 0 rfl (N' := 12) (a0 := (12, .inl (fun _ => 0))) (fun _ => rfl) (by decide) (by decide) (by decide) (Nat.le_of_ble_eq_true rfl) (Nat.le_of_ble_eq_true rfl) dX12_init_103 (fun q_456 H ad_456 en_456 had_456 hen_456 hh => ?_)
  have hh : Hp D A A s.heap H _ (List.range 11) ad_456 en_456 := hh
  have et_456 : en_456 0 = .inr (11, [.int 0, .int 0, .int 2, .int 0, .int 0, .ref q_434, .ref q_436, .ref q_438, .ref q_444, .ref q_446, .ref q_448, .ref q_450, .ref q_452, .ref q_454, .int 0, .long 0, .long 0, .long 0, .long 0, .null, .null, .null, .int 0, .long 0, .null, .int 0, .null, .null, .null, .null, .int 0, .null, .null]) := by rw [hen_456, va_up_ne _ _ (by decide)]; exact et_455
  have heta_456 : ad_456 0 = (ad 0) := by rw [had_456, va_up_ne _ _ (by decide)]; exact heta_454
  have e1_456 : en_456 1 = .inl (cy 0, 54, .inl (fun _ => 0)) := by rw [hen_456, va_up_ne _ _ (by decide)]; exact e1_455
  have he1a_456 : ad_456 1 = q_434 := by rw [had_456, va_up_ne _ _ (by decide)]; exact he1a_454
  have e2_456 : en_456 2 = .inl (cy 2, 36, .inl (fun _ => 0)) := by rw [hen_456, va_up_ne _ _ (by decide)]; exact e2_455
  have he2a_456 : ad_456 2 = q_436 := by rw [had_456, va_up_ne _ _ (by decide)]; exact he2a_454
  have e3_456 : en_456 3 = .inl (cy 0, 4, .inl (upd (upd (upd (upd (fun _ => 0) (0 : Int32).toNatClampNeg (-9)) (1 : Int32).toNatClampNeg (-9)) (2 : Int32).toNatClampNeg (-9)) (3 : Int32).toNatClampNeg (-9))) := by rw [hen_456, va_up_ne _ _ (by decide)]; exact e3_455
  have he3a_456 : ad_456 3 = q_438 := by rw [had_456, va_up_ne _ _ (by decide)]; exact he3a_454
  have e4_456 : en_456 4 = .inl (cy 0, 4, .inl (fun _ => 0)) := by rw [hen_456, va_up_ne _ _ (by decide)]; exact e4_455
  have he4a_456 : ad_456 4 = q_444 := by rw [had_456, va_up_ne _ _ (by decide)]; exact he4a_454
  have e5_456 : en_456 5 = .inl (cy 0, 160, .inl (fun _ => 0)) := by rw [hen_456, va_up_ne _ _ (by decide)]; exact e5_455
  have he5a_456 : ad_456 5 = q_446 := by rw [had_456, va_up_ne _ _ (by decide)]; exact he5a_454
  have e6_456 : en_456 6 = .inl (cy 1, 117, .inr (.inl (fun _ => 0))) := by rw [hen_456, va_up_ne _ _ (by decide)]; exact e6_455
  have he6a_456 : ad_456 6 = q_448 := by rw [had_456, va_up_ne _ _ (by decide)]; exact he6a_454
  have e7_456 : en_456 7 = .inl (cy 0, 13, .inl (fun _ => 0)) := by rw [hen_456, va_up_ne _ _ (by decide)]; exact e7_455
  have he7a_456 : ad_456 7 = q_450 := by rw [had_456, va_up_ne _ _ (by decide)]; exact he7a_454
  have e8_456 : en_456 8 = .inl (cy 1, 6, .inr (.inl (fun _ => 0))) := by rw [hen_456, va_up_ne _ _ (by decide)]; exact e8_455
  have he8a_456 : ad_456 8 = q_452 := by rw [had_456, va_up_ne _ _ (by decide)]; exact he8a_454
  have e9_456 : en_456 9 = .inl (cy 1, 6, .inr (.inl (fun _ => 0))) := by rw [hen_456, va_up_ne _ _ (by decide)]; exact e9_455
  have he9a_456 : ad_456 9 = q_454 := by rw [had_456, va_up_ne _ _ (by decide)]; exact he9a_454
  have e10_456 : en_456 10 = .inl (cy 0, 12, .inl (fun _ => 0)) := by rw [hen_456]; exact va_up_self _ _ _
  have he10a_456 : ad_456 10 = q_456 := by rw [had_456]; exact va_up_self _ _ _
  clear heta_454 he1a_454 he2a_454 he3a_454 he4a_454 he5a_454 he6a_454 he7a_454 he8a_454 he9a_454 e1_455 e2_455 e3_455 e4_455 e5_455 e6_455 e7_455 e8_455 e9_455 et_455
  refine W.widen (k := 10) (n := 412) (Nat.le_refl _) (Nat.le_refl _) ?_
  refine hp_putF hx hb hts ix12 tyX12 tyX12_ok nmX12 hown hK hh (q := 0) heta_456 (List.mem_range.mpr (by decide)) et_456 rfl 19 (by decide) (hts _ tw_898) (fun _ h9 => h9) rfl hin rfl (ty := (.array .int)) (by decide +kernel) rfl rfl (Nat.le_of_ble_eq_true rfl) dX12_init_105 (fun H locs en_457 hen_457 hh => ?_)
  have e1_457 : en_457 1 = .inl (cy 0, 54, .inl (fun _ => 0)) := by rw [hen_457, va_up_ne _ _ (by decide)]; exact e1_456
  have e2_457 : en_457 2 = .inl (cy 2, 36, .inl (fun _ => 0)) := by rw [hen_457, va_up_ne _ _ (by decide)]; exact e2_456
  have e3_457 : en_457 3 = .inl (cy 0, 4, .inl (upd (upd (upd (upd (fun _ => 0) (0 : Int32).toNatClampNeg (-9)) (1 : Int32).toNatClampNeg (-9)) (2 : Int32).toNatClampNeg (-9)) (3 : Int32).toNatClampNeg (-9))) := by rw [hen_457, va_up_ne _ _ (by decide)]; exact e3_456
  have e4_457 : en_457 4 = .inl (cy 0, 4, .inl (fun _ => 0)) := by rw [hen_457, va_up_ne _ _ (by decide)]; exact e4_456
  have e5_457 : en_457 5 = .inl (cy 0, 160, .inl (fun _ => 0)) := by rw [hen_457, va_up_ne _ _ (by decide)]; exact e5_456
  have e6_457 : en_457 6 = .inl (cy 1, 117, .inr (.inl (fun _ => 0))) := by rw [hen_457, va_up_ne _ _ (by decide)]; exact e6_456
  have e7_457 : en_457 7 = .inl (cy 0, 13, .inl (fun _ => 0)) := by rw [hen_457, va_up_ne _ _ (by decide)]; exact e7_456
  have e8_457 : en_457 8 = .inl (cy 1, 6, .inr (.inl (fun _ => 0))) := by rw [hen_457, va_up_ne _ _ (by decide)]; exact e8_456
  have e9_457 : en_457 9 = .inl (cy 1, 6, .inr (.inl (fun _ => 0))) := by rw [hen_457, va_up_ne _ _ (by decide)]; exact e9_456
  have e10_457 : en_457 10 = .inl (cy 0, 12, .inl (fun _ => 0)) := by rw [hen_457, va_up_ne _ _ (by decide)]; exact e10_456
  have et_457 : en_457 0 = .inr (11, [.int 0, .int 0, .int 2, .int 0, .int 0, .ref q_434, .ref q_436, .ref q_438, .ref q_444, .ref q_446, .ref q_448, .ref q_450, .ref q_452, .ref q_454, .int 0, .long 0, .long 0, .long 0, .long 0, .ref q_456, .null, .null, .int 0, .long 0, .null, .int 0, .null, .null, .null, .null, .int 0, .null, .null]) := by rw [hen_457]; exact va_up_self _ _ _
  clear et_456 e1_456 e2_456 e3_456 e4_456 e5_456 e6_456 e7_456 e8_456 e9_456 e10_456
  refine lv_aload_n hx hb dX12_init_108 rfl (lv_at hl 0 rfl) ?_
  refine lv_bipush (v := 12) hx hb dX12_init_109 (by decide) ?_
  refine hq_newa (atype := .int) (ty := .int) hx hb (hts _ tw_121) rfl hK hh hA 0 rfl (N' := 12) (a0 := (12, .inl (fun _ => 0))) (fun _ => rfl) (by decide) (by decide) (by decide) (Nat.le_of_ble_eq_true rfl) (Nat.le_of_ble_eq_true rfl) dX12_init_111 (fun q_458 H ad_458 en_458 had_458 hen_458 hh => ?_)
  have hh : Hp D A A s.heap H _ (List.range 12) ad_458 en_458 := hh
  have et_458 : en_458 0 = .inr (11, [.int 0, .int 0, .int 2, .int 0, .int 0, .ref q_434, .ref q_436, .ref q_438, .ref q_444, .ref q_446, .ref q_448, .ref q_450, .ref q_452, .ref q_454, .int 0, .long 0, .long 0, .long 0, .long 0, .ref q_456, .null, .null, .int 0, .long 0, .null, .int 0, .null, .null, .null, .null, .int 0, .null, .null]) := by rw [hen_458, va_up_ne _ _ (by decide)]; exact et_457
  have heta_458 : ad_458 0 = (ad 0) := by rw [had_458, va_up_ne _ _ (by decide)]; exact heta_456
  have e1_458 : en_458 1 = .inl (cy 0, 54, .inl (fun _ => 0)) := by rw [hen_458, va_up_ne _ _ (by decide)]; exact e1_457
  have he1a_458 : ad_458 1 = q_434 := by rw [had_458, va_up_ne _ _ (by decide)]; exact he1a_456
  have e2_458 : en_458 2 = .inl (cy 2, 36, .inl (fun _ => 0)) := by rw [hen_458, va_up_ne _ _ (by decide)]; exact e2_457
  have he2a_458 : ad_458 2 = q_436 := by rw [had_458, va_up_ne _ _ (by decide)]; exact he2a_456
  have e3_458 : en_458 3 = .inl (cy 0, 4, .inl (upd (upd (upd (upd (fun _ => 0) (0 : Int32).toNatClampNeg (-9)) (1 : Int32).toNatClampNeg (-9)) (2 : Int32).toNatClampNeg (-9)) (3 : Int32).toNatClampNeg (-9))) := by rw [hen_458, va_up_ne _ _ (by decide)]; exact e3_457
  have he3a_458 : ad_458 3 = q_438 := by rw [had_458, va_up_ne _ _ (by decide)]; exact he3a_456
  have e4_458 : en_458 4 = .inl (cy 0, 4, .inl (fun _ => 0)) := by rw [hen_458, va_up_ne _ _ (by decide)]; exact e4_457
  have he4a_458 : ad_458 4 = q_444 := by rw [had_458, va_up_ne _ _ (by decide)]; exact he4a_456
  have e5_458 : en_458 5 = .inl (cy 0, 160, .inl (fun _ => 0)) := by rw [hen_458, va_up_ne _ _ (by decide)]; exact e5_457
  have he5a_458 : ad_458 5 = q_446 := by rw [had_458, va_up_ne _ _ (by decide)]; exact he5a_456
  have e6_458 : en_458 6 = .inl (cy 1, 117, .inr (.inl (fun _ => 0))) := by rw [hen_458, va_up_ne _ _ (by decide)]; exact e6_457
  have he6a_458 : ad_458 6 = q_448 := by rw [had_458, va_up_ne _ _ (by decide)]; exact he6a_456
  have e7_458 : en_458 7 = .inl (cy 0, 13, .inl (fun _ => 0)) := by rw [hen_458, va_up_ne _ _ (by decide)]; exact e7_457
  have he7a_458 : ad_458 7 = q_450 := by rw [had_458, va_up_ne _ _ (by decide)]; exact he7a_456
  have e8_458 : en_458 8 = .inl (cy 1, 6, .inr (.inl (fun _ => 0))) := by rw [hen_458, va_up_ne _ _ (by decide)]; exact e8_457
  have he8a_458 : ad_458 8 = q_452 := by rw [had_458, va_up_ne _ _ (by decide)]; exact he8a_456
  have e9_458 : en_458 9 = .inl (cy 1, 6, .inr (.inl (fun _ => 0))) := by rw [hen_458, va_up_ne _ _ (by decide)]; exact e9_457
  have he9a_458 : ad_458 9 = q_454 := by rw [had_458, va_up_ne _ _ (by decide)]; exact he9a_456
  have e10_458 : en_458 10 = .inl (cy 0, 12, .inl (fun _ => 0)) := by rw [hen_458, va_up_ne _ _ (by decide)]; exact e10_457
  have he10a_458 : ad_458 10 = q_456 := by rw [had_458, va_up_ne _ _ (by decide)]; exact he10a_456
  have e11_458 : en_458 11 = .inl (cy 0, 12, .inl (fun _ => 0)) := by rw [hen_458]; exact va_up_self _ _ _
  have he11a_458 : ad_458 11 = q_458 := by rw [had_458]; exact va_up_self _ _ _
  clear heta_456 he1a_456 he2a_456 he3a_456 he4a_456 he5a_456 he6a_456 he7a_456 he8a_456 he9a_456 he10a_456 e1_457 e2_457 e3_457 e4_457 e5_457 e6_457 e7_457 e8_457 e9_457 e10_457 et_457
  refine W.widen (k := 11) (n := 424) (Nat.le_refl _) (Nat.le_refl _) ?_
  refine hp_putF hx hb hts ix12 tyX12 tyX12_ok nmX12 hown hK hh (q := 0) heta_458 (List.mem_range.mpr (by decide)) et_458 rfl 20 (by decide) (hts _ tw_899) (fun _ h9 => h9) rfl hin rfl (ty := (.array .int)) (by decide +kernel) rfl rfl (Nat.le_of_ble_eq_true rfl) dX12_init_113 (fun H locs en_459 hen_459 hh => ?_)
  have e1_459 : en_459 1 = .inl (cy 0, 54, .inl (fun _ => 0)) := by rw [hen_459, va_up_ne _ _ (by decide)]; exact e1_458
  have e2_459 : en_459 2 = .inl (cy 2, 36, .inl (fun _ => 0)) := by rw [hen_459, va_up_ne _ _ (by decide)]; exact e2_458
  have e3_459 : en_459 3 = .inl (cy 0, 4, .inl (upd (upd (upd (upd (fun _ => 0) (0 : Int32).toNatClampNeg (-9)) (1 : Int32).toNatClampNeg (-9)) (2 : Int32).toNatClampNeg (-9)) (3 : Int32).toNatClampNeg (-9))) := by rw [hen_459, va_up_ne _ _ (by decide)]; exact e3_458
  have e4_459 : en_459 4 = .inl (cy 0, 4, .inl (fun _ => 0)) := by rw [hen_459, va_up_ne _ _ (by decide)]; exact e4_458
  have e5_459 : en_459 5 = .inl (cy 0, 160, .inl (fun _ => 0)) := by rw [hen_459, va_up_ne _ _ (by decide)]; exact e5_458
  have e6_459 : en_459 6 = .inl (cy 1, 117, .inr (.inl (fun _ => 0))) := by rw [hen_459, va_up_ne _ _ (by decide)]; exact e6_458
  have e7_459 : en_459 7 = .inl (cy 0, 13, .inl (fun _ => 0)) := by rw [hen_459, va_up_ne _ _ (by decide)]; exact e7_458
  have e8_459 : en_459 8 = .inl (cy 1, 6, .inr (.inl (fun _ => 0))) := by rw [hen_459, va_up_ne _ _ (by decide)]; exact e8_458
  have e9_459 : en_459 9 = .inl (cy 1, 6, .inr (.inl (fun _ => 0))) := by rw [hen_459, va_up_ne _ _ (by decide)]; exact e9_458
  have e10_459 : en_459 10 = .inl (cy 0, 12, .inl (fun _ => 0)) := by rw [hen_459, va_up_ne _ _ (by decide)]; exact e10_458
  have e11_459 : en_459 11 = .inl (cy 0, 12, .inl (fun _ => 0)) := by rw [hen_459, va_up_ne _ _ (by decide)]; exact e11_458
  have et_459 : en_459 0 = .inr (11, [.int 0, .int 0, .int 2, .int 0, .int 0, .ref q_434, .ref q_436, .ref q_438, .ref q_444, .ref q_446, .ref q_448, .ref q_450, .ref q_452, .ref q_454, .int 0, .long 0, .long 0, .long 0, .long 0, .ref q_456, .ref q_458, .null, .int 0, .long 0, .null, .int 0, .null, .null, .null, .null, .int 0, .null, .null]) := by rw [hen_459]; exact va_up_self _ _ _
  clear et_458 e1_458 e2_458 e3_458 e4_458 e5_458 e6_458 e7_458 e8_458 e9_458 e10_458 e11_458
  refine lv_aload_n hx hb dX12_init_116 rfl (lv_at hl 0 rfl) ?_
  refine lv_bipush (v := 12) hx hb dX12_init_117 (by decide) ?_
  refine hq_newa (atype := .int) (ty := .int) hx hb (hts _ tw_121) rfl hK hh hA 0 rfl (N' := 12) (a0 := (12, .inl (fun _ => 0))) (fun _ => rfl) (by decide) (by decide) (by decide) (Nat.le_of_ble_eq_true rfl) (Nat.le_of_ble_eq_true rfl) dX12_init_119 (fun q_460 H ad_460 en_460 had_460 hen_460 hh => ?_)
  have hh : Hp D A A s.heap H _ (List.range 13) ad_460 en_460 := hh
  have et_460 : en_460 0 = .inr (11, [.int 0, .int 0, .int 2, .int 0, .int 0, .ref q_434, .ref q_436, .ref q_438, .ref q_444, .ref q_446, .ref q_448, .ref q_450, .ref q_452, .ref q_454, .int 0, .long 0, .long 0, .long 0, .long 0, .ref q_456, .ref q_458, .null, .int 0, .long 0, .null, .int 0, .null, .null, .null, .null, .int 0, .null, .null]) := by rw [hen_460, va_up_ne _ _ (by decide)]; exact et_459
  have heta_460 : ad_460 0 = (ad 0) := by rw [had_460, va_up_ne _ _ (by decide)]; exact heta_458
  have e1_460 : en_460 1 = .inl (cy 0, 54, .inl (fun _ => 0)) := by rw [hen_460, va_up_ne _ _ (by decide)]; exact e1_459
  have he1a_460 : ad_460 1 = q_434 := by rw [had_460, va_up_ne _ _ (by decide)]; exact he1a_458
  have e2_460 : en_460 2 = .inl (cy 2, 36, .inl (fun _ => 0)) := by rw [hen_460, va_up_ne _ _ (by decide)]; exact e2_459
  have he2a_460 : ad_460 2 = q_436 := by rw [had_460, va_up_ne _ _ (by decide)]; exact he2a_458
  have e3_460 : en_460 3 = .inl (cy 0, 4, .inl (upd (upd (upd (upd (fun _ => 0) (0 : Int32).toNatClampNeg (-9)) (1 : Int32).toNatClampNeg (-9)) (2 : Int32).toNatClampNeg (-9)) (3 : Int32).toNatClampNeg (-9))) := by rw [hen_460, va_up_ne _ _ (by decide)]; exact e3_459
  have he3a_460 : ad_460 3 = q_438 := by rw [had_460, va_up_ne _ _ (by decide)]; exact he3a_458
  have e4_460 : en_460 4 = .inl (cy 0, 4, .inl (fun _ => 0)) := by rw [hen_460, va_up_ne _ _ (by decide)]; exact e4_459
  have he4a_460 : ad_460 4 = q_444 := by rw [had_460, va_up_ne _ _ (by decide)]; exact he4a_458
  have e5_460 : en_460 5 = .inl (cy 0, 160, .inl (fun _ => 0)) := by rw [hen_460, va_up_ne _ _ (by decide)]; exact e5_459
  have he5a_460 : ad_460 5 = q_446 := by rw [had_460, va_up_ne _ _ (by decide)]; exact he5a_458
  have e6_460 : en_460 6 = .inl (cy 1, 117, .inr (.inl (fun _ => 0))) := by rw [hen_460, va_up_ne _ _ (by decide)]; exact e6_459
  have he6a_460 : ad_460 6 = q_448 := by rw [had_460, va_up_ne _ _ (by decide)]; exact he6a_458
  have e7_460 : en_460 7 = .inl (cy 0, 13, .inl (fun _ => 0)) := by rw [hen_460, va_up_ne _ _ (by decide)]; exact e7_459
  have he7a_460 : ad_460 7 = q_450 := by rw [had_460, va_up_ne _ _ (by decide)]; exact he7a_458
  have e8_460 : en_460 8 = .inl (cy 1, 6, .inr (.inl (fun _ => 0))) := by rw [hen_460, va_up_ne _ _ (by decide)]; exact e8_459
  have he8a_460 : ad_460 8 = q_452 := by rw [had_460, va_up_ne _ _ (by decide)]; exact he8a_458
  have e9_460 : en_460 9 = .inl (cy 1, 6, .inr (.inl (fun _ => 0))) := by rw [hen_460, va_up_ne _ _ (by decide)]; exact e9_459
  have he9a_460 : ad_460 9 = q_454 := by rw [had_460, va_up_ne _ _ (by decide)]; exact he9a_458
  have e10_460 : en_460 10 = .inl (cy 0, 12, .inl (fun _ => 0)) := by rw [hen_460, va_up_ne _ _ (by decide)]; exact e10_459
  have he10a_460 : ad_460 10 = q_456 := by rw [had_460, va_up_ne _ _ (by decide)]; exact he10a_458
  have e11_460 : en_460 11 = .inl (cy 0, 12, .inl (fun _ => 0)) := by rw [hen_460, va_up_ne _ _ (by decide)]; exact e11_459
  have he11a_460 : ad_460 11 = q_458 := by rw [had_460, va_up_ne _ _ (by decide)]; exact he11a_458
  have e12_460 : en_460 12 = .inl (cy 0, 12, .inl (fun _ => 0)) := by rw [hen_460]; exact va_up_self _ _ _
  have he12a_460 : ad_460 12 = q_460 := by rw [had_460]; exact va_up_self _ _ _
  clear heta_458 he1a_458 he2a_458 he3a_458 he4a_458 he5a_458 he6a_458 he7a_458 he8a_458 he9a_458 he10a_458 he11a_458 e1_459 e2_459 e3_459 e4_459 e5_459 e6_459 e7_459 e8_459 e9_459 e10_459 e11_459 et_459
  refine W.widen (k := 12) (n := 436) (Nat.le_refl _) (Nat.le_refl _) ?_
  refine hp_putF hx hb hts ix12 tyX12 tyX12_ok nmX12 hown hK hh (q := 0) heta_460 (List.mem_range.mpr (by decide)) et_460 rfl 21 (by decide) (hts _ tw_900) (fun _ h9 => h9) rfl hin rfl (ty := (.array .int)) (by decide +kernel) rfl rfl (Nat.le_of_ble_eq_true rfl) dX12_init_121 (fun H locs en_461 hen_461 hh => ?_)
  have e1_461 : en_461 1 = .inl (cy 0, 54, .inl (fun _ => 0)) := by rw [hen_461, va_up_ne _ _ (by decide)]; exact e1_460
  have e2_461 : en_461 2 = .inl (cy 2, 36, .inl (fun _ => 0)) := by rw [hen_461, va_up_ne _ _ (by decide)]; exact e2_460
  have e3_461 : en_461 3 = .inl (cy 0, 4, .inl (upd (upd (upd (upd (fun _ => 0) (0 : Int32).toNatClampNeg (-9)) (1 : Int32).toNatClampNeg (-9)) (2 : Int32).toNatClampNeg (-9)) (3 : Int32).toNatClampNeg (-9))) := by rw [hen_461, va_up_ne _ _ (by decide)]; exact e3_460
  have e4_461 : en_461 4 = .inl (cy 0, 4, .inl (fun _ => 0)) := by rw [hen_461, va_up_ne _ _ (by decide)]; exact e4_460
  have e5_461 : en_461 5 = .inl (cy 0, 160, .inl (fun _ => 0)) := by rw [hen_461, va_up_ne _ _ (by decide)]; exact e5_460
  have e6_461 : en_461 6 = .inl (cy 1, 117, .inr (.inl (fun _ => 0))) := by rw [hen_461, va_up_ne _ _ (by decide)]; exact e6_460
  have e7_461 : en_461 7 = .inl (cy 0, 13, .inl (fun _ => 0)) := by rw [hen_461, va_up_ne _ _ (by decide)]; exact e7_460
  have e8_461 : en_461 8 = .inl (cy 1, 6, .inr (.inl (fun _ => 0))) := by rw [hen_461, va_up_ne _ _ (by decide)]; exact e8_460
  have e9_461 : en_461 9 = .inl (cy 1, 6, .inr (.inl (fun _ => 0))) := by rw [hen_461, va_up_ne _ _ (by decide)]; exact e9_460
  have e10_461 : en_461 10 = .inl (cy 0, 12, .inl (fun _ => 0)) := by rw [hen_461, va_up_ne _ _ (by decide)]; exact e10_460
  have e11_461 : en_461 11 = .inl (cy 0, 12, .inl (fun _ => 0)) := by rw [hen_461, va_up_ne _ _ (by decide)]; exact e11_460
  have e12_461 : en_461 12 = .inl (cy 0, 12, .inl (fun _ => 0)) := by rw [hen_461, va_up_ne _ _ (by decide)]; exact e12_460
  have et_461 : en_461 0 = .inr (11, [.int 0, .int 0, .int 2, .int 0, .int 0, .ref q_434, .ref q_436, .ref q_438, .ref q_444, .ref q_446, .ref q_448, .ref q_450, .ref q_452, .ref q_454, .int 0, .long 0, .long 0, .long 0, .long 0, .ref q_456, .ref q_458, .ref q_460, .int 0, .long 0, .null, .int 0, .null, .null, .null, .null, .int 0, .null, .null]) := by rw [hen_461]; exact va_up_self _ _ _
  clear et_460 e1_460 e2_460 e3_460 e4_460 e5_460 e6_460 e7_460 e8_460 e9_460 e10_460 e11_460 e12_460
  refine lv_aload_n hx hb dX12_init_124 rfl (lv_at hl 0 rfl) ?_
  refine lv_bipush (v := 12) hx hb dX12_init_125 (by decide) ?_
  refine hq_newa (atype := .int) (ty := .int) hx hb (hts _ tw_121) rfl hK hh hA 0 rfl (N' := 12) (a0 := (12, .inl (fun _ => 0))) (fun _ => rfl) (by decide) (by decide) (by decide) (Nat.le_of_ble_eq_true rfl) (Nat.le_of_ble_eq_true rfl) dX12_init_127 (fun q_462 H ad_462 en_462 had_462 hen_462 hh => ?_)
  have hh : Hp D A A s.heap H _ (List.range 14) ad_462 en_462 := hh
  have et_462 : en_462 0 = .inr (11, [.int 0, .int 0, .int 2, .int 0, .int 0, .ref q_434, .ref q_436, .ref q_438, .ref q_444, .ref q_446, .ref q_448, .ref q_450, .ref q_452, .ref q_454, .int 0, .long 0, .long 0, .long 0, .long 0, .ref q_456, .ref q_458, .ref q_460, .int 0, .long 0, .null, .int 0, .null, .null, .null, .null, .int 0, .null, .null]) := by rw [hen_462, va_up_ne _ _ (by decide)]; exact et_461
  have heta_462 : ad_462 0 = (ad 0) := by rw [had_462, va_up_ne _ _ (by decide)]; exact heta_460
  have e1_462 : en_462 1 = .inl (cy 0, 54, .inl (fun _ => 0)) := by rw [hen_462, va_up_ne _ _ (by decide)]; exact e1_461
  have he1a_462 : ad_462 1 = q_434 := by rw [had_462, va_up_ne _ _ (by decide)]; exact he1a_460
  have e2_462 : en_462 2 = .inl (cy 2, 36, .inl (fun _ => 0)) := by rw [hen_462, va_up_ne _ _ (by decide)]; exact e2_461
  have he2a_462 : ad_462 2 = q_436 := by rw [had_462, va_up_ne _ _ (by decide)]; exact he2a_460
  have e3_462 : en_462 3 = .inl (cy 0, 4, .inl (upd (upd (upd (upd (fun _ => 0) (0 : Int32).toNatClampNeg (-9)) (1 : Int32).toNatClampNeg (-9)) (2 : Int32).toNatClampNeg (-9)) (3 : Int32).toNatClampNeg (-9))) := by rw [hen_462, va_up_ne _ _ (by decide)]; exact e3_461
  have he3a_462 : ad_462 3 = q_438 := by rw [had_462, va_up_ne _ _ (by decide)]; exact he3a_460
  have e4_462 : en_462 4 = .inl (cy 0, 4, .inl (fun _ => 0)) := by rw [hen_462, va_up_ne _ _ (by decide)]; exact e4_461
  have he4a_462 : ad_462 4 = q_444 := by rw [had_462, va_up_ne _ _ (by decide)]; exact he4a_460
  have e5_462 : en_462 5 = .inl (cy 0, 160, .inl (fun _ => 0)) := by rw [hen_462, va_up_ne _ _ (by decide)]; exact e5_461
  have he5a_462 : ad_462 5 = q_446 := by rw [had_462, va_up_ne _ _ (by decide)]; exact he5a_460
  have e6_462 : en_462 6 = .inl (cy 1, 117, .inr (.inl (fun _ => 0))) := by rw [hen_462, va_up_ne _ _ (by decide)]; exact e6_461
  have he6a_462 : ad_462 6 = q_448 := by rw [had_462, va_up_ne _ _ (by decide)]; exact he6a_460
  have e7_462 : en_462 7 = .inl (cy 0, 13, .inl (fun _ => 0)) := by rw [hen_462, va_up_ne _ _ (by decide)]; exact e7_461
  have he7a_462 : ad_462 7 = q_450 := by rw [had_462, va_up_ne _ _ (by decide)]; exact he7a_460
  have e8_462 : en_462 8 = .inl (cy 1, 6, .inr (.inl (fun _ => 0))) := by rw [hen_462, va_up_ne _ _ (by decide)]; exact e8_461
  have he8a_462 : ad_462 8 = q_452 := by rw [had_462, va_up_ne _ _ (by decide)]; exact he8a_460
  have e9_462 : en_462 9 = .inl (cy 1, 6, .inr (.inl (fun _ => 0))) := by rw [hen_462, va_up_ne _ _ (by decide)]; exact e9_461
  have he9a_462 : ad_462 9 = q_454 := by rw [had_462, va_up_ne _ _ (by decide)]; exact he9a_460
  have e10_462 : en_462 10 = .inl (cy 0, 12, .inl (fun _ => 0)) := by rw [hen_462, va_up_ne _ _ (by decide)]; exact e10_461
  have he10a_462 : ad_462 10 = q_456 := by rw [had_462, va_up_ne _ _ (by decide)]; exact he10a_460
  have e11_462 : en_462 11 = .inl (cy 0, 12, .inl (fun _ => 0)) := by rw [hen_462, va_up_ne _ _ (by decide)]; exact e11_461
  have he11a_462 : ad_462 11 = q_458 := by rw [had_462, va_up_ne _ _ (by decide)]; exact he11a_460
  have e12_462 : en_462 12 = .inl (cy 0, 12, .inl (fun _ => 0)) := by rw [hen_462, va_up_ne _ _ (by decide)]; exact e12_461
  have he12a_462 : ad_462 12 = q_460 := by rw [had_462, va_up_ne _ _ (by decide)]; exact he12a_460
  have e13_462 : en_462 13 = .inl (cy 0, 12, .inl (fun _ => 0)) := by rw [hen_462]; exact va_up_self _ _ _
  have he13a_462 : ad_462 13 = q_462 := by rw [had_462]; exact va_up_self _ _ _
  clear heta_460 he1a_460 he2a_460 he3a_460 he4a_460 he5a_460 he6a_460 he7a_460 he8a_460 he9a_460 he10a_460 he11a_460 he12a_460 e1_461 e2_461 e3_461 e4_461 e5_461 e6_461 e7_461 e8_461 e9_461 e10_461 e11_461 e12_461 et_461
  refine W.widen (k := 13) (n := 448) (Nat.le_refl _) (Nat.le_refl _) ?_
  refine hp_putF hx hb hts ix12 tyX12 tyX12_ok nmX12 hown hK hh (q := 0) heta_462 (List.mem_range.mpr (by decide)) et_462 rfl 24 (by decide) (hts _ tw_903) (fun _ h9 => h9) rfl hin rfl (ty := (.array .int)) (by decide +kernel) rfl rfl (Nat.le_of_ble_eq_true rfl) dX12_init_129 (fun H locs en_463 hen_463 hh => ?_)
  have e1_463 : en_463 1 = .inl (cy 0, 54, .inl (fun _ => 0)) := by rw [hen_463, va_up_ne _ _ (by decide)]; exact e1_462
  have e2_463 : en_463 2 = .inl (cy 2, 36, .inl (fun _ => 0)) := by rw [hen_463, va_up_ne _ _ (by decide)]; exact e2_462
  have e3_463 : en_463 3 = .inl (cy 0, 4, .inl (upd (upd (upd (upd (fun _ => 0) (0 : Int32).toNatClampNeg (-9)) (1 : Int32).toNatClampNeg (-9)) (2 : Int32).toNatClampNeg (-9)) (3 : Int32).toNatClampNeg (-9))) := by rw [hen_463, va_up_ne _ _ (by decide)]; exact e3_462
  have e4_463 : en_463 4 = .inl (cy 0, 4, .inl (fun _ => 0)) := by rw [hen_463, va_up_ne _ _ (by decide)]; exact e4_462
  have e5_463 : en_463 5 = .inl (cy 0, 160, .inl (fun _ => 0)) := by rw [hen_463, va_up_ne _ _ (by decide)]; exact e5_462
  have e6_463 : en_463 6 = .inl (cy 1, 117, .inr (.inl (fun _ => 0))) := by rw [hen_463, va_up_ne _ _ (by decide)]; exact e6_462
  have e7_463 : en_463 7 = .inl (cy 0, 13, .inl (fun _ => 0)) := by rw [hen_463, va_up_ne _ _ (by decide)]; exact e7_462
  have e8_463 : en_463 8 = .inl (cy 1, 6, .inr (.inl (fun _ => 0))) := by rw [hen_463, va_up_ne _ _ (by decide)]; exact e8_462
  have e9_463 : en_463 9 = .inl (cy 1, 6, .inr (.inl (fun _ => 0))) := by rw [hen_463, va_up_ne _ _ (by decide)]; exact e9_462
  have e10_463 : en_463 10 = .inl (cy 0, 12, .inl (fun _ => 0)) := by rw [hen_463, va_up_ne _ _ (by decide)]; exact e10_462
  have e11_463 : en_463 11 = .inl (cy 0, 12, .inl (fun _ => 0)) := by rw [hen_463, va_up_ne _ _ (by decide)]; exact e11_462
  have e12_463 : en_463 12 = .inl (cy 0, 12, .inl (fun _ => 0)) := by rw [hen_463, va_up_ne _ _ (by decide)]; exact e12_462
  have e13_463 : en_463 13 = .inl (cy 0, 12, .inl (fun _ => 0)) := by rw [hen_463, va_up_ne _ _ (by decide)]; exact e13_462
  have et_463 : en_463 0 = .inr (11, [.int 0, .int 0, .int 2, .int 0, .int 0, .ref q_434, .ref q_436, .ref q_438, .ref q_444, .ref q_446, .ref q_448, .ref q_450, .ref q_452, .ref q_454, .int 0, .long 0, .long 0, .long 0, .long 0, .ref q_456, .ref q_458, .ref q_460, .int 0, .long 0, .ref q_462, .int 0, .null, .null, .null, .null, .int 0, .null, .null]) := by rw [hen_463]; exact va_up_self _ _ _
  clear et_462 e1_462 e2_462 e3_462 e4_462 e5_462 e6_462 e7_462 e8_462 e9_462 e10_462 e11_462 e12_462 e13_462
  refine lv_aload_n hx hb dX12_init_132 rfl (lv_at hl 0 rfl) ?_
  refine lv_bipush (v := (-9)) hx hb dX12_init_133 (by decide) ?_
  refine hp_put hx hb hts ix12 tyX12 tyX12_ok nmX12 hown hK hh (q := 0) heta_462 (List.mem_range.mpr (by decide)) et_463 rfl 25 (by decide) (hts _ tw_904) (fun _ h9 => h9) rfl (ty := .int) (by decide +kernel) rfl rfl (Nat.le_of_ble_eq_true rfl) dX12_init_135 (fun H locs en_464 hen_464 hh => ?_)
  have e1_464 : en_464 1 = .inl (cy 0, 54, .inl (fun _ => 0)) := by rw [hen_464, va_up_ne _ _ (by decide)]; exact e1_463
  have e2_464 : en_464 2 = .inl (cy 2, 36, .inl (fun _ => 0)) := by rw [hen_464, va_up_ne _ _ (by decide)]; exact e2_463
  have e3_464 : en_464 3 = .inl (cy 0, 4, .inl (upd (upd (upd (upd (fun _ => 0) (0 : Int32).toNatClampNeg (-9)) (1 : Int32).toNatClampNeg (-9)) (2 : Int32).toNatClampNeg (-9)) (3 : Int32).toNatClampNeg (-9))) := by rw [hen_464, va_up_ne _ _ (by decide)]; exact e3_463
  have e4_464 : en_464 4 = .inl (cy 0, 4, .inl (fun _ => 0)) := by rw [hen_464, va_up_ne _ _ (by decide)]; exact e4_463
  have e5_464 : en_464 5 = .inl (cy 0, 160, .inl (fun _ => 0)) := by rw [hen_464, va_up_ne _ _ (by decide)]; exact e5_463
  have e6_464 : en_464 6 = .inl (cy 1, 117, .inr (.inl (fun _ => 0))) := by rw [hen_464, va_up_ne _ _ (by decide)]; exact e6_463
  have e7_464 : en_464 7 = .inl (cy 0, 13, .inl (fun _ => 0)) := by rw [hen_464, va_up_ne _ _ (by decide)]; exact e7_463
  have e8_464 : en_464 8 = .inl (cy 1, 6, .inr (.inl (fun _ => 0))) := by rw [hen_464, va_up_ne _ _ (by decide)]; exact e8_463
  have e9_464 : en_464 9 = .inl (cy 1, 6, .inr (.inl (fun _ => 0))) := by rw [hen_464, va_up_ne _ _ (by decide)]; exact e9_463
  have e10_464 : en_464 10 = .inl (cy 0, 12, .inl (fun _ => 0)) := by rw [hen_464, va_up_ne _ _ (by decide)]; exact e10_463
  have e11_464 : en_464 11 = .inl (cy 0, 12, .inl (fun _ => 0)) := by rw [hen_464, va_up_ne _ _ (by decide)]; exact e11_463
  have e12_464 : en_464 12 = .inl (cy 0, 12, .inl (fun _ => 0)) := by rw [hen_464, va_up_ne _ _ (by decide)]; exact e12_463
  have e13_464 : en_464 13 = .inl (cy 0, 12, .inl (fun _ => 0)) := by rw [hen_464, va_up_ne _ _ (by decide)]; exact e13_463
  have et_464 : en_464 0 = .inr (11, [.int 0, .int 0, .int 2, .int 0, .int 0, .ref q_434, .ref q_436, .ref q_438, .ref q_444, .ref q_446, .ref q_448, .ref q_450, .ref q_452, .ref q_454, .int 0, .long 0, .long 0, .long 0, .long 0, .ref q_456, .ref q_458, .ref q_460, .int 0, .long 0, .ref q_462, .int (-9), .null, .null, .null, .null, .int 0, .null, .null]) := by rw [hen_464]; exact va_up_self _ _ _
  clear e1_463 e2_463 e3_463 e4_463 e5_463 e6_463 e7_463 e8_463 e9_463 e10_463 e11_463 e12_463 e13_463 et_463
  refine lv_aload_n hx hb dX12_init_138 rfl (lv_at hl 0 rfl) ?_
  refine lv_sipush (v := 18009) hx hb dX12_init_139 (by decide) ?_
  refine hq_newa (atype := .long) (ty := .long) hx hb (hts _ tw_61) rfl hK hh hA 1 rfl (N' := 18009) (a0 := (18009, .inr (.inl (fun _ => 0)))) (fun _ => rfl) (by decide) (by decide) (by decide) (Nat.le_of_ble_eq_true rfl) (Nat.le_of_ble_eq_true rfl) dX12_init_142 (fun q_465 H ad_465 en_465 had_465 hen_465 hh => ?_)
  have hh : Hp D A A s.heap H _ (List.range 15) ad_465 en_465 := hh
  have et_465 : en_465 0 = .inr (11, [.int 0, .int 0, .int 2, .int 0, .int 0, .ref q_434, .ref q_436, .ref q_438, .ref q_444, .ref q_446, .ref q_448, .ref q_450, .ref q_452, .ref q_454, .int 0, .long 0, .long 0, .long 0, .long 0, .ref q_456, .ref q_458, .ref q_460, .int 0, .long 0, .ref q_462, .int (-9), .null, .null, .null, .null, .int 0, .null, .null]) := by rw [hen_465, va_up_ne _ _ (by decide)]; exact et_464
  have heta_465 : ad_465 0 = (ad 0) := by rw [had_465, va_up_ne _ _ (by decide)]; exact heta_462
  have e1_465 : en_465 1 = .inl (cy 0, 54, .inl (fun _ => 0)) := by rw [hen_465, va_up_ne _ _ (by decide)]; exact e1_464
  have he1a_465 : ad_465 1 = q_434 := by rw [had_465, va_up_ne _ _ (by decide)]; exact he1a_462
  have e2_465 : en_465 2 = .inl (cy 2, 36, .inl (fun _ => 0)) := by rw [hen_465, va_up_ne _ _ (by decide)]; exact e2_464
  have he2a_465 : ad_465 2 = q_436 := by rw [had_465, va_up_ne _ _ (by decide)]; exact he2a_462
  have e3_465 : en_465 3 = .inl (cy 0, 4, .inl (upd (upd (upd (upd (fun _ => 0) (0 : Int32).toNatClampNeg (-9)) (1 : Int32).toNatClampNeg (-9)) (2 : Int32).toNatClampNeg (-9)) (3 : Int32).toNatClampNeg (-9))) := by rw [hen_465, va_up_ne _ _ (by decide)]; exact e3_464
  have he3a_465 : ad_465 3 = q_438 := by rw [had_465, va_up_ne _ _ (by decide)]; exact he3a_462
  have e4_465 : en_465 4 = .inl (cy 0, 4, .inl (fun _ => 0)) := by rw [hen_465, va_up_ne _ _ (by decide)]; exact e4_464
  have he4a_465 : ad_465 4 = q_444 := by rw [had_465, va_up_ne _ _ (by decide)]; exact he4a_462
  have e5_465 : en_465 5 = .inl (cy 0, 160, .inl (fun _ => 0)) := by rw [hen_465, va_up_ne _ _ (by decide)]; exact e5_464
  have he5a_465 : ad_465 5 = q_446 := by rw [had_465, va_up_ne _ _ (by decide)]; exact he5a_462
  have e6_465 : en_465 6 = .inl (cy 1, 117, .inr (.inl (fun _ => 0))) := by rw [hen_465, va_up_ne _ _ (by decide)]; exact e6_464
  have he6a_465 : ad_465 6 = q_448 := by rw [had_465, va_up_ne _ _ (by decide)]; exact he6a_462
  have e7_465 : en_465 7 = .inl (cy 0, 13, .inl (fun _ => 0)) := by rw [hen_465, va_up_ne _ _ (by decide)]; exact e7_464
  have he7a_465 : ad_465 7 = q_450 := by rw [had_465, va_up_ne _ _ (by decide)]; exact he7a_462
  have e8_465 : en_465 8 = .inl (cy 1, 6, .inr (.inl (fun _ => 0))) := by rw [hen_465, va_up_ne _ _ (by decide)]; exact e8_464
  have he8a_465 : ad_465 8 = q_452 := by rw [had_465, va_up_ne _ _ (by decide)]; exact he8a_462
  have e9_465 : en_465 9 = .inl (cy 1, 6, .inr (.inl (fun _ => 0))) := by rw [hen_465, va_up_ne _ _ (by decide)]; exact e9_464
  have he9a_465 : ad_465 9 = q_454 := by rw [had_465, va_up_ne _ _ (by decide)]; exact he9a_462
  have e10_465 : en_465 10 = .inl (cy 0, 12, .inl (fun _ => 0)) := by rw [hen_465, va_up_ne _ _ (by decide)]; exact e10_464
  have he10a_465 : ad_465 10 = q_456 := by rw [had_465, va_up_ne _ _ (by decide)]; exact he10a_462
  have e11_465 : en_465 11 = .inl (cy 0, 12, .inl (fun _ => 0)) := by rw [hen_465, va_up_ne _ _ (by decide)]; exact e11_464
  have he11a_465 : ad_465 11 = q_458 := by rw [had_465, va_up_ne _ _ (by decide)]; exact he11a_462
  have e12_465 : en_465 12 = .inl (cy 0, 12, .inl (fun _ => 0)) := by rw [hen_465, va_up_ne _ _ (by decide)]; exact e12_464
  have he12a_465 : ad_465 12 = q_460 := by rw [had_465, va_up_ne _ _ (by decide)]; exact he12a_462
  have e13_465 : en_465 13 = .inl (cy 0, 12, .inl (fun _ => 0)) := by rw [hen_465, va_up_ne _ _ (by decide)]; exact e13_464
  have he13a_465 : ad_465 13 = q_462 := by rw [had_465, va_up_ne _ _ (by decide)]; exact he13a_462
  have e14_465 : en_465 14 = .inl (cy 1, 18009, .inr (.inl (fun _ => 0))) := by rw [hen_465]; exact va_up_self _ _ _
  have he14a_465 : ad_465 14 = q_465 := by rw [had_465]; exact va_up_self _ _ _
  clear heta_462 he1a_462 he2a_462 he3a_462 he4a_462 he5a_462 he6a_462 he7a_462 he8a_462 he9a_462 he10a_462 he11a_462 he12a_462 he13a_462 e1_464 e2_464 e3_464 e4_464 e5_464 e6_464 e7_464 e8_464 e9_464 e10_464 e11_464 e12_464 e13_464 et_464
  refine W.widen (k := 14) (n := 18457) (Nat.le_refl _) (Nat.le_refl _) ?_
  refine hp_putF hx hb hts ix12 tyX12 tyX12_ok nmX12 hown hK hh (q := 0) heta_465 (List.mem_range.mpr (by decide)) et_465 rfl 26 (by decide) (hts _ tw_905) (fun _ h9 => h9) rfl hin rfl (ty := (.array .long)) (by decide +kernel) rfl rfl (Nat.le_of_ble_eq_true rfl) dX12_init_144 (fun H locs en_466 hen_466 hh => ?_)
  have e1_466 : en_466 1 = .inl (cy 0, 54, .inl (fun _ => 0)) := by rw [hen_466, va_up_ne _ _ (by decide)]; exact e1_465
  have e2_466 : en_466 2 = .inl (cy 2, 36, .inl (fun _ => 0)) := by rw [hen_466, va_up_ne _ _ (by decide)]; exact e2_465
  have e3_466 : en_466 3 = .inl (cy 0, 4, .inl (upd (upd (upd (upd (fun _ => 0) (0 : Int32).toNatClampNeg (-9)) (1 : Int32).toNatClampNeg (-9)) (2 : Int32).toNatClampNeg (-9)) (3 : Int32).toNatClampNeg (-9))) := by rw [hen_466, va_up_ne _ _ (by decide)]; exact e3_465
  have e4_466 : en_466 4 = .inl (cy 0, 4, .inl (fun _ => 0)) := by rw [hen_466, va_up_ne _ _ (by decide)]; exact e4_465
  have e5_466 : en_466 5 = .inl (cy 0, 160, .inl (fun _ => 0)) := by rw [hen_466, va_up_ne _ _ (by decide)]; exact e5_465
  have e6_466 : en_466 6 = .inl (cy 1, 117, .inr (.inl (fun _ => 0))) := by rw [hen_466, va_up_ne _ _ (by decide)]; exact e6_465
  have e7_466 : en_466 7 = .inl (cy 0, 13, .inl (fun _ => 0)) := by rw [hen_466, va_up_ne _ _ (by decide)]; exact e7_465
  have e8_466 : en_466 8 = .inl (cy 1, 6, .inr (.inl (fun _ => 0))) := by rw [hen_466, va_up_ne _ _ (by decide)]; exact e8_465
  have e9_466 : en_466 9 = .inl (cy 1, 6, .inr (.inl (fun _ => 0))) := by rw [hen_466, va_up_ne _ _ (by decide)]; exact e9_465
  have e10_466 : en_466 10 = .inl (cy 0, 12, .inl (fun _ => 0)) := by rw [hen_466, va_up_ne _ _ (by decide)]; exact e10_465
  have e11_466 : en_466 11 = .inl (cy 0, 12, .inl (fun _ => 0)) := by rw [hen_466, va_up_ne _ _ (by decide)]; exact e11_465
  have e12_466 : en_466 12 = .inl (cy 0, 12, .inl (fun _ => 0)) := by rw [hen_466, va_up_ne _ _ (by decide)]; exact e12_465
  have e13_466 : en_466 13 = .inl (cy 0, 12, .inl (fun _ => 0)) := by rw [hen_466, va_up_ne _ _ (by decide)]; exact e13_465
  have e14_466 : en_466 14 = .inl (cy 1, 18009, .inr (.inl (fun _ => 0))) := by rw [hen_466, va_up_ne _ _ (by decide)]; exact e14_465
  have et_466 : en_466 0 = .inr (11, [.int 0, .int 0, .int 2, .int 0, .int 0, .ref q_434, .ref q_436, .ref q_438, .ref q_444, .ref q_446, .ref q_448, .ref q_450, .ref q_452, .ref q_454, .int 0, .long 0, .long 0, .long 0, .long 0, .ref q_456, .ref q_458, .ref q_460, .int 0, .long 0, .ref q_462, .int (-9), .ref q_465, .null, .null, .null, .int 0, .null, .null]) := by rw [hen_466]; exact va_up_self _ _ _
  clear et_465 e1_465 e2_465 e3_465 e4_465 e5_465 e6_465 e7_465 e8_465 e9_465 e10_465 e11_465 e12_465 e13_465 e14_465
  refine lv_aload_n hx hb dX12_init_147 rfl (lv_at hl 0 rfl) ?_
  refine lv_sipush (v := 2001) hx hb dX12_init_148 (by decide) ?_
  refine hq_newa (atype := .int) (ty := .int) hx hb (hts _ tw_121) rfl hK hh hA 0 rfl (N' := 2001) (a0 := (2001, .inl (fun _ => 0))) (fun _ => rfl) (by decide) (by decide) (by decide) (Nat.le_of_ble_eq_true rfl) (Nat.le_of_ble_eq_true rfl) dX12_init_151 (fun q_467 H ad_467 en_467 had_467 hen_467 hh => ?_)
  have hh : Hp D A A s.heap H _ (List.range 16) ad_467 en_467 := hh
  have et_467 : en_467 0 = .inr (11, [.int 0, .int 0, .int 2, .int 0, .int 0, .ref q_434, .ref q_436, .ref q_438, .ref q_444, .ref q_446, .ref q_448, .ref q_450, .ref q_452, .ref q_454, .int 0, .long 0, .long 0, .long 0, .long 0, .ref q_456, .ref q_458, .ref q_460, .int 0, .long 0, .ref q_462, .int (-9), .ref q_465, .null, .null, .null, .int 0, .null, .null]) := by rw [hen_467, va_up_ne _ _ (by decide)]; exact et_466
  have heta_467 : ad_467 0 = (ad 0) := by rw [had_467, va_up_ne _ _ (by decide)]; exact heta_465
  have e1_467 : en_467 1 = .inl (cy 0, 54, .inl (fun _ => 0)) := by rw [hen_467, va_up_ne _ _ (by decide)]; exact e1_466
  have he1a_467 : ad_467 1 = q_434 := by rw [had_467, va_up_ne _ _ (by decide)]; exact he1a_465
  have e2_467 : en_467 2 = .inl (cy 2, 36, .inl (fun _ => 0)) := by rw [hen_467, va_up_ne _ _ (by decide)]; exact e2_466
  have he2a_467 : ad_467 2 = q_436 := by rw [had_467, va_up_ne _ _ (by decide)]; exact he2a_465
  have e3_467 : en_467 3 = .inl (cy 0, 4, .inl (upd (upd (upd (upd (fun _ => 0) (0 : Int32).toNatClampNeg (-9)) (1 : Int32).toNatClampNeg (-9)) (2 : Int32).toNatClampNeg (-9)) (3 : Int32).toNatClampNeg (-9))) := by rw [hen_467, va_up_ne _ _ (by decide)]; exact e3_466
  have he3a_467 : ad_467 3 = q_438 := by rw [had_467, va_up_ne _ _ (by decide)]; exact he3a_465
  have e4_467 : en_467 4 = .inl (cy 0, 4, .inl (fun _ => 0)) := by rw [hen_467, va_up_ne _ _ (by decide)]; exact e4_466
  have he4a_467 : ad_467 4 = q_444 := by rw [had_467, va_up_ne _ _ (by decide)]; exact he4a_465
  have e5_467 : en_467 5 = .inl (cy 0, 160, .inl (fun _ => 0)) := by rw [hen_467, va_up_ne _ _ (by decide)]; exact e5_466
  have he5a_467 : ad_467 5 = q_446 := by rw [had_467, va_up_ne _ _ (by decide)]; exact he5a_465
  have e6_467 : en_467 6 = .inl (cy 1, 117, .inr (.inl (fun _ => 0))) := by rw [hen_467, va_up_ne _ _ (by decide)]; exact e6_466
  have he6a_467 : ad_467 6 = q_448 := by rw [had_467, va_up_ne _ _ (by decide)]; exact he6a_465
  have e7_467 : en_467 7 = .inl (cy 0, 13, .inl (fun _ => 0)) := by rw [hen_467, va_up_ne _ _ (by decide)]; exact e7_466
  have he7a_467 : ad_467 7 = q_450 := by rw [had_467, va_up_ne _ _ (by decide)]; exact he7a_465
  have e8_467 : en_467 8 = .inl (cy 1, 6, .inr (.inl (fun _ => 0))) := by rw [hen_467, va_up_ne _ _ (by decide)]; exact e8_466
  have he8a_467 : ad_467 8 = q_452 := by rw [had_467, va_up_ne _ _ (by decide)]; exact he8a_465
  have e9_467 : en_467 9 = .inl (cy 1, 6, .inr (.inl (fun _ => 0))) := by rw [hen_467, va_up_ne _ _ (by decide)]; exact e9_466
  have he9a_467 : ad_467 9 = q_454 := by rw [had_467, va_up_ne _ _ (by decide)]; exact he9a_465
  have e10_467 : en_467 10 = .inl (cy 0, 12, .inl (fun _ => 0)) := by rw [hen_467, va_up_ne _ _ (by decide)]; exact e10_466
  have he10a_467 : ad_467 10 = q_456 := by rw [had_467, va_up_ne _ _ (by decide)]; exact he10a_465
  have e11_467 : en_467 11 = .inl (cy 0, 12, .inl (fun _ => 0)) := by rw [hen_467, va_up_ne _ _ (by decide)]; exact e11_466
  have he11a_467 : ad_467 11 = q_458 := by rw [had_467, va_up_ne _ _ (by decide)]; exact he11a_465
  have e12_467 : en_467 12 = .inl (cy 0, 12, .inl (fun _ => 0)) := by rw [hen_467, va_up_ne _ _ (by decide)]; exact e12_466
  have he12a_467 : ad_467 12 = q_460 := by rw [had_467, va_up_ne _ _ (by decide)]; exact he12a_465
  have e13_467 : en_467 13 = .inl (cy 0, 12, .inl (fun _ => 0)) := by rw [hen_467, va_up_ne _ _ (by decide)]; exact e13_466
  have he13a_467 : ad_467 13 = q_462 := by rw [had_467, va_up_ne _ _ (by decide)]; exact he13a_465
  have e14_467 : en_467 14 = .inl (cy 1, 18009, .inr (.inl (fun _ => 0))) := by rw [hen_467, va_up_ne _ _ (by decide)]; exact e14_466
  have he14a_467 : ad_467 14 = q_465 := by rw [had_467, va_up_ne _ _ (by decide)]; exact he14a_465
  have e15_467 : en_467 15 = .inl (cy 0, 2001, .inl (fun _ => 0)) := by rw [hen_467]; exact va_up_self _ _ _
  have he15a_467 : ad_467 15 = q_467 := by rw [had_467]; exact va_up_self _ _ _
  clear heta_465 he1a_465 he2a_465 he3a_465 he4a_465 he5a_465 he6a_465 he7a_465 he8a_465 he9a_465 he10a_465 he11a_465 he12a_465 he13a_465 he14a_465 e1_466 e2_466 e3_466 e4_466 e5_466 e6_466 e7_466 e8_466 e9_466 e10_466 e11_466 e12_466 e13_466 e14_466 et_466
  refine W.widen (k := 15) (n := 20458) (Nat.le_refl _) (Nat.le_refl _) ?_
  refine hp_putF hx hb hts ix12 tyX12 tyX12_ok nmX12 hown hK hh (q := 0) heta_467 (List.mem_range.mpr (by decide)) et_467 rfl 27 (by decide) (hts _ tw_906) (fun _ h9 => h9) rfl hin rfl (ty := (.array .int)) (by decide +kernel) rfl rfl (Nat.le_of_ble_eq_true rfl) dX12_init_153 (fun H locs en_468 hen_468 hh => ?_)
  have e1_468 : en_468 1 = .inl (cy 0, 54, .inl (fun _ => 0)) := by rw [hen_468, va_up_ne _ _ (by decide)]; exact e1_467
  have e2_468 : en_468 2 = .inl (cy 2, 36, .inl (fun _ => 0)) := by rw [hen_468, va_up_ne _ _ (by decide)]; exact e2_467
  have e3_468 : en_468 3 = .inl (cy 0, 4, .inl (upd (upd (upd (upd (fun _ => 0) (0 : Int32).toNatClampNeg (-9)) (1 : Int32).toNatClampNeg (-9)) (2 : Int32).toNatClampNeg (-9)) (3 : Int32).toNatClampNeg (-9))) := by rw [hen_468, va_up_ne _ _ (by decide)]; exact e3_467
  have e4_468 : en_468 4 = .inl (cy 0, 4, .inl (fun _ => 0)) := by rw [hen_468, va_up_ne _ _ (by decide)]; exact e4_467
  have e5_468 : en_468 5 = .inl (cy 0, 160, .inl (fun _ => 0)) := by rw [hen_468, va_up_ne _ _ (by decide)]; exact e5_467
  have e6_468 : en_468 6 = .inl (cy 1, 117, .inr (.inl (fun _ => 0))) := by rw [hen_468, va_up_ne _ _ (by decide)]; exact e6_467
  have e7_468 : en_468 7 = .inl (cy 0, 13, .inl (fun _ => 0)) := by rw [hen_468, va_up_ne _ _ (by decide)]; exact e7_467
  have e8_468 : en_468 8 = .inl (cy 1, 6, .inr (.inl (fun _ => 0))) := by rw [hen_468, va_up_ne _ _ (by decide)]; exact e8_467
  have e9_468 : en_468 9 = .inl (cy 1, 6, .inr (.inl (fun _ => 0))) := by rw [hen_468, va_up_ne _ _ (by decide)]; exact e9_467
  have e10_468 : en_468 10 = .inl (cy 0, 12, .inl (fun _ => 0)) := by rw [hen_468, va_up_ne _ _ (by decide)]; exact e10_467
  have e11_468 : en_468 11 = .inl (cy 0, 12, .inl (fun _ => 0)) := by rw [hen_468, va_up_ne _ _ (by decide)]; exact e11_467
  have e12_468 : en_468 12 = .inl (cy 0, 12, .inl (fun _ => 0)) := by rw [hen_468, va_up_ne _ _ (by decide)]; exact e12_467
  have e13_468 : en_468 13 = .inl (cy 0, 12, .inl (fun _ => 0)) := by rw [hen_468, va_up_ne _ _ (by decide)]; exact e13_467
  have e14_468 : en_468 14 = .inl (cy 1, 18009, .inr (.inl (fun _ => 0))) := by rw [hen_468, va_up_ne _ _ (by decide)]; exact e14_467
  have e15_468 : en_468 15 = .inl (cy 0, 2001, .inl (fun _ => 0)) := by rw [hen_468, va_up_ne _ _ (by decide)]; exact e15_467
  have et_468 : en_468 0 = .inr (11, [.int 0, .int 0, .int 2, .int 0, .int 0, .ref q_434, .ref q_436, .ref q_438, .ref q_444, .ref q_446, .ref q_448, .ref q_450, .ref q_452, .ref q_454, .int 0, .long 0, .long 0, .long 0, .long 0, .ref q_456, .ref q_458, .ref q_460, .int 0, .long 0, .ref q_462, .int (-9), .ref q_465, .ref q_467, .null, .null, .int 0, .null, .null]) := by rw [hen_468]; exact va_up_self _ _ _
  clear et_467 e1_467 e2_467 e3_467 e4_467 e5_467 e6_467 e7_467 e8_467 e9_467 e10_467 e11_467 e12_467 e13_467 e14_467 e15_467
  refine lv_aload_n hx hb dX12_init_156 rfl (lv_at hl 0 rfl) ?_
  refine lv_sipush (v := 4096) hx hb dX12_init_157 (by decide) ?_
  refine hq_newa (atype := .int) (ty := .int) hx hb (hts _ tw_121) rfl hK hh hA 0 rfl (N' := 4096) (a0 := (4096, .inl (fun _ => 0))) (fun _ => rfl) (by decide) (by decide) (by decide) (Nat.le_of_ble_eq_true rfl) (Nat.le_of_ble_eq_true rfl) dX12_init_160 (fun q_469 H ad_469 en_469 had_469 hen_469 hh => ?_)
  have hh : Hp D A A s.heap H _ (List.range 17) ad_469 en_469 := hh
  have et_469 : en_469 0 = .inr (11, [.int 0, .int 0, .int 2, .int 0, .int 0, .ref q_434, .ref q_436, .ref q_438, .ref q_444, .ref q_446, .ref q_448, .ref q_450, .ref q_452, .ref q_454, .int 0, .long 0, .long 0, .long 0, .long 0, .ref q_456, .ref q_458, .ref q_460, .int 0, .long 0, .ref q_462, .int (-9), .ref q_465, .ref q_467, .null, .null, .int 0, .null, .null]) := by rw [hen_469, va_up_ne _ _ (by decide)]; exact et_468
  have heta_469 : ad_469 0 = (ad 0) := by rw [had_469, va_up_ne _ _ (by decide)]; exact heta_467
  have e1_469 : en_469 1 = .inl (cy 0, 54, .inl (fun _ => 0)) := by rw [hen_469, va_up_ne _ _ (by decide)]; exact e1_468
  have he1a_469 : ad_469 1 = q_434 := by rw [had_469, va_up_ne _ _ (by decide)]; exact he1a_467
  have e2_469 : en_469 2 = .inl (cy 2, 36, .inl (fun _ => 0)) := by rw [hen_469, va_up_ne _ _ (by decide)]; exact e2_468
  have he2a_469 : ad_469 2 = q_436 := by rw [had_469, va_up_ne _ _ (by decide)]; exact he2a_467
  have e3_469 : en_469 3 = .inl (cy 0, 4, .inl (upd (upd (upd (upd (fun _ => 0) (0 : Int32).toNatClampNeg (-9)) (1 : Int32).toNatClampNeg (-9)) (2 : Int32).toNatClampNeg (-9)) (3 : Int32).toNatClampNeg (-9))) := by rw [hen_469, va_up_ne _ _ (by decide)]; exact e3_468
  have he3a_469 : ad_469 3 = q_438 := by rw [had_469, va_up_ne _ _ (by decide)]; exact he3a_467
  have e4_469 : en_469 4 = .inl (cy 0, 4, .inl (fun _ => 0)) := by rw [hen_469, va_up_ne _ _ (by decide)]; exact e4_468
  have he4a_469 : ad_469 4 = q_444 := by rw [had_469, va_up_ne _ _ (by decide)]; exact he4a_467
  have e5_469 : en_469 5 = .inl (cy 0, 160, .inl (fun _ => 0)) := by rw [hen_469, va_up_ne _ _ (by decide)]; exact e5_468
  have he5a_469 : ad_469 5 = q_446 := by rw [had_469, va_up_ne _ _ (by decide)]; exact he5a_467
  have e6_469 : en_469 6 = .inl (cy 1, 117, .inr (.inl (fun _ => 0))) := by rw [hen_469, va_up_ne _ _ (by decide)]; exact e6_468
  have he6a_469 : ad_469 6 = q_448 := by rw [had_469, va_up_ne _ _ (by decide)]; exact he6a_467
  have e7_469 : en_469 7 = .inl (cy 0, 13, .inl (fun _ => 0)) := by rw [hen_469, va_up_ne _ _ (by decide)]; exact e7_468
  have he7a_469 : ad_469 7 = q_450 := by rw [had_469, va_up_ne _ _ (by decide)]; exact he7a_467
  have e8_469 : en_469 8 = .inl (cy 1, 6, .inr (.inl (fun _ => 0))) := by rw [hen_469, va_up_ne _ _ (by decide)]; exact e8_468
  have he8a_469 : ad_469 8 = q_452 := by rw [had_469, va_up_ne _ _ (by decide)]; exact he8a_467
  have e9_469 : en_469 9 = .inl (cy 1, 6, .inr (.inl (fun _ => 0))) := by rw [hen_469, va_up_ne _ _ (by decide)]; exact e9_468
  have he9a_469 : ad_469 9 = q_454 := by rw [had_469, va_up_ne _ _ (by decide)]; exact he9a_467
  have e10_469 : en_469 10 = .inl (cy 0, 12, .inl (fun _ => 0)) := by rw [hen_469, va_up_ne _ _ (by decide)]; exact e10_468
  have he10a_469 : ad_469 10 = q_456 := by rw [had_469, va_up_ne _ _ (by decide)]; exact he10a_467
  have e11_469 : en_469 11 = .inl (cy 0, 12, .inl (fun _ => 0)) := by rw [hen_469, va_up_ne _ _ (by decide)]; exact e11_468
  have he11a_469 : ad_469 11 = q_458 := by rw [had_469, va_up_ne _ _ (by decide)]; exact he11a_467
  have e12_469 : en_469 12 = .inl (cy 0, 12, .inl (fun _ => 0)) := by rw [hen_469, va_up_ne _ _ (by decide)]; exact e12_468
  have he12a_469 : ad_469 12 = q_460 := by rw [had_469, va_up_ne _ _ (by decide)]; exact he12a_467
  have e13_469 : en_469 13 = .inl (cy 0, 12, .inl (fun _ => 0)) := by rw [hen_469, va_up_ne _ _ (by decide)]; exact e13_468
  have he13a_469 : ad_469 13 = q_462 := by rw [had_469, va_up_ne _ _ (by decide)]; exact he13a_467
  have e14_469 : en_469 14 = .inl (cy 1, 18009, .inr (.inl (fun _ => 0))) := by rw [hen_469, va_up_ne _ _ (by decide)]; exact e14_468
  have he14a_469 : ad_469 14 = q_465 := by rw [had_469, va_up_ne _ _ (by decide)]; exact he14a_467
  have e15_469 : en_469 15 = .inl (cy 0, 2001, .inl (fun _ => 0)) := by rw [hen_469, va_up_ne _ _ (by decide)]; exact e15_468
  have he15a_469 : ad_469 15 = q_467 := by rw [had_469, va_up_ne _ _ (by decide)]; exact he15a_467
  have e16_469 : en_469 16 = .inl (cy 0, 4096, .inl (fun _ => 0)) := by rw [hen_469]; exact va_up_self _ _ _
  have he16a_469 : ad_469 16 = q_469 := by rw [had_469]; exact va_up_self _ _ _
  clear heta_467 he1a_467 he2a_467 he3a_467 he4a_467 he5a_467 he6a_467 he7a_467 he8a_467 he9a_467 he10a_467 he11a_467 he12a_467 he13a_467 he14a_467 he15a_467 e1_468 e2_468 e3_468 e4_468 e5_468 e6_468 e7_468 e8_468 e9_468 e10_468 e11_468 e12_468 e13_468 e14_468 e15_468 et_468
  refine W.widen (k := 16) (n := 24554) (Nat.le_refl _) (Nat.le_refl _) ?_
  refine hp_putF hx hb hts ix12 tyX12 tyX12_ok nmX12 hown hK hh (q := 0) heta_469 (List.mem_range.mpr (by decide)) et_469 rfl 28 (by decide) (hts _ tw_907) (fun _ h9 => h9) rfl hin rfl (ty := (.array .int)) (by decide +kernel) rfl rfl (Nat.le_of_ble_eq_true rfl) dX12_init_162 (fun H locs en_470 hen_470 hh => ?_)
  have e1_470 : en_470 1 = .inl (cy 0, 54, .inl (fun _ => 0)) := by rw [hen_470, va_up_ne _ _ (by decide)]; exact e1_469
  have e2_470 : en_470 2 = .inl (cy 2, 36, .inl (fun _ => 0)) := by rw [hen_470, va_up_ne _ _ (by decide)]; exact e2_469
  have e3_470 : en_470 3 = .inl (cy 0, 4, .inl (upd (upd (upd (upd (fun _ => 0) (0 : Int32).toNatClampNeg (-9)) (1 : Int32).toNatClampNeg (-9)) (2 : Int32).toNatClampNeg (-9)) (3 : Int32).toNatClampNeg (-9))) := by rw [hen_470, va_up_ne _ _ (by decide)]; exact e3_469
  have e4_470 : en_470 4 = .inl (cy 0, 4, .inl (fun _ => 0)) := by rw [hen_470, va_up_ne _ _ (by decide)]; exact e4_469
  have e5_470 : en_470 5 = .inl (cy 0, 160, .inl (fun _ => 0)) := by rw [hen_470, va_up_ne _ _ (by decide)]; exact e5_469
  have e6_470 : en_470 6 = .inl (cy 1, 117, .inr (.inl (fun _ => 0))) := by rw [hen_470, va_up_ne _ _ (by decide)]; exact e6_469
  have e7_470 : en_470 7 = .inl (cy 0, 13, .inl (fun _ => 0)) := by rw [hen_470, va_up_ne _ _ (by decide)]; exact e7_469
  have e8_470 : en_470 8 = .inl (cy 1, 6, .inr (.inl (fun _ => 0))) := by rw [hen_470, va_up_ne _ _ (by decide)]; exact e8_469
  have e9_470 : en_470 9 = .inl (cy 1, 6, .inr (.inl (fun _ => 0))) := by rw [hen_470, va_up_ne _ _ (by decide)]; exact e9_469
  have e10_470 : en_470 10 = .inl (cy 0, 12, .inl (fun _ => 0)) := by rw [hen_470, va_up_ne _ _ (by decide)]; exact e10_469
  have e11_470 : en_470 11 = .inl (cy 0, 12, .inl (fun _ => 0)) := by rw [hen_470, va_up_ne _ _ (by decide)]; exact e11_469
  have e12_470 : en_470 12 = .inl (cy 0, 12, .inl (fun _ => 0)) := by rw [hen_470, va_up_ne _ _ (by decide)]; exact e12_469
  have e13_470 : en_470 13 = .inl (cy 0, 12, .inl (fun _ => 0)) := by rw [hen_470, va_up_ne _ _ (by decide)]; exact e13_469
  have e14_470 : en_470 14 = .inl (cy 1, 18009, .inr (.inl (fun _ => 0))) := by rw [hen_470, va_up_ne _ _ (by decide)]; exact e14_469
  have e15_470 : en_470 15 = .inl (cy 0, 2001, .inl (fun _ => 0)) := by rw [hen_470, va_up_ne _ _ (by decide)]; exact e15_469
  have e16_470 : en_470 16 = .inl (cy 0, 4096, .inl (fun _ => 0)) := by rw [hen_470, va_up_ne _ _ (by decide)]; exact e16_469
  have et_470 : en_470 0 = .inr (11, [.int 0, .int 0, .int 2, .int 0, .int 0, .ref q_434, .ref q_436, .ref q_438, .ref q_444, .ref q_446, .ref q_448, .ref q_450, .ref q_452, .ref q_454, .int 0, .long 0, .long 0, .long 0, .long 0, .ref q_456, .ref q_458, .ref q_460, .int 0, .long 0, .ref q_462, .int (-9), .ref q_465, .ref q_467, .ref q_469, .null, .int 0, .null, .null]) := by rw [hen_470]; exact va_up_self _ _ _
  clear et_469 e1_469 e2_469 e3_469 e4_469 e5_469 e6_469 e7_469 e8_469 e9_469 e10_469 e11_469 e12_469 e13_469 e14_469 e15_469 e16_469
  refine lv_aload_n hx hb dX12_init_165 rfl (lv_at hl 0 rfl) ?_
  refine lv_sipush (v := 2001) hx hb dX12_init_166 (by decide) ?_
  refine hq_newa (atype := .int) (ty := .int) hx hb (hts _ tw_121) rfl hK hh hA 0 rfl (N' := 2001) (a0 := (2001, .inl (fun _ => 0))) (fun _ => rfl) (by decide) (by decide) (by decide) (Nat.le_of_ble_eq_true rfl) (Nat.le_of_ble_eq_true rfl) dX12_init_169 (fun q_471 H ad_471 en_471 had_471 hen_471 hh => ?_)
  have hh : Hp D A A s.heap H _ (List.range 18) ad_471 en_471 := hh
  have et_471 : en_471 0 = .inr (11, [.int 0, .int 0, .int 2, .int 0, .int 0, .ref q_434, .ref q_436, .ref q_438, .ref q_444, .ref q_446, .ref q_448, .ref q_450, .ref q_452, .ref q_454, .int 0, .long 0, .long 0, .long 0, .long 0, .ref q_456, .ref q_458, .ref q_460, .int 0, .long 0, .ref q_462, .int (-9), .ref q_465, .ref q_467, .ref q_469, .null, .int 0, .null, .null]) := by rw [hen_471, va_up_ne _ _ (by decide)]; exact et_470
  have heta_471 : ad_471 0 = (ad 0) := by rw [had_471, va_up_ne _ _ (by decide)]; exact heta_469
  have e1_471 : en_471 1 = .inl (cy 0, 54, .inl (fun _ => 0)) := by rw [hen_471, va_up_ne _ _ (by decide)]; exact e1_470
  have he1a_471 : ad_471 1 = q_434 := by rw [had_471, va_up_ne _ _ (by decide)]; exact he1a_469
  have e2_471 : en_471 2 = .inl (cy 2, 36, .inl (fun _ => 0)) := by rw [hen_471, va_up_ne _ _ (by decide)]; exact e2_470
  have he2a_471 : ad_471 2 = q_436 := by rw [had_471, va_up_ne _ _ (by decide)]; exact he2a_469
  have e3_471 : en_471 3 = .inl (cy 0, 4, .inl (upd (upd (upd (upd (fun _ => 0) (0 : Int32).toNatClampNeg (-9)) (1 : Int32).toNatClampNeg (-9)) (2 : Int32).toNatClampNeg (-9)) (3 : Int32).toNatClampNeg (-9))) := by rw [hen_471, va_up_ne _ _ (by decide)]; exact e3_470
  have he3a_471 : ad_471 3 = q_438 := by rw [had_471, va_up_ne _ _ (by decide)]; exact he3a_469
  have e4_471 : en_471 4 = .inl (cy 0, 4, .inl (fun _ => 0)) := by rw [hen_471, va_up_ne _ _ (by decide)]; exact e4_470
  have he4a_471 : ad_471 4 = q_444 := by rw [had_471, va_up_ne _ _ (by decide)]; exact he4a_469
  have e5_471 : en_471 5 = .inl (cy 0, 160, .inl (fun _ => 0)) := by rw [hen_471, va_up_ne _ _ (by decide)]; exact e5_470
  have he5a_471 : ad_471 5 = q_446 := by rw [had_471, va_up_ne _ _ (by decide)]; exact he5a_469
  have e6_471 : en_471 6 = .inl (cy 1, 117, .inr (.inl (fun _ => 0))) := by rw [hen_471, va_up_ne _ _ (by decide)]; exact e6_470
  have he6a_471 : ad_471 6 = q_448 := by rw [had_471, va_up_ne _ _ (by decide)]; exact he6a_469
  have e7_471 : en_471 7 = .inl (cy 0, 13, .inl (fun _ => 0)) := by rw [hen_471, va_up_ne _ _ (by decide)]; exact e7_470
  have he7a_471 : ad_471 7 = q_450 := by rw [had_471, va_up_ne _ _ (by decide)]; exact he7a_469
  have e8_471 : en_471 8 = .inl (cy 1, 6, .inr (.inl (fun _ => 0))) := by rw [hen_471, va_up_ne _ _ (by decide)]; exact e8_470
  have he8a_471 : ad_471 8 = q_452 := by rw [had_471, va_up_ne _ _ (by decide)]; exact he8a_469
  have e9_471 : en_471 9 = .inl (cy 1, 6, .inr (.inl (fun _ => 0))) := by rw [hen_471, va_up_ne _ _ (by decide)]; exact e9_470
  have he9a_471 : ad_471 9 = q_454 := by rw [had_471, va_up_ne _ _ (by decide)]; exact he9a_469
  have e10_471 : en_471 10 = .inl (cy 0, 12, .inl (fun _ => 0)) := by rw [hen_471, va_up_ne _ _ (by decide)]; exact e10_470
  have he10a_471 : ad_471 10 = q_456 := by rw [had_471, va_up_ne _ _ (by decide)]; exact he10a_469
  have e11_471 : en_471 11 = .inl (cy 0, 12, .inl (fun _ => 0)) := by rw [hen_471, va_up_ne _ _ (by decide)]; exact e11_470
  have he11a_471 : ad_471 11 = q_458 := by rw [had_471, va_up_ne _ _ (by decide)]; exact he11a_469
  have e12_471 : en_471 12 = .inl (cy 0, 12, .inl (fun _ => 0)) := by rw [hen_471, va_up_ne _ _ (by decide)]; exact e12_470
  have he12a_471 : ad_471 12 = q_460 := by rw [had_471, va_up_ne _ _ (by decide)]; exact he12a_469
  have e13_471 : en_471 13 = .inl (cy 0, 12, .inl (fun _ => 0)) := by rw [hen_471, va_up_ne _ _ (by decide)]; exact e13_470
  have he13a_471 : ad_471 13 = q_462 := by rw [had_471, va_up_ne _ _ (by decide)]; exact he13a_469
  have e14_471 : en_471 14 = .inl (cy 1, 18009, .inr (.inl (fun _ => 0))) := by rw [hen_471, va_up_ne _ _ (by decide)]; exact e14_470
  have he14a_471 : ad_471 14 = q_465 := by rw [had_471, va_up_ne _ _ (by decide)]; exact he14a_469
  have e15_471 : en_471 15 = .inl (cy 0, 2001, .inl (fun _ => 0)) := by rw [hen_471, va_up_ne _ _ (by decide)]; exact e15_470
  have he15a_471 : ad_471 15 = q_467 := by rw [had_471, va_up_ne _ _ (by decide)]; exact he15a_469
  have e16_471 : en_471 16 = .inl (cy 0, 4096, .inl (fun _ => 0)) := by rw [hen_471, va_up_ne _ _ (by decide)]; exact e16_470
  have he16a_471 : ad_471 16 = q_469 := by rw [had_471, va_up_ne _ _ (by decide)]; exact he16a_469
  have e17_471 : en_471 17 = .inl (cy 0, 2001, .inl (fun _ => 0)) := by rw [hen_471]; exact va_up_self _ _ _
  have he17a_471 : ad_471 17 = q_471 := by rw [had_471]; exact va_up_self _ _ _
  clear heta_469 he1a_469 he2a_469 he3a_469 he4a_469 he5a_469 he6a_469 he7a_469 he8a_469 he9a_469 he10a_469 he11a_469 he12a_469 he13a_469 he14a_469 he15a_469 he16a_469 e1_470 e2_470 e3_470 e4_470 e5_470 e6_470 e7_470 e8_470 e9_470 e10_470 e11_470 e12_470 e13_470 e14_470 e15_470 e16_470 et_470
  refine W.widen (k := 17) (n := 26555) (Nat.le_refl _) (Nat.le_refl _) ?_
  refine hp_putF hx hb hts ix12 tyX12 tyX12_ok nmX12 hown hK hh (q := 0) heta_471 (List.mem_range.mpr (by decide)) et_471 rfl 29 (by decide) (hts _ tw_908) (fun _ h9 => h9) rfl hin rfl (ty := (.array .int)) (by decide +kernel) rfl rfl (Nat.le_of_ble_eq_true rfl) dX12_init_171 (fun H locs en_472 hen_472 hh => ?_)
  have e1_472 : en_472 1 = .inl (cy 0, 54, .inl (fun _ => 0)) := by rw [hen_472, va_up_ne _ _ (by decide)]; exact e1_471
  have e2_472 : en_472 2 = .inl (cy 2, 36, .inl (fun _ => 0)) := by rw [hen_472, va_up_ne _ _ (by decide)]; exact e2_471
  have e3_472 : en_472 3 = .inl (cy 0, 4, .inl (upd (upd (upd (upd (fun _ => 0) (0 : Int32).toNatClampNeg (-9)) (1 : Int32).toNatClampNeg (-9)) (2 : Int32).toNatClampNeg (-9)) (3 : Int32).toNatClampNeg (-9))) := by rw [hen_472, va_up_ne _ _ (by decide)]; exact e3_471
  have e4_472 : en_472 4 = .inl (cy 0, 4, .inl (fun _ => 0)) := by rw [hen_472, va_up_ne _ _ (by decide)]; exact e4_471
  have e5_472 : en_472 5 = .inl (cy 0, 160, .inl (fun _ => 0)) := by rw [hen_472, va_up_ne _ _ (by decide)]; exact e5_471
  have e6_472 : en_472 6 = .inl (cy 1, 117, .inr (.inl (fun _ => 0))) := by rw [hen_472, va_up_ne _ _ (by decide)]; exact e6_471
  have e7_472 : en_472 7 = .inl (cy 0, 13, .inl (fun _ => 0)) := by rw [hen_472, va_up_ne _ _ (by decide)]; exact e7_471
  have e8_472 : en_472 8 = .inl (cy 1, 6, .inr (.inl (fun _ => 0))) := by rw [hen_472, va_up_ne _ _ (by decide)]; exact e8_471
  have e9_472 : en_472 9 = .inl (cy 1, 6, .inr (.inl (fun _ => 0))) := by rw [hen_472, va_up_ne _ _ (by decide)]; exact e9_471
  have e10_472 : en_472 10 = .inl (cy 0, 12, .inl (fun _ => 0)) := by rw [hen_472, va_up_ne _ _ (by decide)]; exact e10_471
  have e11_472 : en_472 11 = .inl (cy 0, 12, .inl (fun _ => 0)) := by rw [hen_472, va_up_ne _ _ (by decide)]; exact e11_471
  have e12_472 : en_472 12 = .inl (cy 0, 12, .inl (fun _ => 0)) := by rw [hen_472, va_up_ne _ _ (by decide)]; exact e12_471
  have e13_472 : en_472 13 = .inl (cy 0, 12, .inl (fun _ => 0)) := by rw [hen_472, va_up_ne _ _ (by decide)]; exact e13_471
  have e14_472 : en_472 14 = .inl (cy 1, 18009, .inr (.inl (fun _ => 0))) := by rw [hen_472, va_up_ne _ _ (by decide)]; exact e14_471
  have e15_472 : en_472 15 = .inl (cy 0, 2001, .inl (fun _ => 0)) := by rw [hen_472, va_up_ne _ _ (by decide)]; exact e15_471
  have e16_472 : en_472 16 = .inl (cy 0, 4096, .inl (fun _ => 0)) := by rw [hen_472, va_up_ne _ _ (by decide)]; exact e16_471
  have e17_472 : en_472 17 = .inl (cy 0, 2001, .inl (fun _ => 0)) := by rw [hen_472, va_up_ne _ _ (by decide)]; exact e17_471
  have et_472 : en_472 0 = .inr (11, [.int 0, .int 0, .int 2, .int 0, .int 0, .ref q_434, .ref q_436, .ref q_438, .ref q_444, .ref q_446, .ref q_448, .ref q_450, .ref q_452, .ref q_454, .int 0, .long 0, .long 0, .long 0, .long 0, .ref q_456, .ref q_458, .ref q_460, .int 0, .long 0, .ref q_462, .int (-9), .ref q_465, .ref q_467, .ref q_469, .ref q_471, .int 0, .null, .null]) := by rw [hen_472]; exact va_up_self _ _ _
  clear et_471 e1_471 e2_471 e3_471 e4_471 e5_471 e6_471 e7_471 e8_471 e9_471 e10_471 e11_471 e12_471 e13_471 e14_471 e15_471 e16_471 e17_471
  refine lv_aload_n hx hb dX12_init_174 rfl (lv_at hl 0 rfl) ?_
  refine lv_bipush (v := 120) hx hb dX12_init_175 (by decide) ?_
  refine hq_newa (atype := .int) (ty := .int) hx hb (hts _ tw_121) rfl hK hh hA 0 rfl (N' := 120) (a0 := (120, .inl (fun _ => 0))) (fun _ => rfl) (by decide) (by decide) (by decide) (Nat.le_of_ble_eq_true rfl) (Nat.le_of_ble_eq_true rfl) dX12_init_177 (fun q_473 H ad_473 en_473 had_473 hen_473 hh => ?_)
  have hh : Hp D A A s.heap H _ (List.range 19) ad_473 en_473 := hh
  have et_473 : en_473 0 = .inr (11, [.int 0, .int 0, .int 2, .int 0, .int 0, .ref q_434, .ref q_436, .ref q_438, .ref q_444, .ref q_446, .ref q_448, .ref q_450, .ref q_452, .ref q_454, .int 0, .long 0, .long 0, .long 0, .long 0, .ref q_456, .ref q_458, .ref q_460, .int 0, .long 0, .ref q_462, .int (-9), .ref q_465, .ref q_467, .ref q_469, .ref q_471, .int 0, .null, .null]) := by rw [hen_473, va_up_ne _ _ (by decide)]; exact et_472
  have heta_473 : ad_473 0 = (ad 0) := by rw [had_473, va_up_ne _ _ (by decide)]; exact heta_471
  have e1_473 : en_473 1 = .inl (cy 0, 54, .inl (fun _ => 0)) := by rw [hen_473, va_up_ne _ _ (by decide)]; exact e1_472
  have he1a_473 : ad_473 1 = q_434 := by rw [had_473, va_up_ne _ _ (by decide)]; exact he1a_471
  have e2_473 : en_473 2 = .inl (cy 2, 36, .inl (fun _ => 0)) := by rw [hen_473, va_up_ne _ _ (by decide)]; exact e2_472
  have he2a_473 : ad_473 2 = q_436 := by rw [had_473, va_up_ne _ _ (by decide)]; exact he2a_471
  have e3_473 : en_473 3 = .inl (cy 0, 4, .inl (upd (upd (upd (upd (fun _ => 0) (0 : Int32).toNatClampNeg (-9)) (1 : Int32).toNatClampNeg (-9)) (2 : Int32).toNatClampNeg (-9)) (3 : Int32).toNatClampNeg (-9))) := by rw [hen_473, va_up_ne _ _ (by decide)]; exact e3_472
  have he3a_473 : ad_473 3 = q_438 := by rw [had_473, va_up_ne _ _ (by decide)]; exact he3a_471
  have e4_473 : en_473 4 = .inl (cy 0, 4, .inl (fun _ => 0)) := by rw [hen_473, va_up_ne _ _ (by decide)]; exact e4_472
  have he4a_473 : ad_473 4 = q_444 := by rw [had_473, va_up_ne _ _ (by decide)]; exact he4a_471
  have e5_473 : en_473 5 = .inl (cy 0, 160, .inl (fun _ => 0)) := by rw [hen_473, va_up_ne _ _ (by decide)]; exact e5_472
  have he5a_473 : ad_473 5 = q_446 := by rw [had_473, va_up_ne _ _ (by decide)]; exact he5a_471
  have e6_473 : en_473 6 = .inl (cy 1, 117, .inr (.inl (fun _ => 0))) := by rw [hen_473, va_up_ne _ _ (by decide)]; exact e6_472
  have he6a_473 : ad_473 6 = q_448 := by rw [had_473, va_up_ne _ _ (by decide)]; exact he6a_471
  have e7_473 : en_473 7 = .inl (cy 0, 13, .inl (fun _ => 0)) := by rw [hen_473, va_up_ne _ _ (by decide)]; exact e7_472
  have he7a_473 : ad_473 7 = q_450 := by rw [had_473, va_up_ne _ _ (by decide)]; exact he7a_471
  have e8_473 : en_473 8 = .inl (cy 1, 6, .inr (.inl (fun _ => 0))) := by rw [hen_473, va_up_ne _ _ (by decide)]; exact e8_472
  have he8a_473 : ad_473 8 = q_452 := by rw [had_473, va_up_ne _ _ (by decide)]; exact he8a_471
  have e9_473 : en_473 9 = .inl (cy 1, 6, .inr (.inl (fun _ => 0))) := by rw [hen_473, va_up_ne _ _ (by decide)]; exact e9_472
  have he9a_473 : ad_473 9 = q_454 := by rw [had_473, va_up_ne _ _ (by decide)]; exact he9a_471
  have e10_473 : en_473 10 = .inl (cy 0, 12, .inl (fun _ => 0)) := by rw [hen_473, va_up_ne _ _ (by decide)]; exact e10_472
  have he10a_473 : ad_473 10 = q_456 := by rw [had_473, va_up_ne _ _ (by decide)]; exact he10a_471
  have e11_473 : en_473 11 = .inl (cy 0, 12, .inl (fun _ => 0)) := by rw [hen_473, va_up_ne _ _ (by decide)]; exact e11_472
  have he11a_473 : ad_473 11 = q_458 := by rw [had_473, va_up_ne _ _ (by decide)]; exact he11a_471
  have e12_473 : en_473 12 = .inl (cy 0, 12, .inl (fun _ => 0)) := by rw [hen_473, va_up_ne _ _ (by decide)]; exact e12_472
  have he12a_473 : ad_473 12 = q_460 := by rw [had_473, va_up_ne _ _ (by decide)]; exact he12a_471
  have e13_473 : en_473 13 = .inl (cy 0, 12, .inl (fun _ => 0)) := by rw [hen_473, va_up_ne _ _ (by decide)]; exact e13_472
  have he13a_473 : ad_473 13 = q_462 := by rw [had_473, va_up_ne _ _ (by decide)]; exact he13a_471
  have e14_473 : en_473 14 = .inl (cy 1, 18009, .inr (.inl (fun _ => 0))) := by rw [hen_473, va_up_ne _ _ (by decide)]; exact e14_472
  have he14a_473 : ad_473 14 = q_465 := by rw [had_473, va_up_ne _ _ (by decide)]; exact he14a_471
  have e15_473 : en_473 15 = .inl (cy 0, 2001, .inl (fun _ => 0)) := by rw [hen_473, va_up_ne _ _ (by decide)]; exact e15_472
  have he15a_473 : ad_473 15 = q_467 := by rw [had_473, va_up_ne _ _ (by decide)]; exact he15a_471
  have e16_473 : en_473 16 = .inl (cy 0, 4096, .inl (fun _ => 0)) := by rw [hen_473, va_up_ne _ _ (by decide)]; exact e16_472
  have he16a_473 : ad_473 16 = q_469 := by rw [had_473, va_up_ne _ _ (by decide)]; exact he16a_471
  have e17_473 : en_473 17 = .inl (cy 0, 2001, .inl (fun _ => 0)) := by rw [hen_473, va_up_ne _ _ (by decide)]; exact e17_472
  have he17a_473 : ad_473 17 = q_471 := by rw [had_473, va_up_ne _ _ (by decide)]; exact he17a_471
  have e18_473 : en_473 18 = .inl (cy 0, 120, .inl (fun _ => 0)) := by rw [hen_473]; exact va_up_self _ _ _
  have he18a_473 : ad_473 18 = q_473 := by rw [had_473]; exact va_up_self _ _ _
  clear heta_471 he1a_471 he2a_471 he3a_471 he4a_471 he5a_471 he6a_471 he7a_471 he8a_471 he9a_471 he10a_471 he11a_471 he12a_471 he13a_471 he14a_471 he15a_471 he16a_471 he17a_471 e1_472 e2_472 e3_472 e4_472 e5_472 e6_472 e7_472 e8_472 e9_472 e10_472 e11_472 e12_472 e13_472 e14_472 e15_472 e16_472 e17_472 et_472
  refine W.widen (k := 18) (n := 26675) (Nat.le_refl _) (Nat.le_refl _) ?_
  refine hp_putF hx hb hts ix12 tyX12 tyX12_ok nmX12 hown hK hh (q := 0) heta_473 (List.mem_range.mpr (by decide)) et_473 rfl 31 (by decide) (hts _ tw_910) (fun _ h9 => h9) rfl hin rfl (ty := (.array .int)) (by decide +kernel) rfl rfl (Nat.le_of_ble_eq_true rfl) dX12_init_179 (fun H locs en_474 hen_474 hh => ?_)
  have e1_474 : en_474 1 = .inl (cy 0, 54, .inl (fun _ => 0)) := by rw [hen_474, va_up_ne _ _ (by decide)]; exact e1_473
  have e2_474 : en_474 2 = .inl (cy 2, 36, .inl (fun _ => 0)) := by rw [hen_474, va_up_ne _ _ (by decide)]; exact e2_473
  have e3_474 : en_474 3 = .inl (cy 0, 4, .inl (upd (upd (upd (upd (fun _ => 0) (0 : Int32).toNatClampNeg (-9)) (1 : Int32).toNatClampNeg (-9)) (2 : Int32).toNatClampNeg (-9)) (3 : Int32).toNatClampNeg (-9))) := by rw [hen_474, va_up_ne _ _ (by decide)]; exact e3_473
  have e4_474 : en_474 4 = .inl (cy 0, 4, .inl (fun _ => 0)) := by rw [hen_474, va_up_ne _ _ (by decide)]; exact e4_473
  have e5_474 : en_474 5 = .inl (cy 0, 160, .inl (fun _ => 0)) := by rw [hen_474, va_up_ne _ _ (by decide)]; exact e5_473
  have e6_474 : en_474 6 = .inl (cy 1, 117, .inr (.inl (fun _ => 0))) := by rw [hen_474, va_up_ne _ _ (by decide)]; exact e6_473
  have e7_474 : en_474 7 = .inl (cy 0, 13, .inl (fun _ => 0)) := by rw [hen_474, va_up_ne _ _ (by decide)]; exact e7_473
  have e8_474 : en_474 8 = .inl (cy 1, 6, .inr (.inl (fun _ => 0))) := by rw [hen_474, va_up_ne _ _ (by decide)]; exact e8_473
  have e9_474 : en_474 9 = .inl (cy 1, 6, .inr (.inl (fun _ => 0))) := by rw [hen_474, va_up_ne _ _ (by decide)]; exact e9_473
  have e10_474 : en_474 10 = .inl (cy 0, 12, .inl (fun _ => 0)) := by rw [hen_474, va_up_ne _ _ (by decide)]; exact e10_473
  have e11_474 : en_474 11 = .inl (cy 0, 12, .inl (fun _ => 0)) := by rw [hen_474, va_up_ne _ _ (by decide)]; exact e11_473
  have e12_474 : en_474 12 = .inl (cy 0, 12, .inl (fun _ => 0)) := by rw [hen_474, va_up_ne _ _ (by decide)]; exact e12_473
  have e13_474 : en_474 13 = .inl (cy 0, 12, .inl (fun _ => 0)) := by rw [hen_474, va_up_ne _ _ (by decide)]; exact e13_473
  have e14_474 : en_474 14 = .inl (cy 1, 18009, .inr (.inl (fun _ => 0))) := by rw [hen_474, va_up_ne _ _ (by decide)]; exact e14_473
  have e15_474 : en_474 15 = .inl (cy 0, 2001, .inl (fun _ => 0)) := by rw [hen_474, va_up_ne _ _ (by decide)]; exact e15_473
  have e16_474 : en_474 16 = .inl (cy 0, 4096, .inl (fun _ => 0)) := by rw [hen_474, va_up_ne _ _ (by decide)]; exact e16_473
  have e17_474 : en_474 17 = .inl (cy 0, 2001, .inl (fun _ => 0)) := by rw [hen_474, va_up_ne _ _ (by decide)]; exact e17_473
  have e18_474 : en_474 18 = .inl (cy 0, 120, .inl (fun _ => 0)) := by rw [hen_474, va_up_ne _ _ (by decide)]; exact e18_473
  have et_474 : en_474 0 = .inr (11, [.int 0, .int 0, .int 2, .int 0, .int 0, .ref q_434, .ref q_436, .ref q_438, .ref q_444, .ref q_446, .ref q_448, .ref q_450, .ref q_452, .ref q_454, .int 0, .long 0, .long 0, .long 0, .long 0, .ref q_456, .ref q_458, .ref q_460, .int 0, .long 0, .ref q_462, .int (-9), .ref q_465, .ref q_467, .ref q_469, .ref q_471, .int 0, .ref q_473, .null]) := by rw [hen_474]; exact va_up_self _ _ _
  clear et_473 e1_473 e2_473 e3_473 e4_473 e5_473 e6_473 e7_473 e8_473 e9_473 e10_473 e11_473 e12_473 e13_473 e14_473 e15_473 e16_473 e17_473 e18_473
  refine lv_aload_n hx hb dX12_init_182 rfl (lv_at hl 0 rfl) ?_
  refine lv_bipush (v := 10) hx hb dX12_init_183 (by decide) ?_
  refine hq_newa (atype := .int) (ty := .int) hx hb (hts _ tw_121) rfl hK hh hA 0 rfl (N' := 10) (a0 := (10, .inl (fun _ => 0))) (fun _ => rfl) (by decide) (by decide) (by decide) (Nat.le_of_ble_eq_true rfl) (Nat.le_of_ble_eq_true rfl) dX12_init_185 (fun q_475 H ad_475 en_475 had_475 hen_475 hh => ?_)
  have hh : Hp D A A s.heap H _ (List.range 20) ad_475 en_475 := hh
  have et_475 : en_475 0 = .inr (11, [.int 0, .int 0, .int 2, .int 0, .int 0, .ref q_434, .ref q_436, .ref q_438, .ref q_444, .ref q_446, .ref q_448, .ref q_450, .ref q_452, .ref q_454, .int 0, .long 0, .long 0, .long 0, .long 0, .ref q_456, .ref q_458, .ref q_460, .int 0, .long 0, .ref q_462, .int (-9), .ref q_465, .ref q_467, .ref q_469, .ref q_471, .int 0, .ref q_473, .null]) := by rw [hen_475, va_up_ne _ _ (by decide)]; exact et_474
  have heta_475 : ad_475 0 = (ad 0) := by rw [had_475, va_up_ne _ _ (by decide)]; exact heta_473
  have e1_475 : en_475 1 = .inl (cy 0, 54, .inl (fun _ => 0)) := by rw [hen_475, va_up_ne _ _ (by decide)]; exact e1_474
  have he1a_475 : ad_475 1 = q_434 := by rw [had_475, va_up_ne _ _ (by decide)]; exact he1a_473
  have e2_475 : en_475 2 = .inl (cy 2, 36, .inl (fun _ => 0)) := by rw [hen_475, va_up_ne _ _ (by decide)]; exact e2_474
  have he2a_475 : ad_475 2 = q_436 := by rw [had_475, va_up_ne _ _ (by decide)]; exact he2a_473
  have e3_475 : en_475 3 = .inl (cy 0, 4, .inl (upd (upd (upd (upd (fun _ => 0) (0 : Int32).toNatClampNeg (-9)) (1 : Int32).toNatClampNeg (-9)) (2 : Int32).toNatClampNeg (-9)) (3 : Int32).toNatClampNeg (-9))) := by rw [hen_475, va_up_ne _ _ (by decide)]; exact e3_474
  have he3a_475 : ad_475 3 = q_438 := by rw [had_475, va_up_ne _ _ (by decide)]; exact he3a_473
  have e4_475 : en_475 4 = .inl (cy 0, 4, .inl (fun _ => 0)) := by rw [hen_475, va_up_ne _ _ (by decide)]; exact e4_474
  have he4a_475 : ad_475 4 = q_444 := by rw [had_475, va_up_ne _ _ (by decide)]; exact he4a_473
  have e5_475 : en_475 5 = .inl (cy 0, 160, .inl (fun _ => 0)) := by rw [hen_475, va_up_ne _ _ (by decide)]; exact e5_474
  have he5a_475 : ad_475 5 = q_446 := by rw [had_475, va_up_ne _ _ (by decide)]; exact he5a_473
  have e6_475 : en_475 6 = .inl (cy 1, 117, .inr (.inl (fun _ => 0))) := by rw [hen_475, va_up_ne _ _ (by decide)]; exact e6_474
  have he6a_475 : ad_475 6 = q_448 := by rw [had_475, va_up_ne _ _ (by decide)]; exact he6a_473
  have e7_475 : en_475 7 = .inl (cy 0, 13, .inl (fun _ => 0)) := by rw [hen_475, va_up_ne _ _ (by decide)]; exact e7_474
  have he7a_475 : ad_475 7 = q_450 := by rw [had_475, va_up_ne _ _ (by decide)]; exact he7a_473
  have e8_475 : en_475 8 = .inl (cy 1, 6, .inr (.inl (fun _ => 0))) := by rw [hen_475, va_up_ne _ _ (by decide)]; exact e8_474
  have he8a_475 : ad_475 8 = q_452 := by rw [had_475, va_up_ne _ _ (by decide)]; exact he8a_473
  have e9_475 : en_475 9 = .inl (cy 1, 6, .inr (.inl (fun _ => 0))) := by rw [hen_475, va_up_ne _ _ (by decide)]; exact e9_474
  have he9a_475 : ad_475 9 = q_454 := by rw [had_475, va_up_ne _ _ (by decide)]; exact he9a_473
  have e10_475 : en_475 10 = .inl (cy 0, 12, .inl (fun _ => 0)) := by rw [hen_475, va_up_ne _ _ (by decide)]; exact e10_474
  have he10a_475 : ad_475 10 = q_456 := by rw [had_475, va_up_ne _ _ (by decide)]; exact he10a_473
  have e11_475 : en_475 11 = .inl (cy 0, 12, .inl (fun _ => 0)) := by rw [hen_475, va_up_ne _ _ (by decide)]; exact e11_474
  have he11a_475 : ad_475 11 = q_458 := by rw [had_475, va_up_ne _ _ (by decide)]; exact he11a_473
  have e12_475 : en_475 12 = .inl (cy 0, 12, .inl (fun _ => 0)) := by rw [hen_475, va_up_ne _ _ (by decide)]; exact e12_474
  have he12a_475 : ad_475 12 = q_460 := by rw [had_475, va_up_ne _ _ (by decide)]; exact he12a_473
  have e13_475 : en_475 13 = .inl (cy 0, 12, .inl (fun _ => 0)) := by rw [hen_475, va_up_ne _ _ (by decide)]; exact e13_474
  have he13a_475 : ad_475 13 = q_462 := by rw [had_475, va_up_ne _ _ (by decide)]; exact he13a_473
  have e14_475 : en_475 14 = .inl (cy 1, 18009, .inr (.inl (fun _ => 0))) := by rw [hen_475, va_up_ne _ _ (by decide)]; exact e14_474
  have he14a_475 : ad_475 14 = q_465 := by rw [had_475, va_up_ne _ _ (by decide)]; exact he14a_473
  have e15_475 : en_475 15 = .inl (cy 0, 2001, .inl (fun _ => 0)) := by rw [hen_475, va_up_ne _ _ (by decide)]; exact e15_474
  have he15a_475 : ad_475 15 = q_467 := by rw [had_475, va_up_ne _ _ (by decide)]; exact he15a_473
  have e16_475 : en_475 16 = .inl (cy 0, 4096, .inl (fun _ => 0)) := by rw [hen_475, va_up_ne _ _ (by decide)]; exact e16_474
  have he16a_475 : ad_475 16 = q_469 := by rw [had_475, va_up_ne _ _ (by decide)]; exact he16a_473
  have e17_475 : en_475 17 = .inl (cy 0, 2001, .inl (fun _ => 0)) := by rw [hen_475, va_up_ne _ _ (by decide)]; exact e17_474
  have he17a_475 : ad_475 17 = q_471 := by rw [had_475, va_up_ne _ _ (by decide)]; exact he17a_473
  have e18_475 : en_475 18 = .inl (cy 0, 120, .inl (fun _ => 0)) := by rw [hen_475, va_up_ne _ _ (by decide)]; exact e18_474
  have he18a_475 : ad_475 18 = q_473 := by rw [had_475, va_up_ne _ _ (by decide)]; exact he18a_473
  have e19_475 : en_475 19 = .inl (cy 0, 10, .inl (fun _ => 0)) := by rw [hen_475]; exact va_up_self _ _ _
  have he19a_475 : ad_475 19 = q_475 := by rw [had_475]; exact va_up_self _ _ _
  clear heta_473 he1a_473 he2a_473 he3a_473 he4a_473 he5a_473 he6a_473 he7a_473 he8a_473 he9a_473 he10a_473 he11a_473 he12a_473 he13a_473 he14a_473 he15a_473 he16a_473 he17a_473 he18a_473 e1_474 e2_474 e3_474 e4_474 e5_474 e6_474 e7_474 e8_474 e9_474 e10_474 e11_474 e12_474 e13_474 e14_474 e15_474 e16_474 e17_474 e18_474 et_474
  refine W.widen (k := 19) (n := 26685) (Nat.le_refl _) (Nat.le_refl _) ?_
  refine hp_putF hx hb hts ix12 tyX12 tyX12_ok nmX12 hown hK hh (q := 0) heta_475 (List.mem_range.mpr (by decide)) et_475 rfl 32 (by decide) (hts _ tw_911) (fun _ h9 => h9) rfl hin rfl (ty := (.array .int)) (by decide +kernel) rfl rfl (Nat.le_of_ble_eq_true rfl) dX12_init_187 (fun H locs en_476 hen_476 hh => ?_)
  have e1_476 : en_476 1 = .inl (cy 0, 54, .inl (fun _ => 0)) := by rw [hen_476, va_up_ne _ _ (by decide)]; exact e1_475
  have e2_476 : en_476 2 = .inl (cy 2, 36, .inl (fun _ => 0)) := by rw [hen_476, va_up_ne _ _ (by decide)]; exact e2_475
  have e3_476 : en_476 3 = .inl (cy 0, 4, .inl (upd (upd (upd (upd (fun _ => 0) (0 : Int32).toNatClampNeg (-9)) (1 : Int32).toNatClampNeg (-9)) (2 : Int32).toNatClampNeg (-9)) (3 : Int32).toNatClampNeg (-9))) := by rw [hen_476, va_up_ne _ _ (by decide)]; exact e3_475
  have e4_476 : en_476 4 = .inl (cy 0, 4, .inl (fun _ => 0)) := by rw [hen_476, va_up_ne _ _ (by decide)]; exact e4_475
  have e5_476 : en_476 5 = .inl (cy 0, 160, .inl (fun _ => 0)) := by rw [hen_476, va_up_ne _ _ (by decide)]; exact e5_475
  have e6_476 : en_476 6 = .inl (cy 1, 117, .inr (.inl (fun _ => 0))) := by rw [hen_476, va_up_ne _ _ (by decide)]; exact e6_475
  have e7_476 : en_476 7 = .inl (cy 0, 13, .inl (fun _ => 0)) := by rw [hen_476, va_up_ne _ _ (by decide)]; exact e7_475
  have e8_476 : en_476 8 = .inl (cy 1, 6, .inr (.inl (fun _ => 0))) := by rw [hen_476, va_up_ne _ _ (by decide)]; exact e8_475
  have e9_476 : en_476 9 = .inl (cy 1, 6, .inr (.inl (fun _ => 0))) := by rw [hen_476, va_up_ne _ _ (by decide)]; exact e9_475
  have e10_476 : en_476 10 = .inl (cy 0, 12, .inl (fun _ => 0)) := by rw [hen_476, va_up_ne _ _ (by decide)]; exact e10_475
  have e11_476 : en_476 11 = .inl (cy 0, 12, .inl (fun _ => 0)) := by rw [hen_476, va_up_ne _ _ (by decide)]; exact e11_475
  have e12_476 : en_476 12 = .inl (cy 0, 12, .inl (fun _ => 0)) := by rw [hen_476, va_up_ne _ _ (by decide)]; exact e12_475
  have e13_476 : en_476 13 = .inl (cy 0, 12, .inl (fun _ => 0)) := by rw [hen_476, va_up_ne _ _ (by decide)]; exact e13_475
  have e14_476 : en_476 14 = .inl (cy 1, 18009, .inr (.inl (fun _ => 0))) := by rw [hen_476, va_up_ne _ _ (by decide)]; exact e14_475
  have e15_476 : en_476 15 = .inl (cy 0, 2001, .inl (fun _ => 0)) := by rw [hen_476, va_up_ne _ _ (by decide)]; exact e15_475
  have e16_476 : en_476 16 = .inl (cy 0, 4096, .inl (fun _ => 0)) := by rw [hen_476, va_up_ne _ _ (by decide)]; exact e16_475
  have e17_476 : en_476 17 = .inl (cy 0, 2001, .inl (fun _ => 0)) := by rw [hen_476, va_up_ne _ _ (by decide)]; exact e17_475
  have e18_476 : en_476 18 = .inl (cy 0, 120, .inl (fun _ => 0)) := by rw [hen_476, va_up_ne _ _ (by decide)]; exact e18_475
  have e19_476 : en_476 19 = .inl (cy 0, 10, .inl (fun _ => 0)) := by rw [hen_476, va_up_ne _ _ (by decide)]; exact e19_475
  have et_476 : en_476 0 = .inr (11, [.int 0, .int 0, .int 2, .int 0, .int 0, .ref q_434, .ref q_436, .ref q_438, .ref q_444, .ref q_446, .ref q_448, .ref q_450, .ref q_452, .ref q_454, .int 0, .long 0, .long 0, .long 0, .long 0, .ref q_456, .ref q_458, .ref q_460, .int 0, .long 0, .ref q_462, .int (-9), .ref q_465, .ref q_467, .ref q_469, .ref q_471, .int 0, .ref q_473, .ref q_475]) := by rw [hen_476]; exact va_up_self _ _ _
  exact hq_vret hx hb hr hlocks hh (⟨(fun i hi => by dsimp only; rw [had_475, va_up_ne _ _ (Nat.ne_of_lt (Nat.lt_of_lt_of_le hi (by decide))), had_473, va_up_ne _ _ (Nat.ne_of_lt (Nat.lt_of_lt_of_le hi (by decide))), had_471, va_up_ne _ _ (Nat.ne_of_lt (Nat.lt_of_lt_of_le hi (by decide))), had_469, va_up_ne _ _ (Nat.ne_of_lt (Nat.lt_of_lt_of_le hi (by decide))), had_467, va_up_ne _ _ (Nat.ne_of_lt (Nat.lt_of_lt_of_le hi (by decide))), had_465, va_up_ne _ _ (Nat.ne_of_lt (Nat.lt_of_lt_of_le hi (by decide))), had_462, va_up_ne _ _ (Nat.ne_of_lt (Nat.lt_of_lt_of_le hi (by decide))), had_460, va_up_ne _ _ (Nat.ne_of_lt (Nat.lt_of_lt_of_le hi (by decide))), had_458, va_up_ne _ _ (Nat.ne_of_lt (Nat.lt_of_lt_of_le hi (by decide))), had_456, va_up_ne _ _ (Nat.ne_of_lt (Nat.lt_of_lt_of_le hi (by decide))), had_454, va_up_ne _ _ (Nat.ne_of_lt (Nat.lt_of_lt_of_le hi (by decide))), had_452, va_up_ne _ _ (Nat.ne_of_lt (Nat.lt_of_lt_of_le hi (by decide))), had_450, va_up_ne _ _ (Nat.ne_of_lt (Nat.lt_of_lt_of_le hi (by decide))), had_448, va_up_ne _ _ (Nat.ne_of_lt (Nat.lt_of_lt_of_le hi (by decide))), had_446, va_up_ne _ _ (Nat.ne_of_lt (Nat.lt_of_lt_of_le hi (by decide))), had_444, va_up_ne _ _ (Nat.ne_of_lt (Nat.lt_of_lt_of_le hi (by decide))), had_438, va_up_ne _ _ (Nat.ne_of_lt (Nat.lt_of_lt_of_le hi (by decide))), had_436, va_up_ne _ _ (Nat.ne_of_lt (Nat.lt_of_lt_of_le hi (by decide))), had_434, va_up_ne _ _ (Nat.ne_of_lt (Nat.lt_of_lt_of_le hi (by decide)))]), (fun i hi hne => by dsimp only; rw [hen_476, va_up_ne _ _ hne, hen_475, va_up_ne _ _ (Nat.ne_of_lt (Nat.lt_of_lt_of_le hi (by decide))), hen_474, va_up_ne _ _ hne, hen_473, va_up_ne _ _ (Nat.ne_of_lt (Nat.lt_of_lt_of_le hi (by decide))), hen_472, va_up_ne _ _ hne, hen_471, va_up_ne _ _ (Nat.ne_of_lt (Nat.lt_of_lt_of_le hi (by decide))), hen_470, va_up_ne _ _ hne, hen_469, va_up_ne _ _ (Nat.ne_of_lt (Nat.lt_of_lt_of_le hi (by decide))), hen_468, va_up_ne _ _ hne, hen_467, va_up_ne _ _ (Nat.ne_of_lt (Nat.lt_of_lt_of_le hi (by decide))), hen_466, va_up_ne _ _ hne, hen_465, va_up_ne _ _ (Nat.ne_of_lt (Nat.lt_of_lt_of_le hi (by decide))), hen_464, va_up_ne _ _ hne, hen_463, va_up_ne _ _ hne, hen_462, va_up_ne _ _ (Nat.ne_of_lt (Nat.lt_of_lt_of_le hi (by decide))), hen_461, va_up_ne _ _ hne, hen_460, va_up_ne _ _ (Nat.ne_of_lt (Nat.lt_of_lt_of_le hi (by decide))), hen_459, va_up_ne _ _ hne, hen_458, va_up_ne _ _ (Nat.ne_of_lt (Nat.lt_of_lt_of_le hi (by decide))), hen_457, va_up_ne _ _ hne, hen_456, va_up_ne _ _ (Nat.ne_of_lt (Nat.lt_of_lt_of_le hi (by decide))), hen_455, va_up_ne _ _ hne, hen_454, va_up_ne _ _ (Nat.ne_of_lt (Nat.lt_of_lt_of_le hi (by decide))), hen_453, va_up_ne _ _ hne, hen_452, va_up_ne _ _ (Nat.ne_of_lt (Nat.lt_of_lt_of_le hi (by decide))), hen_451, va_up_ne _ _ hne, hen_450, va_up_ne _ _ (Nat.ne_of_lt (Nat.lt_of_lt_of_le hi (by decide))), hen_449, va_up_ne _ _ hne, hen_448, va_up_ne _ _ (Nat.ne_of_lt (Nat.lt_of_lt_of_le hi (by decide))), hen_447, va_up_ne _ _ hne, hen_446, va_up_ne _ _ (Nat.ne_of_lt (Nat.lt_of_lt_of_le hi (by decide))), hen_445, va_up_ne _ _ hne, hen_444, va_up_ne _ _ (Nat.ne_of_lt (Nat.lt_of_lt_of_le hi (by decide))), hen_443, va_up_ne _ _ hne, hen_442, va_up_ne _ _ (Nat.ne_of_lt (Nat.lt_of_lt_of_le hi (by decide))), hen_441, va_up_ne _ _ (Nat.ne_of_lt (Nat.lt_of_lt_of_le hi (by decide))), hen_440, va_up_ne _ _ (Nat.ne_of_lt (Nat.lt_of_lt_of_le hi (by decide))), hen_439, va_up_ne _ _ (Nat.ne_of_lt (Nat.lt_of_lt_of_le hi (by decide))), hen_438, va_up_ne _ _ (Nat.ne_of_lt (Nat.lt_of_lt_of_le hi (by decide))), hen_437, va_up_ne _ _ hne, hen_436, va_up_ne _ _ (Nat.ne_of_lt (Nat.lt_of_lt_of_le hi (by decide))), hen_435, va_up_ne _ _ hne, hen_434, va_up_ne _ _ (Nat.ne_of_lt (Nat.lt_of_lt_of_le hi (by decide))), hen_433, va_up_ne _ _ hne]), (by dsimp only; rw [he1a_475, he2a_475, he3a_475, he4a_475, he5a_475, he6a_475, he7a_475, he8a_475, he9a_475, he10a_475, he11a_475, he12a_475, he13a_475, he14a_475, he15a_475, he16a_475, he17a_475, he18a_475, he19a_475]; exact et_476), ⟨_, e3_476, fun j hj => by rcases (show j = 0 ∨ j = 1 ∨ j = 2 ∨ j = 3 by omega) with rfl | rfl | rfl | rfl <;> rfl⟩, e1_476, e2_476, e4_476, e5_476, e6_476, e7_476, e8_476, e9_476, e10_476, e11_476, e12_476, e13_476, e14_476, e15_476, e16_476, e17_476, e18_476, e19_476⟩) dX12_init_190
theorem kw_X12_init {R : Room} {s : State} {args : Array Value} {own : String} {idx : Nat} (hts : ∀ w ∈ TB, w.before args s = true) (hl : Cond.methodLink own idx yX12_init ∈ TB) (hR : 1 + 1 ≤ R.frames ∧ 8 + (1 + 11) + 40 * 1 ≤ R.locals) : CallB R s args own idx yX12_init cX12_init 1 none (Cond.code yX12_init cX12_init 1 none :: TB) (rmC 1 19 26685) 19 26685 0 ∧ yX12_init.name = "<init>" ∧ (Cond.instanceMethod yX12_init).before args s = true := cwI 0 hts (TB_W tw_877) rfl rfl rfl (hts _ tw_9) (hts _ hl) (hts _ tw_876) rfl (by decide +kernel) hR
