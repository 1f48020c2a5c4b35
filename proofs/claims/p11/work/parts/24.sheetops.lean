set_option maxHeartbeats 4000000 in
set_option maxRecDepth 100000 in
/-- renewSheet -/
theorem c_X11_renewSheet (l : Launch) (D : va_G) (cy : Nat → ClassId) (sz : Nat) (cs : List Nat) (ad : Nat → Nat) (en : Nat → va_E) (hI : SX cy cs ad en) (k la n : Int32)   : Met l yX11_renewSheet (Cond.code yX11_renewSheet cX11_renewSheet 4 (some .int) :: TB) (rmN 2) (va_Pc [.ref (ad 0), .int k, .int la, .int n] (Pre D cy cs ad en sz)) (va_Qi (S := Nat → va_E) (fun r en1 => SX cy cs ad en1 ∧ (∀ c, (c < 107 ∨ 115 ≤ c) → en1 c = en c) ∧ XSH k la n r en en1) (PostM D cs ad) (Af cs ad sz)) 0 0 (Af cs ad sz) := by
  refine Met.ofW (cc := cX11_renewSheet) (maxL := 4) (ret := (some .int)) (by decide) rfl ?_
  intro p e s m args below meth c s₁ B hml hv
  obtain ⟨rfl, hsz, hP, hK, hD0⟩ := hv
  have hx := B.exec
  have hb := B.bytes
  have hr := B.returns
  have hts : ∀ w ∈ TB, w.before _ s = true := fun w h => atoms_spec (ws := _ :: TB) B.pre w (List.mem_cons_of_mem _ h)
  have hown : s.vm.findClass RX11 = some m.cls := findClass_of_methodNamed B.named
  have hlocks := B.notSynchronized
  have hh : Hp D (Af cs ad sz) (Af cs ad sz) s.heap s.heap [] cs ad en := ⟨hP, Af_self hD0, va_S.rf⟩
  have hA : ∀ q : Nat, s.heap.size ≤ q → Af cs ad sz q := fun q h => Or.inr (by rw [hsz] at h; exact h)
  have hl := lv_entry ([.ref (ad 0), .int k, .int la, .int n]) (n := 4) (Nat.le_of_ble_eq_true rfl)
  rw [lg_entry_eq]
  generalize (lg_sl ([.ref (ad 0), .int k, .int la, .int n]) ++ List.replicate (4 - (lg_sl ([.ref (ad 0), .int k, .int la, .int n])).length) Slot.unset).toArray = ls at hl ⊢
  have hl : lv_has ls 4 [(0, .ref (ad 0)), (1, .int k), (2, .int la), (3, .int n)] := hl
  have hf0 : ∀ c, (c < 107 ∨ 115 ≤ c) → en c = en c := fun _ _ => rfl
  obtain ⟨wc_432, lf_432, es432, p0_432⟩ := get_A hI
  refine lv_iload_n hx hb dX11_renewSheet_0 rfl (lv_at hl 1 rfl) ?_
  refine hp_callRi (va_runS (As := [.int k]) (rest := []) ⟨hx, hb, hml, hown, hts⟩ (c_X11_isSheet l D cy _ cs ad en k) (kw_X11_isSheet hts tw_305 ⟨by decide, by decide⟩) (preS_of hh hK) rfl rfl hl.1 rfl (lv_room (Nat.le_of_ble_eq_true rfl)) dX11_renewSheet_1 ⟨Nat.le_of_ble_eq_true rfl, Nat.le_of_ble_eq_true rfl⟩) hh hA (fun r_433 H locs hw_433 hh => ?_)
  rcases Decidable.em (wi k 0 3) with hp_433 | hp_433
  · obtain rfl : r_433 = 1 := Eq.trans hw_433 (if_pos hp_433)
    obtain ⟨N_433, rfl, hA_433, hB_433⟩ := wi_natB hp_433 0 3 (by decide) (by decide)
    refine lv_if_ne (tgt := 9) hx hb dX11_renewSheet_4 (by decide) (fun _ => ?_) (fun c_0 => absurd c_0 (by decide))
    refine lv_iload_n hx hb dX11_renewSheet_9 rfl (lv_at hl 2 rfl) ?_
    refine hp_callRi (va_runS (As := [.int la]) (rest := []) ⟨hx, hb, hml, hown, hts⟩ (c_X11_isLane l D cy _ cs ad en la) (kw_X11_isLane hts tw_308 ⟨by decide, by decide⟩) (preS_of hh hK) rfl rfl hl.1 rfl (lv_room (Nat.le_of_ble_eq_true rfl)) dX11_renewSheet_10 ⟨Nat.le_of_ble_eq_true rfl, Nat.le_of_ble_eq_true rfl⟩) hh hA (fun r_434 H locs hw_434 hh => ?_)
    rcases Decidable.em (wi la 0 2) with hp_434 | hp_434
    · obtain rfl : r_434 = 1 := Eq.trans hw_434 (if_pos hp_434)
      refine lv_if_eq (tgt := 22) hx hb dX11_renewSheet_13 (by decide) (fun c_0 => absurd c_0 (by decide)) (fun _ => ?_)
      refine lv_iload_n hx hb dX11_renewSheet_16 rfl (lv_at hl 3 rfl) ?_
      refine lv_bipush (v := 40) hx hb dX11_renewSheet_17 (by decide) ?_
      refine lv_icmp_le (tgt := 25) hx hb dX11_renewSheet_19 (by decide) (fun c_435 => ?_) (fun c_435 => ?_)
      · refine lv_iload_n hx hb dX11_renewSheet_25 rfl (lv_at hl 3 rfl) ?_
        refine lv_if_ge (tgt := 34) hx hb dX11_renewSheet_26 (by decide) (fun c_436 => ?_) (fun c_436 => ?_)
        · obtain ⟨N9, hN9, rfl⟩ := nat_of (Int32.not_lt.mpr c_436)
          have hN40 : N9 ≤ 40 := n_le (a := N9) (b := 40) c_435 hN9 (by decide)
          refine lv_aload_n hx hb dX11_renewSheet_34 rfl (lv_at hl 0 rfl) ?_
          refine hp_get hx hb hts ix11 hown hK hh (q := 0) rfl (hI.1 _ (by decide)) es432 rfl 4 (by decide) (hts _ tw_249) (fun _ h9 => h9) rfl dX11_renewSheet_35 ?_
          refine lv_iload_n hx hb dX11_renewSheet_38 rfl (lv_at hl 1 rfl) ?_
          have es437 := get_shs hI
          unfold P_shs at es437
          refine hp_aald hx hb hK hh (q := 75) rfl (hI.1 _ (by decide)) 6 es437 rfl rfl (vp_in_nI (n := N_433) (by omega) (by decide)) (v := .ref (ad (107 + 2 * N_433))) (by rw [nI_clamp (n := N_433) (by omega)]; exact rfB_v (by omega)) dX11_renewSheet_39 ?_
          refine lv_iload_n hx hb dX11_renewSheet_40 rfl (lv_at hl 2 rfl) ?_
          refine lv_iload_n hx hb dX11_renewSheet_41 rfl (lv_at hl 3 rfl) ?_
          obtain ⟨sc_438, sl_438, sr_438, es438, p0_438, p1_438⟩ := get_sh hI (j := N_433) (by omega)
          refine hp_callMv (va_runV (As := [.int la, .int (nI N9)]) (rest := []) ⟨hx, hb, hml, hown, hts⟩ (c_X3_renew l D cy _ cs ad en hI N_433 (by omega) la N9 (by omega)) (kw_X3_renew hts tw_754 ⟨by decide, by decide⟩) (preV_of hh hK (hI.1 _ (by omega)) es438 rfl) rfl rfl hl.1 rfl (lv_room (Nat.le_of_ble_eq_true rfl)) dX11_renewSheet_42 ⟨Nat.le_of_ble_eq_true rfl, Nat.le_of_ble_eq_true rfl⟩) hh hA (fun H locs en_439 hw_439 hh => ?_)
          obtain ⟨hI_439, hu_439, hx_439⟩ := hw_439
          have hf_439 : ∀ c, (c < 107 ∨ 115 ≤ c) → en_439 c = en c := fun c hc => (hu_439 c (by omega)).trans (hf0 c hc)
          refine lv_iconst (v := 1) hx hb dX11_renewSheet_45 (by decide) ?_
          have h40 : (40 : Int32).toInt = 40 := by decide
          have h00 : (0 : Int32).toInt = 0 := by decide
          exact hp_iretM hx hb hr rfl hlocks hh (⟨hI_439, hf_439, ⟨(by have h8 := i_le c_435; have h9 := i_le c_436; unfold spSheet; rw [if_pos hp_433, if_pos ⟨hp_434, by omega⟩, if_neg (by omega)]), Or.inr ⟨rfl, N_433, N9, rfl, rfl, by omega, hN40, fun c h0 h1 h2 => hu_439 c ⟨h1, h2⟩, (by rw [hx_439.1]; rfl), (by rw [hx_439.1]; rfl), (by rw [hx_439.1]; rfl), hx_439.2⟩⟩⟩) dX11_renewSheet_46
        · refine lv_iconst (v := 4) hx hb dX11_renewSheet_29 (by decide) ?_
          refine hp_callRi (va_runS (As := [.int 4]) (rest := []) ⟨hx, hb, hml, hown, hts⟩ (c_X11_faultAnswer l D cy _ cs ad en 4) (kw_X11_faultAnswer hts tw_311 ⟨by decide, by decide⟩) (preS_of hh hK) rfl rfl hl.1 rfl (lv_room (Nat.le_of_ble_eq_true rfl)) dX11_renewSheet_30 ⟨Nat.le_of_ble_eq_true rfl, Nat.le_of_ble_eq_true rfl⟩) hh hA (fun r_440 H locs hw_440 hh => ?_)
          obtain rfl : r_440 = (-14) := Eq.trans hw_440 (by decide)
          have h40 : (40 : Int32).toInt = 40 := by decide
          have h00 : (0 : Int32).toInt = 0 := by decide
          exact hp_iretM hx hb hr rfl hlocks hh (⟨hI, hf0, ⟨(by have h8 := i_le c_435; have h9 := i_nle c_436; unfold spSheet; rw [if_pos hp_433, if_pos ⟨hp_434, by omega⟩, if_pos (by omega)]), Or.inl ⟨by decide, fun _ _ => rfl⟩⟩⟩) dX11_renewSheet_33
      · refine lv_bipush (v := (-2)) hx hb dX11_renewSheet_22 (by decide) ?_
        have h40 : (40 : Int32).toInt = 40 := by decide
        have h00 : (0 : Int32).toInt = 0 := by decide
        exact hp_iretM hx hb hr rfl hlocks hh (⟨hI, hf0, ⟨(by have h9 := i_nle c_435; unfold spSheet; rw [if_pos hp_433, if_neg (fun q => absurd q.2 (by omega))]), Or.inl ⟨by decide, fun _ _ => rfl⟩⟩⟩) dX11_renewSheet_24
    · obtain rfl : r_434 = 0 := Eq.trans hw_434 (if_neg hp_434)
      refine lv_if_eq (tgt := 22) hx hb dX11_renewSheet_13 (by decide) (fun _ => ?_) (fun c_0 => absurd c_0 (by decide))
      refine lv_bipush (v := (-2)) hx hb dX11_renewSheet_22 (by decide) ?_
      have h40 : (40 : Int32).toInt = 40 := by decide
      have h00 : (0 : Int32).toInt = 0 := by decide
      exact hp_iretM hx hb hr rfl hlocks hh (⟨hI, hf0, ⟨(by unfold spSheet; rw [if_pos hp_433, if_neg (fun q => hp_434 q.1)]), Or.inl ⟨by decide, fun _ _ => rfl⟩⟩⟩) dX11_renewSheet_24
  · obtain rfl : r_433 = 0 := Eq.trans hw_433 (if_neg hp_433)
    refine lv_if_ne (tgt := 9) hx hb dX11_renewSheet_4 (by decide) (fun c_0 => absurd c_0 (by decide)) (fun _ => ?_)
    refine lv_iconst (v := (-1)) hx hb dX11_renewSheet_7 (by decide) ?_
    have h40 : (40 : Int32).toInt = 40 := by decide
    have h00 : (0 : Int32).toInt = 0 := by decide
    exact hp_iretM hx hb hr rfl hlocks hh (⟨hI, hf0, ⟨(by unfold spSheet; rw [if_neg hp_433]), Or.inl ⟨by decide, fun _ _ => rfl⟩⟩⟩) dX11_renewSheet_8
theorem kw_X11_renewSheet {R : Room} {s : State} {args : Array Value} {own : String} {idx : Nat} (hts : ∀ w ∈ TB, w.before args s = true) (hl : Cond.methodLink own idx yX11_renewSheet ∈ TB) (hR : 2 + 1 ≤ R.frames ∧ 8 + (4 + 11) + 40 * 2 ≤ R.locals) : CallW R s args own RX11 idx yX11_renewSheet cX11_renewSheet 4 (some .int) (Cond.code yX11_renewSheet cX11_renewSheet 4 (some .int) :: TB) (rmN 2) 0 0 3 := cwV 3 hts (TB_V hl tw_752 ts_28 tw_1 tw_753) rfl rfl rfl (by decide +kernel) hR
set_option maxHeartbeats 4000000 in
set_option maxRecDepth 100000 in
/-- sheet -/
theorem c_X11_sheet (l : Launch) (D : va_G) (cy : Nat → ClassId) (sz : Nat) (cs : List Nat) (ad : Nat → Nat) (en : Nat → va_E) (hI : SX cy cs ad en) (k la n : Int32)   : Met l yX11_sheet (Cond.code yX11_sheet cX11_sheet 4 (some .int) :: TB) (rmN 3) (va_Pc [.ref (ad 0), .int k, .int la, .int n] (Pre D cy cs ad en sz)) (va_Qi (S := Nat → va_E) (fun r en1 => SX cy cs ad en1 ∧ (∀ c, (0 < c ∧ (c < 107 ∨ 115 ≤ c)) → en1 c = en c) ∧ XSH k la n r en en1 ∧ rdI (en1 0) 6 = rdI (en 0) 6) (PostM D cs ad) (Af cs ad sz)) 0 0 (Af cs ad sz) := by
  refine Met.ofW (cc := cX11_sheet) (maxL := 4) (ret := (some .int)) (by decide) rfl ?_
  intro p e s m args below meth c s₁ B hml hv
  obtain ⟨rfl, hsz, hP, hK, hD0⟩ := hv
  have hx := B.exec
  have hb := B.bytes
  have hr := B.returns
  have hts : ∀ w ∈ TB, w.before _ s = true := fun w h => atoms_spec (ws := _ :: TB) B.pre w (List.mem_cons_of_mem _ h)
  have hown : s.vm.findClass RX11 = some m.cls := findClass_of_methodNamed B.named
  have hlocks := B.notSynchronized
  have hh : Hp D (Af cs ad sz) (Af cs ad sz) s.heap s.heap [] cs ad en := ⟨hP, Af_self hD0, va_S.rf⟩
  have hA : ∀ q : Nat, s.heap.size ≤ q → Af cs ad sz q := fun q h => Or.inr (by rw [hsz] at h; exact h)
  have hl := lv_entry ([.ref (ad 0), .int k, .int la, .int n]) (n := 4) (Nat.le_of_ble_eq_true rfl)
  rw [lg_entry_eq]
  generalize (lg_sl ([.ref (ad 0), .int k, .int la, .int n]) ++ List.replicate (4 - (lg_sl ([.ref (ad 0), .int k, .int la, .int n])).length) Slot.unset).toArray = ls at hl ⊢
  have hl : lv_has ls 4 [(0, .ref (ad 0)), (1, .int k), (2, .int la), (3, .int n)] := hl
  have hf0 : ∀ c, (0 < c ∧ (c < 107 ∨ 115 ≤ c)) → en c = en c := fun _ _ => rfl
  obtain ⟨wc_441, lf_441, es441, p0_441⟩ := get_A hI
  refine lv_aload_n hx hb dX11_sheet_0 rfl (lv_at hl 0 rfl) ?_
  refine lv_aload_n hx hb dX11_sheet_1 rfl (lv_at hl 0 rfl) ?_
  refine lv_iload_n hx hb dX11_sheet_2 rfl (lv_at hl 1 rfl) ?_
  refine lv_iload_n hx hb dX11_sheet_3 rfl (lv_at hl 2 rfl) ?_
  refine lv_iload_n hx hb dX11_sheet_4 rfl (lv_at hl 3 rfl) ?_
  refine hp_callMi (va_runV (As := [.int k, .int la, .int n]) (rest := [.ref (ad 0)]) ⟨hx, hb, hml, hown, hts⟩ (c_X11_renewSheet l D cy _ cs ad en hI k la n ) (kw_X11_renewSheet hts tw_750 ⟨by decide, by decide⟩) (preV_of hh hK (hI.1 _ (by decide)) es441 rfl) rfl rfl hl.1 rfl (lv_room (Nat.le_of_ble_eq_true rfl)) dX11_sheet_5 ⟨Nat.le_of_ble_eq_true rfl, Nat.le_of_ble_eq_true rfl⟩) hh hA (fun r_442 H locs en_442 hw_442 hh => ?_)
  obtain ⟨hI_442, hu_442, hx_442⟩ := hw_442
  have hf_442 : ∀ c, (0 < c ∧ (c < 107 ∨ 115 ≤ c)) → en_442 c = en c := fun c hc => (hu_442 c (by omega)).trans (hf0 c hc)
  obtain ⟨wc_443, lf_443, es443, p0_443⟩ := get_A hI_442
  refine hp_callMi (va_runV (As := [.int r_442]) (rest := []) ⟨hx, hb, hml, hown, hts⟩ (c_X11_settle l D cy _ cs ad en_442 hI_442 r_442) (kw_X11_settle hts tw_404 ⟨by decide, by decide⟩) (preV_of hh hK (hI.1 _ (by decide)) es443 rfl) rfl rfl hl.1 rfl (lv_room (Nat.le_of_ble_eq_true rfl)) dX11_sheet_8 ⟨Nat.le_of_ble_eq_true rfl, Nat.le_of_ble_eq_true rfl⟩) hh hA (fun r_444 H locs en_444 hw_444 hh => ?_)
  obtain ⟨hI_444, hu_444, hr_444, hwc_444⟩ := hw_444
  have hf_444 : ∀ c, (0 < c ∧ (c < 107 ∨ 115 ≤ c)) → en_444 c = en c := fun c hc => (hu_444 c (by omega)).trans (hf_442 c hc)
  rw [hr_444]
  exact hp_iretM hx hb hr rfl hlocks hh (⟨hI_444, hf_444, XSH_s hx_442 hu_444, (hwc_444.trans (congrArg (fun x => rdI x 6) (hu_442 0 (by omega))))⟩) dX11_sheet_11
theorem kw_X11_sheet {R : Room} {s : State} {args : Array Value} {own : String} {idx : Nat} (hts : ∀ w ∈ TB, w.before args s = true) (hl : Cond.methodLink own idx yX11_sheet ∈ TB) (hR : 3 + 1 ≤ R.frames ∧ 8 + (4 + 11) + 40 * 3 ≤ R.locals) : CallW R s args own RX11 idx yX11_sheet cX11_sheet 4 (some .int) (Cond.code yX11_sheet cX11_sheet 4 (some .int) :: TB) (rmN 3) 0 0 3 := cwV 3 hts (TB_V hl tw_747 tw_748 tw_1 tw_749) rfl rfl rfl (by decide +kernel) hR
set_option maxHeartbeats 4000000 in
set_option maxRecDepth 100000 in
/-- putCell -/
theorem c_X11_putCell (l : Launch) (D : va_G) (cy : Nat → ClassId) (sz : Nat) (cs : List Nat) (ad : Nat → Nat) (en : Nat → va_E) (hI : SX cy cs ad en) (k i v : Int32)   : Met l yX11_putCell (Cond.code yX11_putCell cX11_putCell 4 (some .int) :: TB) (rmN 2) (va_Pc [.ref (ad 0), .int k, .int i, .int v] (Pre D cy cs ad en sz)) (va_Qi (S := Nat → va_E) (fun r en1 => SX cy cs ad en1 ∧ (∀ c, (c < 107 ∨ 115 ≤ c) → en1 c = en c) ∧ XPU k i v r en en1) (PostM D cs ad) (Af cs ad sz)) 0 0 (Af cs ad sz) := by
  refine Met.ofW (cc := cX11_putCell) (maxL := 4) (ret := (some .int)) (by decide) rfl ?_
  intro p e s m args below meth c s₁ B hml hv
  obtain ⟨rfl, hsz, hP, hK, hD0⟩ := hv
  have hx := B.exec
  have hb := B.bytes
  have hr := B.returns
  have hts : ∀ w ∈ TB, w.before _ s = true := fun w h => atoms_spec (ws := _ :: TB) B.pre w (List.mem_cons_of_mem _ h)
  have hown : s.vm.findClass RX11 = some m.cls := findClass_of_methodNamed B.named
  have hlocks := B.notSynchronized
  have hh : Hp D (Af cs ad sz) (Af cs ad sz) s.heap s.heap [] cs ad en := ⟨hP, Af_self hD0, va_S.rf⟩
  have hA : ∀ q : Nat, s.heap.size ≤ q → Af cs ad sz q := fun q h => Or.inr (by rw [hsz] at h; exact h)
  have hl := lv_entry ([.ref (ad 0), .int k, .int i, .int v]) (n := 4) (Nat.le_of_ble_eq_true rfl)
  rw [lg_entry_eq]
  generalize (lg_sl ([.ref (ad 0), .int k, .int i, .int v]) ++ List.replicate (4 - (lg_sl ([.ref (ad 0), .int k, .int i, .int v])).length) Slot.unset).toArray = ls at hl ⊢
  have hl : lv_has ls 4 [(0, .ref (ad 0)), (1, .int k), (2, .int i), (3, .int v)] := hl
  have hf0 : ∀ c, (c < 107 ∨ 115 ≤ c) → en c = en c := fun _ _ => rfl
  obtain ⟨wc_445, lf_445, es445, p0_445⟩ := get_A hI
  refine lv_iload_n hx hb dX11_putCell_0 rfl (lv_at hl 1 rfl) ?_
  refine hp_callRi (va_runS (As := [.int k]) (rest := []) ⟨hx, hb, hml, hown, hts⟩ (c_X11_isSheet l D cy _ cs ad en k) (kw_X11_isSheet hts tw_305 ⟨by decide, by decide⟩) (preS_of hh hK) rfl rfl hl.1 rfl (lv_room (Nat.le_of_ble_eq_true rfl)) dX11_putCell_1 ⟨Nat.le_of_ble_eq_true rfl, Nat.le_of_ble_eq_true rfl⟩) hh hA (fun r_446 H locs hw_446 hh => ?_)
  rcases Decidable.em (wi k 0 3) with hp_446 | hp_446
  · obtain rfl : r_446 = 1 := Eq.trans hw_446 (if_pos hp_446)
    obtain ⟨N_446, rfl, hA_446, hB_446⟩ := wi_natB hp_446 0 3 (by decide) (by decide)
    refine lv_if_ne (tgt := 9) hx hb dX11_putCell_4 (by decide) (fun _ => ?_) (fun c_0 => absurd c_0 (by decide))
    refine lv_aload_n hx hb dX11_putCell_9 rfl (lv_at hl 0 rfl) ?_
    refine hp_get hx hb hts ix11 hown hK hh (q := 0) rfl (hI.1 _ (by decide)) es445 rfl 4 (by decide) (hts _ tw_249) (fun _ h9 => h9) rfl dX11_putCell_10 ?_
    refine lv_iload_n hx hb dX11_putCell_13 rfl (lv_at hl 1 rfl) ?_
    have es447 := get_shs hI
    unfold P_shs at es447
    refine hp_aald hx hb hK hh (q := 75) rfl (hI.1 _ (by decide)) 6 es447 rfl rfl (vp_in_nI (n := N_446) (by omega) (by decide)) (v := .ref (ad (107 + 2 * N_446))) (by rw [nI_clamp (n := N_446) (by omega)]; exact rfB_v (by omega)) dX11_putCell_14 ?_
    obtain ⟨sc_448, sl_448, sr_448, es448, p0_448, p1_448⟩ := get_sh hI (j := N_446) (by omega)
    refine hp_get hx hb hts ix3 hown hK hh (q := (107 + 2 * N_446)) rfl (hI.1 _ (by omega)) es448 rfl 3 (by decide) (hts _ tw_235) (fun _ h9 => h9) rfl dX11_putCell_15 ?_
    refine lv_if_ne (tgt := 26) hx hb dX11_putCell_18 (by decide) (fun c_449 => ?_) (fun c_449 => ?_)
    · have n_449 : sr_448 ≠ 0 := n_neq (a := sr_448) (b := 0) c_449 (by omega) (by decide)
      refine lv_aload_n hx hb dX11_putCell_26 rfl (lv_at hl 0 rfl) ?_
      refine hp_get hx hb hts ix11 hown hK hh (q := 0) rfl (hI.1 _ (by decide)) es445 rfl 4 (by decide) (hts _ tw_249) (fun _ h9 => h9) rfl dX11_putCell_27 ?_
      refine lv_iload_n hx hb dX11_putCell_30 rfl (lv_at hl 1 rfl) ?_
      refine hp_aald hx hb hK hh (q := 75) rfl (hI.1 _ (by decide)) 6 es447 rfl rfl (vp_in_nI (n := N_446) (by omega) (by decide)) (v := .ref (ad (107 + 2 * N_446))) (by rw [nI_clamp (n := N_446) (by omega)]; exact rfB_v (by omega)) dX11_putCell_31 ?_
      refine lv_iload_n hx hb dX11_putCell_32 rfl (lv_at hl 2 rfl) ?_
      refine lv_iconst (v := 1) hx hb dX11_putCell_33 (by decide) ?_
      refine hp_callRi (va_runV (As := [.int i, .int 1]) (rest := []) ⟨hx, hb, hml, hown, hts⟩ (c_X3_hasCells l D cy _ cs ad en hI N_446 (by omega) i 1 (by omega)) (kw_X3_hasCells hts tw_314 ⟨by decide, by decide⟩) (preV_of hh hK (hI.1 _ (by omega)) es448 rfl) rfl rfl hl.1 rfl (lv_room (Nat.le_of_ble_eq_true rfl)) dX11_putCell_34 ⟨Nat.le_of_ble_eq_true rfl, Nat.le_of_ble_eq_true rfl⟩) hh hA (fun r_450 H locs hw_450 hh => ?_)
      rcases Decidable.em (hcP (rdI (en (107 + 2 * N_446)) 1) i 1) with hp_450 | hp_450
      · obtain rfl : r_450 = 1 := Eq.trans hw_450 (if_pos hp_450)
        refine lv_if_ne (tgt := 45) hx hb dX11_putCell_37 (by decide) (fun _ => ?_) (fun c_0 => absurd c_0 (by decide))
        obtain ⟨I9, rfl, hI9⟩ := hcP_nat (sc := sc_448) (by omega) (by rw [show rdI (en (107 + 2 * N_446)) 1 = nI sc_448 from by rw [es448]; rfl] at hp_450; exact hp_450) (by decide)
        refine lv_aload_n hx hb dX11_putCell_45 rfl (lv_at hl 0 rfl) ?_
        refine hp_get hx hb hts ix11 hown hK hh (q := 0) rfl (hI.1 _ (by decide)) es445 rfl 4 (by decide) (hts _ tw_249) (fun _ h9 => h9) rfl dX11_putCell_46 ?_
        refine lv_iload_n hx hb dX11_putCell_49 rfl (lv_at hl 1 rfl) ?_
        refine hp_aald hx hb hK hh (q := 75) rfl (hI.1 _ (by decide)) 6 es447 rfl rfl (vp_in_nI (n := N_446) (by omega) (by decide)) (v := .ref (ad (107 + 2 * N_446))) (by rw [nI_clamp (n := N_446) (by omega)]; exact rfB_v (by omega)) dX11_putCell_50 ?_
        refine lv_iload_n hx hb dX11_putCell_51 rfl (lv_at hl 2 rfl) ?_
        refine lv_iload_n hx hb dX11_putCell_52 rfl (lv_at hl 3 rfl) ?_
        refine hp_callMv (va_runV (As := [.int (nI I9), .int v]) (rest := []) ⟨hx, hb, hml, hown, hts⟩ (c_X3_write l D cy _ cs ad en hI N_446 (by omega) I9 v (by omega)) (kw_X3_write hts tw_775 ⟨by decide, by decide⟩) (preV_of hh hK (hI.1 _ (by omega)) es448 rfl) rfl rfl hl.1 rfl (lv_room (Nat.le_of_ble_eq_true rfl)) dX11_putCell_53 ⟨Nat.le_of_ble_eq_true rfl, Nat.le_of_ble_eq_true rfl⟩) hh hA (fun H locs en_451 hw_451 hh => ?_)
        obtain ⟨hI_451, hu_451, hx_451⟩ := hw_451
        have hf_451 : ∀ c, (c < 107 ∨ 115 ≤ c) → en_451 c = en c := fun c hc => (hu_451 c (by omega)).trans (hf0 c hc)
        refine lv_iconst (v := 1) hx hb dX11_putCell_56 (by decide) ?_
        have hhc : hcP (nI sc_448) (nI I9) 1 := by rw [show rdI (en (107 + 2 * N_446)) 1 = nI sc_448 from by rw [es448]; rfl] at hp_450; exact hp_450
        exact hp_iretM hx hb hr rfl hlocks hh (⟨hI_451, hf_451, ⟨(by (try rw [nI_clamp (n := N_446) (by omega)]); rw [show rdI (en (107 + 2 * N_446)) 1 = nI sc_448 from by rw [es448]; rfl, show rdI (en (107 + 2 * N_446)) 3 = nI sr_448 from by rw [es448]; rfl]; unfold putF; rw [if_pos hp_446, if_neg (nI_ne0 (by omega) (by omega)), if_pos hhc]), Or.inr ⟨rfl, N_446, I9, rfl, rfl, by omega, by omega, fun c h0 h1 => hu_451 c h1, (by rw [hx_451]; rfl)⟩⟩⟩) dX11_putCell_57
      · obtain rfl : r_450 = 0 := Eq.trans hw_450 (if_neg hp_450)
        refine lv_if_ne (tgt := 45) hx hb dX11_putCell_37 (by decide) (fun c_0 => absurd c_0 (by decide)) (fun _ => ?_)
        refine lv_iconst (v := 3) hx hb dX11_putCell_40 (by decide) ?_
        refine hp_callRi (va_runS (As := [.int 3]) (rest := []) ⟨hx, hb, hml, hown, hts⟩ (c_X11_faultAnswer l D cy _ cs ad en 3) (kw_X11_faultAnswer hts tw_311 ⟨by decide, by decide⟩) (preS_of hh hK) rfl rfl hl.1 rfl (lv_room (Nat.le_of_ble_eq_true rfl)) dX11_putCell_41 ⟨Nat.le_of_ble_eq_true rfl, Nat.le_of_ble_eq_true rfl⟩) hh hA (fun r_452 H locs hw_452 hh => ?_)
        obtain rfl : r_452 = (-13) := Eq.trans hw_452 (by decide)
        have hhc : ¬ hcP (nI sc_448) i 1 := by rw [show rdI (en (107 + 2 * N_446)) 1 = nI sc_448 from by rw [es448]; rfl] at hp_450; exact hp_450
        exact hp_iretM hx hb hr rfl hlocks hh (⟨hI, hf0, ⟨(by (try rw [nI_clamp (n := N_446) (by omega)]); rw [show rdI (en (107 + 2 * N_446)) 1 = nI sc_448 from by rw [es448]; rfl, show rdI (en (107 + 2 * N_446)) 3 = nI sr_448 from by rw [es448]; rfl]; unfold putF; rw [if_pos hp_446, if_neg (nI_ne0 (by omega) (by omega)), if_neg hhc]), Or.inl ⟨by decide, fun _ _ => rfl⟩⟩⟩) dX11_putCell_44
    · have n_449 : sr_448 = 0 := n_eq (a := sr_448) (b := 0) c_449 (by omega) (by decide)
      refine lv_iconst (v := 1) hx hb dX11_putCell_21 (by decide) ?_
      refine hp_callRi (va_runS (As := [.int 1]) (rest := []) ⟨hx, hb, hml, hown, hts⟩ (c_X11_faultAnswer l D cy _ cs ad en 1) (kw_X11_faultAnswer hts tw_311 ⟨by decide, by decide⟩) (preS_of hh hK) rfl rfl hl.1 rfl (lv_room (Nat.le_of_ble_eq_true rfl)) dX11_putCell_22 ⟨Nat.le_of_ble_eq_true rfl, Nat.le_of_ble_eq_true rfl⟩) hh hA (fun r_453 H locs hw_453 hh => ?_)
      obtain rfl : r_453 = (-11) := Eq.trans hw_453 (by decide)
      exact hp_iretM hx hb hr rfl hlocks hh (⟨hI, hf0, ⟨(by (try rw [nI_clamp (n := N_446) (by omega)]); rw [show rdI (en (107 + 2 * N_446)) 1 = nI sc_448 from by rw [es448]; rfl, show rdI (en (107 + 2 * N_446)) 3 = nI sr_448 from by rw [es448]; rfl]; unfold putF; rw [if_pos hp_446, if_pos (by rw [show sr_448 = 0 by omega]; rfl)]), Or.inl ⟨by decide, fun _ _ => rfl⟩⟩⟩) dX11_putCell_25
  · obtain rfl : r_446 = 0 := Eq.trans hw_446 (if_neg hp_446)
    refine lv_if_ne (tgt := 9) hx hb dX11_putCell_4 (by decide) (fun c_0 => absurd c_0 (by decide)) (fun _ => ?_)
    refine lv_iconst (v := (-1)) hx hb dX11_putCell_7 (by decide) ?_
    exact hp_iretM hx hb hr rfl hlocks hh (⟨hI, hf0, ⟨(by unfold putF; rw [if_neg hp_446]), Or.inl ⟨by decide, fun _ _ => rfl⟩⟩⟩) dX11_putCell_8
theorem kw_X11_putCell {R : Room} {s : State} {args : Array Value} {own : String} {idx : Nat} (hts : ∀ w ∈ TB, w.before args s = true) (hl : Cond.methodLink own idx yX11_putCell ∈ TB) (hR : 2 + 1 ≤ R.frames ∧ 8 + (4 + 11) + 40 * 2 ≤ R.locals) : CallW R s args own RX11 idx yX11_putCell cX11_putCell 4 (some .int) (Cond.code yX11_putCell cX11_putCell 4 (some .int) :: TB) (rmN 2) 0 0 3 := cwV 3 hts (TB_V hl tw_773 ts_29 tw_1 tw_774) rfl rfl rfl (by decide +kernel) hR
set_option maxHeartbeats 4000000 in
set_option maxRecDepth 100000 in
/-- put -/
theorem c_X11_put (l : Launch) (D : va_G) (cy : Nat → ClassId) (sz : Nat) (cs : List Nat) (ad : Nat → Nat) (en : Nat → va_E) (hI : SX cy cs ad en) (k i v : Int32)   : Met l yX11_put (Cond.code yX11_put cX11_put 4 (some .int) :: TB) (rmN 3) (va_Pc [.ref (ad 0), .int k, .int i, .int v] (Pre D cy cs ad en sz)) (va_Qi (S := Nat → va_E) (fun r en1 => SX cy cs ad en1 ∧ (∀ c, (0 < c ∧ (c < 107 ∨ 115 ≤ c)) → en1 c = en c) ∧ XPU k i v r en en1 ∧ rdI (en1 0) 6 = rdI (en 0) 6) (PostM D cs ad) (Af cs ad sz)) 0 0 (Af cs ad sz) := by
  refine Met.ofW (cc := cX11_put) (maxL := 4) (ret := (some .int)) (by decide) rfl ?_
  intro p e s m args below meth c s₁ B hml hv
  obtain ⟨rfl, hsz, hP, hK, hD0⟩ := hv
  have hx := B.exec
  have hb := B.bytes
  have hr := B.returns
  have hts : ∀ w ∈ TB, w.before _ s = true := fun w h => atoms_spec (ws := _ :: TB) B.pre w (List.mem_cons_of_mem _ h)
  have hown : s.vm.findClass RX11 = some m.cls := findClass_of_methodNamed B.named
  have hlocks := B.notSynchronized
  have hh : Hp D (Af cs ad sz) (Af cs ad sz) s.heap s.heap [] cs ad en := ⟨hP, Af_self hD0, va_S.rf⟩
  have hA : ∀ q : Nat, s.heap.size ≤ q → Af cs ad sz q := fun q h => Or.inr (by rw [hsz] at h; exact h)
  have hl := lv_entry ([.ref (ad 0), .int k, .int i, .int v]) (n := 4) (Nat.le_of_ble_eq_true rfl)
  rw [lg_entry_eq]
  generalize (lg_sl ([.ref (ad 0), .int k, .int i, .int v]) ++ List.replicate (4 - (lg_sl ([.ref (ad 0), .int k, .int i, .int v])).length) Slot.unset).toArray = ls at hl ⊢
  have hl : lv_has ls 4 [(0, .ref (ad 0)), (1, .int k), (2, .int i), (3, .int v)] := hl
  have hf0 : ∀ c, (0 < c ∧ (c < 107 ∨ 115 ≤ c)) → en c = en c := fun _ _ => rfl
  obtain ⟨wc_454, lf_454, es454, p0_454⟩ := get_A hI
  refine lv_aload_n hx hb dX11_put_0 rfl (lv_at hl 0 rfl) ?_
  refine lv_aload_n hx hb dX11_put_1 rfl (lv_at hl 0 rfl) ?_
  refine lv_iload_n hx hb dX11_put_2 rfl (lv_at hl 1 rfl) ?_
  refine lv_iload_n hx hb dX11_put_3 rfl (lv_at hl 2 rfl) ?_
  refine lv_iload_n hx hb dX11_put_4 rfl (lv_at hl 3 rfl) ?_
  refine hp_callMi (va_runV (As := [.int k, .int i, .int v]) (rest := [.ref (ad 0)]) ⟨hx, hb, hml, hown, hts⟩ (c_X11_putCell l D cy _ cs ad en hI k i v ) (kw_X11_putCell hts tw_771 ⟨by decide, by decide⟩) (preV_of hh hK (hI.1 _ (by decide)) es454 rfl) rfl rfl hl.1 rfl (lv_room (Nat.le_of_ble_eq_true rfl)) dX11_put_5 ⟨Nat.le_of_ble_eq_true rfl, Nat.le_of_ble_eq_true rfl⟩) hh hA (fun r_455 H locs en_455 hw_455 hh => ?_)
  obtain ⟨hI_455, hu_455, hx_455⟩ := hw_455
  have hf_455 : ∀ c, (0 < c ∧ (c < 107 ∨ 115 ≤ c)) → en_455 c = en c := fun c hc => (hu_455 c (by omega)).trans (hf0 c hc)
  obtain ⟨wc_456, lf_456, es456, p0_456⟩ := get_A hI_455
  refine hp_callMi (va_runV (As := [.int r_455]) (rest := []) ⟨hx, hb, hml, hown, hts⟩ (c_X11_settle l D cy _ cs ad en_455 hI_455 r_455) (kw_X11_settle hts tw_404 ⟨by decide, by decide⟩) (preV_of hh hK (hI.1 _ (by decide)) es456 rfl) rfl rfl hl.1 rfl (lv_room (Nat.le_of_ble_eq_true rfl)) dX11_put_8 ⟨Nat.le_of_ble_eq_true rfl, Nat.le_of_ble_eq_true rfl⟩) hh hA (fun r_457 H locs en_457 hw_457 hh => ?_)
  obtain ⟨hI_457, hu_457, hr_457, hwc_457⟩ := hw_457
  have hf_457 : ∀ c, (0 < c ∧ (c < 107 ∨ 115 ≤ c)) → en_457 c = en c := fun c hc => (hu_457 c (by omega)).trans (hf_455 c hc)
  rw [hr_457]
  exact hp_iretM hx hb hr rfl hlocks hh (⟨hI_457, hf_457, XPU_s hx_455 hu_457, (hwc_457.trans (congrArg (fun x => rdI x 6) (hu_455 0 (by omega))))⟩) dX11_put_11
theorem kw_X11_put {R : Room} {s : State} {args : Array Value} {own : String} {idx : Nat} (hts : ∀ w ∈ TB, w.before args s = true) (hl : Cond.methodLink own idx yX11_put ∈ TB) (hR : 3 + 1 ≤ R.frames ∧ 8 + (4 + 11) + 40 * 3 ≤ R.locals) : CallW R s args own RX11 idx yX11_put cX11_put 4 (some .int) (Cond.code yX11_put cX11_put 4 (some .int) :: TB) (rmN 3) 0 0 3 := cwV 3 hts (TB_V hl tw_768 tw_769 tw_1 tw_770) rfl rfl rfl (by decide +kernel) hR
set_option maxHeartbeats 4000000 in
set_option maxRecDepth 100000 in
/-- lose -/
theorem c_X11_lose (l : Launch) (D : va_G) (cy : Nat → ClassId) (sz : Nat) (cs : List Nat) (ad : Nat → Nat) (en : Nat → va_E) (hI : SX cy cs ad en) (k : Int32)   : Met l yX11_lose (Cond.code yX11_lose cX11_lose 2 (some .int) :: TB) (rmN 2) (va_Pc [.ref (ad 0), .int k] (Pre D cy cs ad en sz)) (va_Qi (S := Nat → va_E) (fun r en1 => SX cy cs ad en1 ∧ (∀ c, (c < 107 ∨ 115 ≤ c) → en1 c = en c) ∧ XLO k r en en1) (PostM D cs ad) (Af cs ad sz)) 0 0 (Af cs ad sz) := by
  refine Met.ofW (cc := cX11_lose) (maxL := 2) (ret := (some .int)) (by decide) rfl ?_
  intro p e s m args below meth c s₁ B hml hv
  obtain ⟨rfl, hsz, hP, hK, hD0⟩ := hv
  have hx := B.exec
  have hb := B.bytes
  have hr := B.returns
  have hts : ∀ w ∈ TB, w.before _ s = true := fun w h => atoms_spec (ws := _ :: TB) B.pre w (List.mem_cons_of_mem _ h)
  have hown : s.vm.findClass RX11 = some m.cls := findClass_of_methodNamed B.named
  have hlocks := B.notSynchronized
  have hh : Hp D (Af cs ad sz) (Af cs ad sz) s.heap s.heap [] cs ad en := ⟨hP, Af_self hD0, va_S.rf⟩
  have hA : ∀ q : Nat, s.heap.size ≤ q → Af cs ad sz q := fun q h => Or.inr (by rw [hsz] at h; exact h)
  have hl := lv_entry ([.ref (ad 0), .int k]) (n := 2) (Nat.le_of_ble_eq_true rfl)
  rw [lg_entry_eq]
  generalize (lg_sl ([.ref (ad 0), .int k]) ++ List.replicate (2 - (lg_sl ([.ref (ad 0), .int k])).length) Slot.unset).toArray = ls at hl ⊢
  have hl : lv_has ls 2 [(0, .ref (ad 0)), (1, .int k)] := hl
  have hf0 : ∀ c, (c < 107 ∨ 115 ≤ c) → en c = en c := fun _ _ => rfl
  obtain ⟨wc_458, lf_458, es458, p0_458⟩ := get_A hI
  refine lv_iload_n hx hb dX11_lose_0 rfl (lv_at hl 1 rfl) ?_
  refine hp_callRi (va_runS (As := [.int k]) (rest := []) ⟨hx, hb, hml, hown, hts⟩ (c_X11_isSheet l D cy _ cs ad en k) (kw_X11_isSheet hts tw_305 ⟨by decide, by decide⟩) (preS_of hh hK) rfl rfl hl.1 rfl (lv_room (Nat.le_of_ble_eq_true rfl)) dX11_lose_1 ⟨Nat.le_of_ble_eq_true rfl, Nat.le_of_ble_eq_true rfl⟩) hh hA (fun r_459 H locs hw_459 hh => ?_)
  rcases Decidable.em (wi k 0 3) with hp_459 | hp_459
  · obtain rfl : r_459 = 1 := Eq.trans hw_459 (if_pos hp_459)
    obtain ⟨N_459, rfl, hA_459, hB_459⟩ := wi_natB hp_459 0 3 (by decide) (by decide)
    refine lv_if_ne (tgt := 9) hx hb dX11_lose_4 (by decide) (fun _ => ?_) (fun c_0 => absurd c_0 (by decide))
    refine lv_aload_n hx hb dX11_lose_9 rfl (lv_at hl 0 rfl) ?_
    refine hp_get hx hb hts ix11 hown hK hh (q := 0) rfl (hI.1 _ (by decide)) es458 rfl 4 (by decide) (hts _ tw_249) (fun _ h9 => h9) rfl dX11_lose_10 ?_
    refine lv_iload_n hx hb dX11_lose_13 rfl (lv_at hl 1 rfl) ?_
    have es460 := get_shs hI
    unfold P_shs at es460
    refine hp_aald hx hb hK hh (q := 75) rfl (hI.1 _ (by decide)) 6 es460 rfl rfl (vp_in_nI (n := N_459) (by omega) (by decide)) (v := .ref (ad (107 + 2 * N_459))) (by rw [nI_clamp (n := N_459) (by omega)]; exact rfB_v (by omega)) dX11_lose_14 ?_
    obtain ⟨sc_461, sl_461, sr_461, es461, p0_461, p1_461⟩ := get_sh hI (j := N_459) (by omega)
    refine hp_callMi (va_runV (As := []) (rest := []) ⟨hx, hb, hml, hown, hts⟩ (c_X3_drop l D cy _ cs ad en hI N_459 (by omega)  ) (kw_X3_drop hts tw_763 ⟨by decide, by decide⟩) (preV_of hh hK (hI.1 _ (by omega)) es461 rfl) rfl rfl hl.1 rfl (lv_room (Nat.le_of_ble_eq_true rfl)) dX11_lose_15 ⟨Nat.le_of_ble_eq_true rfl, Nat.le_of_ble_eq_true rfl⟩) hh hA (fun r_462 H locs en_462 hw_462 hh => ?_)
    obtain ⟨hI_462, hu_462, hx_462⟩ := hw_462
    have hf_462 : ∀ c, (c < 107 ∨ 115 ≤ c) → en_462 c = en c := fun c hc => (hu_462 c (by omega)).trans (hf0 c hc)
    refine lv_if_eq (tgt := 25) hx hb dX11_lose_18 (by decide) (fun c_463 => ?_) (fun c_463 => ?_)
    · refine lv_iconst (v := 0) hx hb dX11_lose_25 (by decide) ?_
      exact hp_iretM hx hb hr rfl hlocks hh (⟨hI_462, hf_462, Or.inr ⟨N_459, rfl, by omega, Or.inl ⟨hx_462.1.symm.trans c_463, rfl⟩, hu_462, hx_462.2⟩⟩) dX11_lose_26
    · refine lv_iconst (v := 1) hx hb dX11_lose_21 (by decide) ?_
      refine lv_goto (tgt := 26) hx hb dX11_lose_22 (by decide) ?_
      exact hp_iretM hx hb hr rfl hlocks hh (⟨hI_462, hf_462, Or.inr ⟨N_459, rfl, by omega, Or.inr ⟨bit_ne0 (sh_bit hI (by omega)) (fun q => c_463 (hx_462.1.trans q)), rfl⟩, hu_462, hx_462.2⟩⟩) dX11_lose_26
  · obtain rfl : r_459 = 0 := Eq.trans hw_459 (if_neg hp_459)
    refine lv_if_ne (tgt := 9) hx hb dX11_lose_4 (by decide) (fun c_0 => absurd c_0 (by decide)) (fun _ => ?_)
    refine lv_iconst (v := (-1)) hx hb dX11_lose_7 (by decide) ?_
    exact hp_iretM hx hb hr rfl hlocks hh (⟨hI, hf0, Or.inl ⟨hp_459, rfl, rfl⟩⟩) dX11_lose_8
theorem kw_X11_lose {R : Room} {s : State} {args : Array Value} {own : String} {idx : Nat} (hts : ∀ w ∈ TB, w.before args s = true) (hl : Cond.methodLink own idx yX11_lose ∈ TB) (hR : 2 + 1 ≤ R.frames ∧ 8 + (2 + 11) + 40 * 2 ≤ R.locals) : CallW R s args own RX11 idx yX11_lose cX11_lose 2 (some .int) (Cond.code yX11_lose cX11_lose 2 (some .int) :: TB) (rmN 2) 0 0 1 := cwV 1 hts (TB_V hl tw_760 tw_761 tw_1 tw_762) rfl rfl rfl (by decide +kernel) hR
set_option maxHeartbeats 4000000 in
set_option maxRecDepth 100000 in
/-- at -/
theorem c_X11_at (l : Launch) (D : va_G) (cy : Nat → ClassId) (sz : Nat) (cs : List Nat) (ad : Nat → Nat) (en : Nat → va_E) (hI : SX cy cs ad en) (k i la : Int32)   : Met l yX11_at (Cond.code yX11_at cX11_at 5 (some .long) :: TB) (rmN 3) (va_Pc [.ref (ad 0), .int k, .int i, .int la] (Pre D cy cs ad en sz)) (va_Ql (S := Nat → va_E) (fun r en1 => SX cy cs ad en1 ∧ (∀ c, (c ≠ 0) → en1 c = en c) ∧ XAT k i la r en ∧ rdI (en1 0) 6 = rdI (en 0) 6) (PostM D cs ad) (Af cs ad sz)) 0 0 (Af cs ad sz) := by
  refine Met.ofW (cc := cX11_at) (maxL := 5) (ret := (some .long)) (by decide) rfl ?_
  intro p e s m args below meth c s₁ B hml hv
  obtain ⟨rfl, hsz, hP, hK, hD0⟩ := hv
  have hx := B.exec
  have hb := B.bytes
  have hr := B.returns
  have hts : ∀ w ∈ TB, w.before _ s = true := fun w h => atoms_spec (ws := _ :: TB) B.pre w (List.mem_cons_of_mem _ h)
  have hown : s.vm.findClass RX11 = some m.cls := findClass_of_methodNamed B.named
  have hlocks := B.notSynchronized
  have hh : Hp D (Af cs ad sz) (Af cs ad sz) s.heap s.heap [] cs ad en := ⟨hP, Af_self hD0, va_S.rf⟩
  have hA : ∀ q : Nat, s.heap.size ≤ q → Af cs ad sz q := fun q h => Or.inr (by rw [hsz] at h; exact h)
  have hl := lv_entry ([.ref (ad 0), .int k, .int i, .int la]) (n := 5) (Nat.le_of_ble_eq_true rfl)
  rw [lg_entry_eq]
  generalize (lg_sl ([.ref (ad 0), .int k, .int i, .int la]) ++ List.replicate (5 - (lg_sl ([.ref (ad 0), .int k, .int i, .int la])).length) Slot.unset).toArray = ls at hl ⊢
  have hl : lv_has ls 5 [(0, .ref (ad 0)), (1, .int k), (2, .int i), (3, .int la)] := hl
  have hf0 : ∀ c, (c ≠ 0) → en c = en c := fun _ _ => rfl
  obtain ⟨wc_464, lf_464, es464, p0_464⟩ := get_A hI
  refine lv_aload_n hx hb dX11_at_0 rfl (lv_at hl 0 rfl) ?_
  refine lv_aload_n hx hb dX11_at_1 rfl (lv_at hl 0 rfl) ?_
  refine lv_iload_n hx hb dX11_at_2 rfl (lv_at hl 1 rfl) ?_
  refine lv_iload_n hx hb dX11_at_3 rfl (lv_at hl 3 rfl) ?_
  refine lv_iload_n hx hb dX11_at_4 rfl (lv_at hl 2 rfl) ?_
  refine lv_iconst (v := 1) hx hb dX11_at_5 (by decide) ?_
  refine hp_callRi (va_runV (As := [.int k, .int la, .int i, .int 1]) (rest := [.ref (ad 0)]) ⟨hx, hb, hml, hown, hts⟩ (c_X11_lookAtCells l D cy _ cs ad en hI k la i 1) (kw_X11_lookAtCells hts tw_301 ⟨by decide, by decide⟩) (preV_of hh hK (hI.1 _ (by decide)) es464 rfl) rfl rfl hl.1 rfl (lv_room (Nat.le_of_ble_eq_true rfl)) dX11_at_6 ⟨Nat.le_of_ble_eq_true rfl, Nat.le_of_ble_eq_true rfl⟩) hh hA (fun r_465 H locs hw_465 hh => ?_)
  refine hp_callMi (va_runV (As := [.int r_465]) (rest := []) ⟨hx, hb, hml, hown, hts⟩ (c_X11_settle l D cy _ cs ad en hI r_465) (kw_X11_settle hts tw_404 ⟨by decide, by decide⟩) (preV_of hh hK (hI.1 _ (by decide)) es464 rfl) rfl rfl hl.1 rfl (lv_room (Nat.le_of_ble_eq_true rfl)) dX11_at_9 ⟨Nat.le_of_ble_eq_true rfl, Nat.le_of_ble_eq_true rfl⟩) hh hA (fun r_466 H locs en_466 hw_466 hh => ?_)
  obtain ⟨hI_466, hu_466, hr_466, hwc_466⟩ := hw_466
  have hf_466 : ∀ c, (c ≠ 0) → en_466 c = en c := fun c hc => (hu_466 c (by omega)).trans (hf0 c hc)
  rw [hr_466]
  refine lv_istore (lv' := [(4, .int r_465), (0, .ref (ad 0)), (1, .int k), (2, .int i), (3, .int la)]) hx hb dX11_at_12 hl (by decide) rfl (fun ls hl => ?_)
  refine lv_iload hx hb dX11_at_14 (lv_at hl 0 rfl) ?_
  refine lv_iconst (v := 1) hx hb dX11_at_16 (by decide) ?_
  refine lv_icmp_ne (tgt := 35) hx hb dX11_at_17 (by decide) (fun c_467 => ?_) (fun c_467 => ?_)
  · refine lv_ldc2 hx hb hown (hts _ tw_420) dX11_at_35 ?_
    exact hp_lretM hx hb hr hlocks hh (⟨hI_466, hf_466, (by unfold XAT; rw [if_neg (fun q => c_467 (hw_465.trans q))]), hwc_466⟩) dX11_at_38
  · obtain ⟨hw1, -, -, -, hw5⟩ := lookF_1 (hw_465.symm.trans c_467)
    obtain ⟨K9, rfl, -, hK9⟩ := wi_natB hw1 0 3 (by decide) (by decide)
    obtain ⟨sc_468, sl_468, sr_468, es468, p0_468, p1_468⟩ := get_sh hI_466 (j := K9) (by omega)
    rw [nI_clamp (n := K9) (by omega), ← hf_466 _ (by omega), show rdI (en_466 (107 + 2 * K9)) 1 = nI sc_468 from by rw [es468]; rfl] at hw5
    obtain ⟨I9, rfl, hI9⟩ := hcP_nat (n := 1) (by omega) hw5 (by decide)
    refine lv_aload_n hx hb dX11_at_20 rfl (lv_at hl 1 rfl) ?_
    obtain ⟨wc_469, lf_469, es469, p0_469⟩ := get_A hI_466
    refine hp_get hx hb hts ix11 hown hK hh (q := 0) rfl (hI.1 _ (by decide)) es469 rfl 4 (by decide) (hts _ tw_249) (fun _ h9 => h9) rfl dX11_at_21 ?_
    refine lv_iload_n hx hb dX11_at_24 rfl (lv_at hl 2 rfl) ?_
    have es470 := get_shs hI_466
    unfold P_shs at es470
    refine hp_aald hx hb hK hh (q := 75) rfl (hI.1 _ (by decide)) 6 es470 rfl rfl (vp_in_nI (n := K9) (by omega) (by decide)) (v := .ref (ad (107 + 2 * K9))) (by rw [nI_clamp (n := K9) (by omega)]; exact rfB_v (by omega)) dX11_at_25 ?_
    refine hp_get hx hb hts ix3 hown hK hh (q := (107 + 2 * K9)) rfl (hI.1 _ (by omega)) es468 rfl 0 (by decide) (hts _ tw_230) (fun _ h9 => h9) rfl dX11_at_26 ?_
    refine lv_iload_n hx hb dX11_at_29 rfl (lv_at hl 3 rfl) ?_
    obtain ⟨f_471, es471⟩ := get_shc hI_466 (j := K9) (by omega)
    refine hp_iald hx hb hK hh (q := (108 + 2 * K9)) rfl (hI.1 _ (by omega)) es471 (vp_in_nI (n := I9) (by omega) (by decide)) dX11_at_30 ?_
    rw [nI_clamp (n := I9) (by omega)]
    refine lv_i2l hx hb dX11_at_31 rfl ?_
    refine lv_goto (tgt := 38) hx hb dX11_at_32 (by decide) ?_
    exact hp_lretM hx hb hr hlocks hh (⟨hI_466, hf_466, (by unfold XAT; rw [if_pos (hw_465.symm.trans c_467), nI_clamp (n := K9) (by omega), nI_clamp (n := I9) (by omega), ← hf_466 (108 + 2 * K9) (by omega), es471]; rfl), hwc_466⟩) dX11_at_38
theorem kw_X11_at {R : Room} {s : State} {args : Array Value} {own : String} {idx : Nat} (hts : ∀ w ∈ TB, w.before args s = true) (hl : Cond.methodLink own idx yX11_at ∈ TB) (hR : 3 + 1 ≤ R.frames ∧ 8 + (5 + 11) + 40 * 3 ≤ R.locals) : CallW R s args own RX11 idx yX11_at cX11_at 5 (some .long) (Cond.code yX11_at cX11_at 5 (some .long) :: TB) (rmN 3) 0 0 3 := cwV 3 hts (TB_V hl tw_780 tw_781 tw_1 tw_782) rfl rfl rfl (by decide +kernel) hR
