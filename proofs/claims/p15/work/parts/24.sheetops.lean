set_option maxHeartbeats 4000000 in
set_option maxRecDepth 100000 in
/-- renewSheet -/
theorem c_X11_renewSheet (l : Launch) (D : va_G) (cy : Nat → ClassId) (sz : Nat) (cs : List Nat) (ad : Nat → Nat) (en : Nat → va_E) (hI : SX cy cs ad en) (k la n : Int32)   : Met l yX11_renewSheet (Cond.code yX11_renewSheet cX11_renewSheet 4 (some .int) :: TB) (rmN 2) (va_Pc [.ref (ad 0), .int k, .int la, .int n] (Pre D cy cs ad en sz)) (va_Qi (S := Nat → va_E) (fun r en1 => SX cy cs ad en1 ∧ (∀ c, (c < 107 ∨ 115 ≤ c) → en1 c = en c) ∧ XSH k la n r en en1) (PostM D cs ad) (Af cs ad sz)) 0 0 (Af cs ad sz) := by
  refine Met.ofW (cc := cX11_renewSheet) (maxL := 4) (ret := (some .int)) (by decide) rfl ?_
  intro p e s m args below meth c s₁ B hml hv
  obtain ⟨rfl, hsz, hP, hK, hD0⟩ := hv
  have hx := B.exec
  have hb := B.bytes
  have hr := B.returns
  have hts : ∀ w ∈ TB, w.before _ s = true := fun w h => atoms_spec (ws := _ :: TB) B.pre w (List.mem_cons_of_mem _ h)
  have hown : s.vm.findClass RX11 = some m.cls := findClass_of_methodNamed B.named
  have hlocks := B.notSynchronized
  have hh : Hp D (Af cs ad sz) (Af cs ad sz) s.heap s.heap [] cs ad en := ⟨hP, Af_self hD0, va_S.rf⟩
  have hA : ∀ q : Nat, s.heap.size ≤ q → Af cs ad sz q := fun q h => Or.inr (by rw [hsz] at h; exact h)
  have hl := lv_entry ([.ref (ad 0), .int k, .int la, .int n]) (n := 4) (Nat.le_of_ble_eq_true rfl)
  rw [lg_entry_eq]
  generalize (lg_sl ([.ref (ad 0), .int k, .int la, .int n]) ++ List.replicate (4 - (lg_sl ([.ref (ad 0), .int k, .int la, .int n])).length) Slot.unset).toArray = ls at hl ⊢
  have hl : lv_has ls 4 [(0, .ref (ad 0)), (1, .int k), (2, .int la), (3, .int n)] := hl
  have hf0 : ∀ c, (c < 107 ∨ 115 ≤ c) → en c = en c := fun _ _ => rfl
  obtain ⟨wc_441, lf_441, es441, p0_441⟩ := get_A hI
  refine lv_iload_n hx hb dX11_renewSheet_0 rfl (lv_at hl 1 rfl) ?_
  refine hp_callRi (va_runS (As := [.int k]) (rest := []) ⟨hx, hb, hml, hown, hts⟩ (c_X11_isSheet l D cy _ cs ad en k) (kw_X11_isSheet hts tw_305 ⟨by decide, by decide⟩) (preS_of hh hK) rfl rfl hl.1 rfl (lv_room (Nat.le_of_ble_eq_true rfl)) dX11_renewSheet_1 ⟨Nat.le_of_ble_eq_true rfl, Nat.le_of_ble_eq_true rfl⟩) hh hA (fun r_442 H locs hw_442 hh => ?_)
  rcases Decidable.em (wi k 0 3) with hp_442 | hp_442
  · obtain rfl : r_442 = 1 := Eq.trans hw_442 (if_pos hp_442)
    obtain ⟨N_442, rfl, hA_442, hB_442⟩ := wi_natB hp_442 0 3 (by decide) (by decide)
    refine lv_if_ne (tgt := 9) hx hb dX11_renewSheet_4 (by decide) (fun _ => ?_) (fun c_0 => absurd c_0 (by decide))
    refine lv_iload_n hx hb dX11_renewSheet_9 rfl (lv_at hl 2 rfl) ?_
    refine hp_callRi (va_runS (As := [.int la]) (rest := []) ⟨hx, hb, hml, hown, hts⟩ (c_X11_isLane l D cy _ cs ad en la) (kw_X11_isLane hts tw_308 ⟨by decide, by decide⟩) (preS_of hh hK) rfl rfl hl.1 rfl (lv_room (Nat.le_of_ble_eq_true rfl)) dX11_renewSheet_10 ⟨Nat.le_of_ble_eq_true rfl, Nat.le_of_ble_eq_true rfl⟩) hh hA (fun r_443 H locs hw_443 hh => ?_)
    rcases Decidable.em (wi la 0 2) with hp_443 | hp_443
    · obtain rfl : r_443 = 1 := Eq.trans hw_443 (if_pos hp_443)
      refine lv_if_eq (tgt := 22) hx hb dX11_renewSheet_13 (by decide) (fun c_0 => absurd c_0 (by decide)) (fun _ => ?_)
      refine lv_iload_n hx hb dX11_renewSheet_16 rfl (lv_at hl 3 rfl) ?_
      refine lv_bipush (v := 40) hx hb dX11_renewSheet_17 (by decide) ?_
      refine lv_icmp_le (tgt := 25) hx hb dX11_renewSheet_19 (by decide) (fun c_444 => ?_) (fun c_444 => ?_)
      · refine lv_iload_n hx hb dX11_renewSheet_25 rfl (lv_at hl 3 rfl) ?_
        refine lv_if_ge (tgt := 34) hx hb dX11_renewSheet_26 (by decide) (fun c_445 => ?_) (fun c_445 => ?_)
        · obtain ⟨N9, hN9, rfl⟩ := nat_of (Int32.not_lt.mpr c_445)
          have hN40 : N9 ≤ 40 := n_le (a := N9) (b := 40) c_444 hN9 (by decide)
          refine lv_aload_n hx hb dX11_renewSheet_34 rfl (lv_at hl 0 rfl) ?_
          refine hp_get hx hb hts ix11 hown hK hh (q := 0) rfl (hI.1 _ (by decide)) es441 rfl 4 (by decide) (hts _ tw_249) (fun _ h9 => h9) rfl dX11_renewSheet_35 ?_
          refine lv_iload_n hx hb dX11_renewSheet_38 rfl (lv_at hl 1 rfl) ?_
          have es446 := get_shs hI
          unfold P_shs at es446
          refine hp_aald hx hb hK hh (q := 75) rfl (hI.1 _ (by decide)) 6 es446 rfl rfl (vp_in_nI (n := N_442) (by omega) (by decide)) (v := .ref (ad (107 + 2 * N_442))) (by rw [nI_clamp (n := N_442) (by omega)]; exact rfB_v (by omega)) dX11_renewSheet_39 ?_
          refine lv_iload_n hx hb dX11_renewSheet_40 rfl (lv_at hl 2 rfl) ?_
          refine lv_iload_n hx hb dX11_renewSheet_41 rfl (lv_at hl 3 rfl) ?_
          obtain ⟨sc_447, sl_447, sr_447, es447, p0_447, p1_447⟩ := get_sh hI (j := N_442) (by omega)
          refine hp_callMv (va_runV (As := [.int la, .int (nI N9)]) (rest := []) ⟨hx, hb, hml, hown, hts⟩ (c_X3_renew l D cy _ cs ad en hI N_442 (by omega) la N9 (by omega)) (kw_X3_renew hts tw_754 ⟨by decide, by decide⟩) (preV_of hh hK (hI.1 _ (by omega)) es447 rfl) rfl rfl hl.1 rfl (lv_room (Nat.le_of_ble_eq_true rfl)) dX11_renewSheet_42 ⟨Nat.le_of_ble_eq_true rfl, Nat.le_of_ble_eq_true rfl⟩) hh hA (fun H locs en_448 hw_448 hh => ?_)
          obtain ⟨hI_448, hu_448, hx_448⟩ := hw_448
          have hf_448 : ∀ c, (c < 107 ∨ 115 ≤ c) → en_448 c = en c := fun c hc => (hu_448 c (by omega)).trans (hf0 c hc)
          refine lv_iconst (v := 1) hx hb dX11_renewSheet_45 (by decide) ?_
          have h40 : (40 : Int32).toInt = 40 := by decide
          have h00 : (0 : Int32).toInt = 0 := by decide
          exact hp_iretM hx hb hr rfl hlocks hh (⟨hI_448, hf_448, ⟨(by have h8 := i_le c_444; have h9 := i_le c_445; unfold spSheet; rw [if_pos hp_442, if_pos ⟨hp_443, by omega⟩, if_neg (by omega)]), Or.inr ⟨rfl, N_442, N9, rfl, rfl, by omega, hN40, fun c h0 h1 h2 => hu_448 c ⟨h1, h2⟩, (by rw [hx_448.1]; rfl), (by rw [hx_448.1]; rfl), (by rw [hx_448.1]; rfl), hx_448.2⟩⟩⟩) dX11_renewSheet_46
        · refine lv_iconst (v := 4) hx hb dX11_renewSheet_29 (by decide) ?_
          refine hp_callRi (va_runS (As := [.int 4]) (rest := []) ⟨hx, hb, hml, hown, hts⟩ (c_X11_faultAnswer l D cy _ cs ad en 4) (kw_X11_faultAnswer hts tw_311 ⟨by decide, by decide⟩) (preS_of hh hK) rfl rfl hl.1 rfl (lv_room (Nat.le_of_ble_eq_true rfl)) dX11_renewSheet_30 ⟨Nat.le_of_ble_eq_true rfl, Nat.le_of_ble_eq_true rfl⟩) hh hA (fun r_449 H locs hw_449 hh => ?_)
          obtain rfl : r_449 = (-14) := Eq.trans hw_449 (by decide)
          have h40 : (40 : Int32).toInt = 40 := by decide
          have h00 : (0 : Int32).toInt = 0 := by decide
          exact hp_iretM hx hb hr rfl hlocks hh (⟨hI, hf0, ⟨(by have h8 := i_le c_444; have h9 := i_nle c_445; unfold spSheet; rw [if_pos hp_442, if_pos ⟨hp_443, by omega⟩, if_pos (by omega)]), Or.inl ⟨by decide, fun _ _ => rfl⟩⟩⟩) dX11_renewSheet_33
      · refine lv_bipush (v := (-2)) hx hb dX11_renewSheet_22 (by decide) ?_
        have h40 : (40 : Int32).toInt = 40 := by decide
        have h00 : (0 : Int32).toInt = 0 := by decide
        exact hp_iretM hx hb hr rfl hlocks hh (⟨hI, hf0, ⟨(by have h9 := i_nle c_444; unfold spSheet; rw [if_pos hp_442, if_neg (fun q => absurd q.2 (by omega))]), Or.inl ⟨by decide, fun _ _ => rfl⟩⟩⟩) dX11_renewSheet_24
    · obtain rfl : r_443 = 0 := Eq.trans hw_443 (if_neg hp_443)
      refine lv_if_eq (tgt := 22) hx hb dX11_renewSheet_13 (by decide) (fun _ => ?_) (fun c_0 => absurd c_0 (by decide))
      refine lv_bipush (v := (-2)) hx hb dX11_renewSheet_22 (by decide) ?_
      have h40 : (40 : Int32).toInt = 40 := by decide
      have h00 : (0 : Int32).toInt = 0 := by decide
      exact hp_iretM hx hb hr rfl hlocks hh (⟨hI, hf0, ⟨(by unfold spSheet; rw [if_pos hp_442, if_neg (fun q => hp_443 q.1)]), Or.inl ⟨by decide, fun _ _ => rfl⟩⟩⟩) dX11_renewSheet_24
  · obtain rfl : r_442 = 0 := Eq.trans hw_442 (if_neg hp_442)
    refine lv_if_ne (tgt := 9) hx hb dX11_renewSheet_4 (by decide) (fun c_0 => absurd c_0 (by decide)) (fun _ => ?_)
    refine lv_iconst (v := (-1)) hx hb dX11_renewSheet_7 (by decide) ?_
    have h40 : (40 : Int32).toInt = 40 := by decide
    have h00 : (0 : Int32).toInt = 0 := by decide
    exact hp_iretM hx hb hr rfl hlocks hh (⟨hI, hf0, ⟨(by unfold spSheet; rw [if_neg hp_442]), Or.inl ⟨by decide, fun _ _ => rfl⟩⟩⟩) dX11_renewSheet_8
theorem kw_X11_renewSheet {R : Room} {s : State} {args : Array Value} {own : String} {idx : Nat} (hts : ∀ w ∈ TB, w.before args s = true) (hl : Cond.methodLink own idx yX11_renewSheet ∈ TB) (hR : 2 + 1 ≤ R.frames ∧ 8 + (4 + 11) + 40 * 2 ≤ R.locals) : CallW R s args own RX11 idx yX11_renewSheet cX11_renewSheet 4 (some .int) (Cond.code yX11_renewSheet cX11_renewSheet 4 (some .int) :: TB) (rmN 2) 0 0 3 := cwV 3 hts (TB_V hl tw_752 ts_28 tw_1 tw_753) rfl rfl rfl (by decide +kernel) hR
set_option maxHeartbeats 4000000 in
set_option maxRecDepth 100000 in
/-- sheet -/
theorem c_X11_sheet (l : Launch) (D : va_G) (cy : Nat → ClassId) (sz : Nat) (cs : List Nat) (ad : Nat → Nat) (en : Nat → va_E) (hI : SX cy cs ad en) (k la n : Int32)   : Met l yX11_sheet (Cond.code yX11_sheet cX11_sheet 4 (some .int) :: TB) (rmN 3) (va_Pc [.ref (ad 0), .int k, .int la, .int n] (Pre D cy cs ad en sz)) (va_Qi (S := Nat → va_E) (fun r en1 => SX cy cs ad en1 ∧ (∀ c, (0 < c ∧ (c < 107 ∨ 115 ≤ c)) → en1 c = en c) ∧ XSH k la n r en en1 ∧ rdI (en1 0) 6 = rdI (en 0) 6) (PostM D cs ad) (Af cs ad sz)) 0 0 (Af cs ad sz) := by
  refine Met.ofW (cc := cX11_sheet) (maxL := 4) (ret := (some .int)) (by decide) rfl ?_
  intro p e s m args below meth c s₁ B hml hv
  obtain ⟨rfl, hsz, hP, hK, hD0⟩ := hv
  have hx := B.exec
  have hb := B.bytes
  have hr := B.returns
  have hts : ∀ w ∈ TB, w.before _ s = true := fun w h => atoms_spec (ws := _ :: TB) B.pre w (List.mem_cons_of_mem _ h)
  have hown : s.vm.findClass RX11 = some m.cls := findClass_of_methodNamed B.named
  have hlocks := B.notSynchronized
  have hh : Hp D (Af cs ad sz) (Af cs ad sz) s.heap s.heap [] cs ad en := ⟨hP, Af_self hD0, va_S.rf⟩
  have hA : ∀ q : Nat, s.heap.size ≤ q → Af cs ad sz q := fun q h => Or.inr (by rw [hsz] at h; exact h)
  have hl := lv_entry ([.ref (ad 0), .int k, .int la, .int n]) (n := 4) (Nat.le_of_ble_eq_true rfl)
  rw [lg_entry_eq]
  generalize (lg_sl ([.ref (ad 0), .int k, .int la, .int n]) ++ List.replicate (4 - (lg_sl ([.ref (ad 0), .int k, .int la, .int n])).length) Slot.unset).toArray = ls at hl ⊢
  have hl : lv_has ls 4 [(0, .ref (ad 0)), (1, .int k), (2, .int la), (3, .int n)] := hl
  have hf0 : ∀ c, (0 < c ∧ (c < 107 ∨ 115 ≤ c)) → en c = en c := fun _ _ => rfl
  obtain ⟨wc_450, lf_450, es450, p0_450⟩ := get_A hI
  refine lv_aload_n hx hb dX11_sheet_0 rfl (lv_at hl 0 rfl) ?_
  refine lv_aload_n hx hb dX11_sheet_1 rfl (lv_at hl 0 rfl) ?_
  refine lv_iload_n hx hb dX11_sheet_2 rfl (lv_at hl 1 rfl) ?_
  refine lv_iload_n hx hb dX11_sheet_3 rfl (lv_at hl 2 rfl) ?_
  refine lv_iload_n hx hb dX11_sheet_4 rfl (lv_at hl 3 rfl) ?_
  refine hp_callMi (va_runV (As := [.int k, .int la, .int n]) (rest := [.ref (ad 0)]) ⟨hx, hb, hml, hown, hts⟩ (c_X11_renewSheet l D cy _ cs ad en hI k la n ) (kw_X11_renewSheet hts tw_750 ⟨by decide, by decide⟩) (preV_of hh hK (hI.1 _ (by decide)) es450 rfl) rfl rfl hl.1 rfl (lv_room (Nat.le_of_ble_eq_true rfl)) dX11_sheet_5 ⟨Nat.le_of_ble_eq_true rfl, Nat.le_of_ble_eq_true rfl⟩) hh hA (fun r_451 H locs en_451 hw_451 hh => ?_)
  obtain ⟨hI_451, hu_451, hx_451⟩ := hw_451
  have hf_451 : ∀ c, (0 < c ∧ (c < 107 ∨ 115 ≤ c)) → en_451 c = en c := fun c hc => (hu_451 c (by omega)).trans (hf0 c hc)
  obtain ⟨wc_452, lf_452, es452, p0_452⟩ := get_A hI_451
  refine hp_callMi (va_runV (As := [.int r_451]) (rest := []) ⟨hx, hb, hml, hown, hts⟩ (c_X11_settle l D cy _ cs ad en_451 hI_451 r_451) (kw_X11_settle hts tw_404 ⟨by decide, by decide⟩) (preV_of hh hK (hI.1 _ (by decide)) es452 rfl) rfl rfl hl.1 rfl (lv_room (Nat.le_of_ble_eq_true rfl)) dX11_sheet_8 ⟨Nat.le_of_ble_eq_true rfl, Nat.le_of_ble_eq_true rfl⟩) hh hA (fun r_453 H locs en_453 hw_453 hh => ?_)
  obtain ⟨hI_453, hu_453, hr_453, hwc_453⟩ := hw_453
  have hf_453 : ∀ c, (0 < c ∧ (c < 107 ∨ 115 ≤ c)) → en_453 c = en c := fun c hc => (hu_453 c (by omega)).trans (hf_451 c hc)
  rw [hr_453]
  exact hp_iretM hx hb hr rfl hlocks hh (⟨hI_453, hf_453, XSH_s hx_451 hu_453, (hwc_453.trans (congrArg (fun x => rdI x 6) (hu_451 0 (by omega))))⟩) dX11_sheet_11
theorem kw_X11_sheet {R : Room} {s : State} {args : Array Value} {own : String} {idx : Nat} (hts : ∀ w ∈ TB, w.before args s = true) (hl : Cond.methodLink own idx yX11_sheet ∈ TB) (hR : 3 + 1 ≤ R.frames ∧ 8 + (4 + 11) + 40 * 3 ≤ R.locals) : CallW R s args own RX11 idx yX11_sheet cX11_sheet 4 (some .int) (Cond.code yX11_sheet cX11_sheet 4 (some .int) :: TB) (rmN 3) 0 0 3 := cwV 3 hts (TB_V hl tw_747 tw_748 tw_1 tw_749) rfl rfl rfl (by decide +kernel) hR
set_option maxHeartbeats 4000000 in
set_option maxRecDepth 100000 in
/-- putCell -/
theorem c_X11_putCell (l : Launch) (D : va_G) (cy : Nat → ClassId) (sz : Nat) (cs : List Nat) (ad : Nat → Nat) (en : Nat → va_E) (hI : SX cy cs ad en) (k i v : Int32)   : Met l yX11_putCell (Cond.code yX11_putCell cX11_putCell 4 (some .int) :: TB) (rmN 2) (va_Pc [.ref (ad 0), .int k, .int i, .int v] (Pre D cy cs ad en sz)) (va_Qi (S := Nat → va_E) (fun r en1 => SX cy cs ad en1 ∧ (∀ c, (c < 107 ∨ 115 ≤ c) → en1 c = en c) ∧ XPU k i v r en en1) (PostM D cs ad) (Af cs ad sz)) 0 0 (Af cs ad sz) := by
  refine Met.ofW (cc := cX11_putCell) (maxL := 4) (ret := (some .int)) (by decide) rfl ?_
  intro p e s m args below meth c s₁ B hml hv
  obtain ⟨rfl, hsz, hP, hK, hD0⟩ := hv
  have hx := B.exec
  have hb := B.bytes
  have hr := B.returns
  have hts : ∀ w ∈ TB, w.before _ s = true := fun w h => atoms_spec (ws := _ :: TB) B.pre w (List.mem_cons_of_mem _ h)
  have hown : s.vm.findClass RX11 = some m.cls := findClass_of_methodNamed B.named
  have hlocks := B.notSynchronized
  have hh : Hp D (Af cs ad sz) (Af cs ad sz) s.heap s.heap [] cs ad en := ⟨hP, Af_self hD0, va_S.rf⟩
  have hA : ∀ q : Nat, s.heap.size ≤ q → Af cs ad sz q := fun q h => Or.inr (by rw [hsz] at h; exact h)
  have hl := lv_entry ([.ref (ad 0), .int k, .int i, .int v]) (n := 4) (Nat.le_of_ble_eq_true rfl)
  rw [lg_entry_eq]
  generalize (lg_sl ([.ref (ad 0), .int k, .int i, .int v]) ++ List.replicate (4 - (lg_sl ([.ref (ad 0), .int k, .int i, .int v])).length) Slot.unset).toArray = ls at hl ⊢
  have hl : lv_has ls 4 [(0, .ref (ad 0)), (1, .int k), (2, .int i), (3, .int v)] := hl
  have hf0 : ∀ c, (c < 107 ∨ 115 ≤ c) → en c = en c := fun _ _ => rfl
  obtain ⟨wc_454, lf_454, es454, p0_454⟩ := get_A hI
  refine lv_iload_n hx hb dX11_putCell_0 rfl (lv_at hl 1 rfl) ?_
  refine hp_callRi (va_runS (As := [.int k]) (rest := []) ⟨hx, hb, hml, hown, hts⟩ (c_X11_isSheet l D cy _ cs ad en k) (kw_X11_isSheet hts tw_305 ⟨by decide, by decide⟩) (preS_of hh hK) rfl rfl hl.1 rfl (lv_room (Nat.le_of_ble_eq_true rfl)) dX11_putCell_1 ⟨Nat.le_of_ble_eq_true rfl, Nat.le_of_ble_eq_true rfl⟩) hh hA (fun r_455 H locs hw_455 hh => ?_)
  rcases Decidable.em (wi k 0 3) with hp_455 | hp_455
  · obtain rfl : r_455 = 1 := Eq.trans hw_455 (if_pos hp_455)
    obtain ⟨N_455, rfl, hA_455, hB_455⟩ := wi_natB hp_455 0 3 (by decide) (by decide)
    refine lv_if_ne (tgt := 9) hx hb dX11_putCell_4 (by decide) (fun _ => ?_) (fun c_0 => absurd c_0 (by decide))
    refine lv_aload_n hx hb dX11_putCell_9 rfl (lv_at hl 0 rfl) ?_
    refine hp_get hx hb hts ix11 hown hK hh (q := 0) rfl (hI.1 _ (by decide)) es454 rfl 4 (by decide) (hts _ tw_249) (fun _ h9 => h9) rfl dX11_putCell_10 ?_
    refine lv_iload_n hx hb dX11_putCell_13 rfl (lv_at hl 1 rfl) ?_
    have es456 := get_shs hI
    unfold P_shs at es456
    refine hp_aald hx hb hK hh (q := 75) rfl (hI.1 _ (by decide)) 6 es456 rfl rfl (vp_in_nI (n := N_455) (by omega) (by decide)) (v := .ref (ad (107 + 2 * N_455))) (by rw [nI_clamp (n := N_455) (by omega)]; exact rfB_v (by omega)) dX11_putCell_14 ?_
    obtain ⟨sc_457, sl_457, sr_457, es457, p0_457, p1_457⟩ := get_sh hI (j := N_455) (by omega)
    refine hp_get hx hb hts ix3 hown hK hh (q := (107 + 2 * N_455)) rfl (hI.1 _ (by omega)) es457 rfl 3 (by decide) (hts _ tw_235) (fun _ h9 => h9) rfl dX11_putCell_15 ?_
    refine lv_if_ne (tgt := 26) hx hb dX11_putCell_18 (by decide) (fun c_458 => ?_) (fun c_458 => ?_)
    · have n_458 : sr_457 ≠ 0 := n_neq (a := sr_457) (b := 0) c_458 (by omega) (by decide)
      refine lv_aload_n hx hb dX11_putCell_26 rfl (lv_at hl 0 rfl) ?_
      refine hp_get hx hb hts ix11 hown hK hh (q := 0) rfl (hI.1 _ (by decide)) es454 rfl 4 (by decide) (hts _ tw_249) (fun _ h9 => h9) rfl dX11_putCell_27 ?_
      refine lv_iload_n hx hb dX11_putCell_30 rfl (lv_at hl 1 rfl) ?_
      refine hp_aald hx hb hK hh (q := 75) rfl (hI.1 _ (by decide)) 6 es456 rfl rfl (vp_in_nI (n := N_455) (by omega) (by decide)) (v := .ref (ad (107 + 2 * N_455))) (by rw [nI_clamp (n := N_455) (by omega)]; exact rfB_v (by omega)) dX11_putCell_31 ?_
      refine lv_iload_n hx hb dX11_putCell_32 rfl (lv_at hl 2 rfl) ?_
      refine lv_iconst (v := 1) hx hb dX11_putCell_33 (by decide) ?_
      refine hp_callRi (va_runV (As := [.int i, .int 1]) (rest := []) ⟨hx, hb, hml, hown, hts⟩ (c_X3_hasCells l D cy _ cs ad en hI N_455 (by omega) i 1 (by omega)) (kw_X3_hasCells hts tw_314 ⟨by decide, by decide⟩) (preV_of hh hK (hI.1 _ (by omega)) es457 rfl) rfl rfl hl.1 rfl (lv_room (Nat.le_of_ble_eq_true rfl)) dX11_putCell_34 ⟨Nat.le_of_ble_eq_true rfl, Nat.le_of_ble_eq_true rfl⟩) hh hA (fun r_459 H locs hw_459 hh => ?_)
      rcases Decidable.em (hcP (rdI (en (107 + 2 * N_455)) 1) i 1) with hp_459 | hp_459
      · obtain rfl : r_459 = 1 := Eq.trans hw_459 (if_pos hp_459)
        refine lv_if_ne (tgt := 45) hx hb dX11_putCell_37 (by decide) (fun _ => ?_) (fun c_0 => absurd c_0 (by decide))
        obtain ⟨I9, rfl, hI9⟩ := hcP_nat (sc := sc_457) (by omega) (by rw [show rdI (en (107 + 2 * N_455)) 1 = nI sc_457 from by rw [es457]; rfl] at hp_459; exact hp_459) (by decide)
        refine lv_aload_n hx hb dX11_putCell_45 rfl (lv_at hl 0 rfl) ?_
        refine hp_get hx hb hts ix11 hown hK hh (q := 0) rfl (hI.1 _ (by decide)) es454 rfl 4 (by decide) (hts _ tw_249) (fun _ h9 => h9) rfl dX11_putCell_46 ?_
        refine lv_iload_n hx hb dX11_putCell_49 rfl (lv_at hl 1 rfl) ?_
        refine hp_aald hx hb hK hh (q := 75) rfl (hI.1 _ (by decide)) 6 es456 rfl rfl (vp_in_nI (n := N_455) (by omega) (by decide)) (v := .ref (ad (107 + 2 * N_455))) (by rw [nI_clamp (n := N_455) (by omega)]; exact rfB_v (by omega)) dX11_putCell_50 ?_
        refine lv_iload_n hx hb dX11_putCell_51 rfl (lv_at hl 2 rfl) ?_
        refine lv_iload_n hx hb dX11_putCell_52 rfl (lv_at hl 3 rfl) ?_
        refine hp_callMv (va_runV (As := [.int (nI I9), .int v]) (rest := []) ⟨hx, hb, hml, hown, hts⟩ (c_X3_write l D cy _ cs ad en hI N_455 (by omega) I9 v (by omega)) (kw_X3_write hts tw_775 ⟨by decide, by decide⟩) (preV_of hh hK (hI.1 _ (by omega)) es457 rfl) rfl rfl hl.1 rfl (lv_room (Nat.le_of_ble_eq_true rfl)) dX11_putCell_53 ⟨Nat.le_of_ble_eq_true rfl, Nat.le_of_ble_eq_true rfl⟩) hh hA (fun H locs en_460 hw_460 hh => ?_)
        obtain ⟨hI_460, hu_460, hx_460⟩ := hw_460
        have hf_460 : ∀ c, (c < 107 ∨ 115 ≤ c) → en_460 c = en c := fun c hc => (hu_460 c (by omega)).trans (hf0 c hc)
        refine lv_iconst (v := 1) hx hb dX11_putCell_56 (by decide) ?_
        have hhc : hcP (nI sc_457) (nI I9) 1 := by rw [show rdI (en (107 + 2 * N_455)) 1 = nI sc_457 from by rw [es457]; rfl] at hp_459; exact hp_459
        exact hp_iretM hx hb hr rfl hlocks hh (⟨hI_460, hf_460, ⟨(by (try rw [nI_clamp (n := N_455) (by omega)]); rw [show rdI (en (107 + 2 * N_455)) 1 = nI sc_457 from by rw [es457]; rfl, show rdI (en (107 + 2 * N_455)) 3 = nI sr_457 from by rw [es457]; rfl]; unfold putF; rw [if_pos hp_455, if_neg (nI_ne0 (by omega) (by omega)), if_pos hhc]), Or.inr ⟨rfl, N_455, I9, rfl, rfl, by omega, by omega, fun c h0 h1 => hu_460 c h1, (by rw [hx_460]; rfl)⟩⟩⟩) dX11_putCell_57
      · obtain rfl : r_459 = 0 := Eq.trans hw_459 (if_neg hp_459)
        refine lv_if_ne (tgt := 45) hx hb dX11_putCell_37 (by decide) (fun c_0 => absurd c_0 (by decide)) (fun _ => ?_)
        refine lv_iconst (v := 3) hx hb dX11_putCell_40 (by decide) ?_
        refine hp_callRi (va_runS (As := [.int 3]) (rest := []) ⟨hx, hb, hml, hown, hts⟩ (c_X11_faultAnswer l D cy _ cs ad en 3) (kw_X11_faultAnswer hts tw_311 ⟨by decide, by decide⟩) (preS_of hh hK) rfl rfl hl.1 rfl (lv_room (Nat.le_of_ble_eq_true rfl)) dX11_putCell_41 ⟨Nat.le_of_ble_eq_true rfl, Nat.le_of_ble_eq_true rfl⟩) hh hA (fun r_461 H locs hw_461 hh => ?_)
        obtain rfl : r_461 = (-13) := Eq.trans hw_461 (by decide)
        have hhc : ¬ hcP (nI sc_457) i 1 := by rw [show rdI (en (107 + 2 * N_455)) 1 = nI sc_457 from by rw [es457]; rfl] at hp_459; exact hp_459
        exact hp_iretM hx hb hr rfl hlocks hh (⟨hI, hf0, ⟨(by (try rw [nI_clamp (n := N_455) (by omega)]); rw [show rdI (en (107 + 2 * N_455)) 1 = nI sc_457 from by rw [es457]; rfl, show rdI (en (107 + 2 * N_455)) 3 = nI sr_457 from by rw [es457]; rfl]; unfold putF; rw [if_pos hp_455, if_neg (nI_ne0 (by omega) (by omega)), if_neg hhc]), Or.inl ⟨by decide, fun _ _ => rfl⟩⟩⟩) dX11_putCell_44
    · have n_458 : sr_457 = 0 := n_eq (a := sr_457) (b := 0) c_458 (by omega) (by decide)
      refine lv_iconst (v := 1) hx hb dX11_putCell_21 (by decide) ?_
      refine hp_callRi (va_runS (As := [.int 1]) (rest := []) ⟨hx, hb, hml, hown, hts⟩ (c_X11_faultAnswer l D cy _ cs ad en 1) (kw_X11_faultAnswer hts tw_311 ⟨by decide, by decide⟩) (preS_of hh hK) rfl rfl hl.1 rfl (lv_room (Nat.le_of_ble_eq_true rfl)) dX11_putCell_22 ⟨Nat.le_of_ble_eq_true rfl, Nat.le_of_ble_eq_true rfl⟩) hh hA (fun r_462 H locs hw_462 hh => ?_)
      obtain rfl : r_462 = (-11) := Eq.trans hw_462 (by decide)
      exact hp_iretM hx hb hr rfl hlocks hh (⟨hI, hf0, ⟨(by (try rw [nI_clamp (n := N_455) (by omega)]); rw [show rdI (en (107 + 2 * N_455)) 1 = nI sc_457 from by rw [es457]; rfl, show rdI (en (107 + 2 * N_455)) 3 = nI sr_457 from by rw [es457]; rfl]; unfold putF; rw [if_pos hp_455, if_pos (by rw [show sr_457 = 0 by omega]; rfl)]), Or.inl ⟨by decide, fun _ _ => rfl⟩⟩⟩) dX11_putCell_25
  · obtain rfl : r_455 = 0 := Eq.trans hw_455 (if_neg hp_455)
    refine lv_if_ne (tgt := 9) hx hb dX11_putCell_4 (by decide) (fun c_0 => absurd c_0 (by decide)) (fun _ => ?_)
    refine lv_iconst (v := (-1)) hx hb dX11_putCell_7 (by decide) ?_
    exact hp_iretM hx hb hr rfl hlocks hh (⟨hI, hf0, ⟨(by unfold putF; rw [if_neg hp_455]), Or.inl ⟨by decide, fun _ _ => rfl⟩⟩⟩) dX11_putCell_8
theorem kw_X11_putCell {R : Room} {s : State} {args : Array Value} {own : String} {idx : Nat} (hts : ∀ w ∈ TB, w.before args s = true) (hl : Cond.methodLink own idx yX11_putCell ∈ TB) (hR : 2 + 1 ≤ R.frames ∧ 8 + (4 + 11) + 40 * 2 ≤ R.locals) : CallW R s args own RX11 idx yX11_putCell cX11_putCell 4 (some .int) (Cond.code yX11_putCell cX11_putCell 4 (some .int) :: TB) (rmN 2) 0 0 3 := cwV 3 hts (TB_V hl tw_773 ts_29 tw_1 tw_774) rfl rfl rfl (by decide +kernel) hR
set_option maxHeartbeats 4000000 in
set_option maxRecDepth 100000 in
/-- put -/
theorem c_X11_put (l : Launch) (D : va_G) (cy : Nat → ClassId) (sz : Nat) (cs : List Nat) (ad : Nat → Nat) (en : Nat → va_E) (hI : SX cy cs ad en) (k i v : Int32)   : Met l yX11_put (Cond.code yX11_put cX11_put 4 (some .int) :: TB) (rmN 3) (va_Pc [.ref (ad 0), .int k, .int i, .int v] (Pre D cy cs ad en sz)) (va_Qi (S := Nat → va_E) (fun r en1 => SX cy cs ad en1 ∧ (∀ c, (0 < c ∧ (c < 107 ∨ 115 ≤ c)) → en1 c = en c) ∧ XPU k i v r en en1 ∧ rdI (en1 0) 6 = rdI (en 0) 6) (PostM D cs ad) (Af cs ad sz)) 0 0 (Af cs ad sz) := by
  refine Met.ofW (cc := cX11_put) (maxL := 4) (ret := (some .int)) (by decide) rfl ?_
  intro p e s m args below meth c s₁ B hml hv
  obtain ⟨rfl, hsz, hP, hK, hD0⟩ := hv
  have hx := B.exec
  have hb := B.bytes
  have hr := B.returns
  have hts : ∀ w ∈ TB, w.before _ s = true := fun w h => atoms_spec (ws := _ :: TB) B.pre w (List.mem_cons_of_mem _ h)
  have hown : s.vm.findClass RX11 = some m.cls := findClass_of_methodNamed B.named
  have hlocks := B.notSynchronized
  have hh : Hp D (Af cs ad sz) (Af cs ad sz) s.heap s.heap [] cs ad en := ⟨hP, Af_self hD0, va_S.rf⟩
  have hA : ∀ q : Nat, s.heap.size ≤ q → Af cs ad sz q := fun q h => Or.inr (by rw [hsz] at h; exact h)
  have hl := lv_entry ([.ref (ad 0), .int k, .int i, .int v]) (n := 4) (Nat.le_of_ble_eq_true rfl)
  rw [lg_entry_eq]
  generalize (lg_sl ([.ref (ad 0), .int k, .int i, .int v]) ++ List.replicate (4 - (lg_sl ([.ref (ad 0), .int k, .int i, .int v])).length) Slot.unset).toArray = ls at hl ⊢
  have hl : lv_has ls 4 [(0, .ref (ad 0)), (1, .int k), (2, .int i), (3, .int v)] := hl
  have hf0 : ∀ c, (0 < c ∧ (c < 107 ∨ 115 ≤ c)) → en c = en c := fun _ _ => rfl
  obtain ⟨wc_463, lf_463, es463, p0_463⟩ := get_A hI
  refine lv_aload_n hx hb dX11_put_0 rfl (lv_at hl 0 rfl) ?_
  refine lv_aload_n hx hb dX11_put_1 rfl (lv_at hl 0 rfl) ?_
  refine lv_iload_n hx hb dX11_put_2 rfl (lv_at hl 1 rfl) ?_
  refine lv_iload_n hx hb dX11_put_3 rfl (lv_at hl 2 rfl) ?_
  refine lv_iload_n hx hb dX11_put_4 rfl (lv_at hl 3 rfl) ?_
  refine hp_callMi (va_runV (As := [.int k, .int i, .int v]) (rest := [.ref (ad 0)]) ⟨hx, hb, hml, hown, hts⟩ (c_X11_putCell l D cy _ cs ad en hI k i v ) (kw_X11_putCell hts tw_771 ⟨by decide, by decide⟩) (preV_of hh hK (hI.1 _ (by decide)) es463 rfl) rfl rfl hl.1 rfl (lv_room (Nat.le_of_ble_eq_true rfl)) dX11_put_5 ⟨Nat.le_of_ble_eq_true rfl, Nat.le_of_ble_eq_true rfl⟩) hh hA (fun r_464 H locs en_464 hw_464 hh => ?_)
  obtain ⟨hI_464, hu_464, hx_464⟩ := hw_464
  have hf_464 : ∀ c, (0 < c ∧ (c < 107 ∨ 115 ≤ c)) → en_464 c = en c := fun c hc => (hu_464 c (by omega)).trans (hf0 c hc)
  obtain ⟨wc_465, lf_465, es465, p0_465⟩ := get_A hI_464
  refine hp_callMi (va_runV (As := [.int r_464]) (rest := []) ⟨hx, hb, hml, hown, hts⟩ (c_X11_settle l D cy _ cs ad en_464 hI_464 r_464) (kw_X11_settle hts tw_404 ⟨by decide, by decide⟩) (preV_of hh hK (hI.1 _ (by decide)) es465 rfl) rfl rfl hl.1 rfl (lv_room (Nat.le_of_ble_eq_true rfl)) dX11_put_8 ⟨Nat.le_of_ble_eq_true rfl, Nat.le_of_ble_eq_true rfl⟩) hh hA (fun r_466 H locs en_466 hw_466 hh => ?_)
  obtain ⟨hI_466, hu_466, hr_466, hwc_466⟩ := hw_466
  have hf_466 : ∀ c, (0 < c ∧ (c < 107 ∨ 115 ≤ c)) → en_466 c = en c := fun c hc => (hu_466 c (by omega)).trans (hf_464 c hc)
  rw [hr_466]
  exact hp_iretM hx hb hr rfl hlocks hh (⟨hI_466, hf_466, XPU_s hx_464 hu_466, (hwc_466.trans (congrArg (fun x => rdI x 6) (hu_464 0 (by omega))))⟩) dX11_put_11
theorem kw_X11_put {R : Room} {s : State} {args : Array Value} {own : String} {idx : Nat} (hts : ∀ w ∈ TB, w.before args s = true) (hl : Cond.methodLink own idx yX11_put ∈ TB) (hR : 3 + 1 ≤ R.frames ∧ 8 + (4 + 11) + 40 * 3 ≤ R.locals) : CallW R s args own RX11 idx yX11_put cX11_put 4 (some .int) (Cond.code yX11_put cX11_put 4 (some .int) :: TB) (rmN 3) 0 0 3 := cwV 3 hts (TB_V hl tw_768 tw_769 tw_1 tw_770) rfl rfl rfl (by decide +kernel) hR
set_option maxHeartbeats 4000000 in
set_option maxRecDepth 100000 in
/-- lose -/
theorem c_X11_lose (l : Launch) (D : va_G) (cy : Nat → ClassId) (sz : Nat) (cs : List Nat) (ad : Nat → Nat) (en : Nat → va_E) (hI : SX cy cs ad en) (k : Int32)   : Met l yX11_lose (Cond.code yX11_lose cX11_lose 2 (some .int) :: TB) (rmN 2) (va_Pc [.ref (ad 0), .int k] (Pre D cy cs ad en sz)) (va_Qi (S := Nat → va_E) (fun r en1 => SX cy cs ad en1 ∧ (∀ c, (c < 107 ∨ 115 ≤ c) → en1 c = en c) ∧ XLO k r en en1) (PostM D cs ad) (Af cs ad sz)) 0 0 (Af cs ad sz) := by
  refine Met.ofW (cc := cX11_lose) (maxL := 2) (ret := (some .int)) (by decide) rfl ?_
  intro p e s m args below meth c s₁ B hml hv
  obtain ⟨rfl, hsz, hP, hK, hD0⟩ := hv
  have hx := B.exec
  have hb := B.bytes
  have hr := B.returns
  have hts : ∀ w ∈ TB, w.before _ s = true := fun w h => atoms_spec (ws := _ :: TB) B.pre w (List.mem_cons_of_mem _ h)
  have hown : s.vm.findClass RX11 = some m.cls := findClass_of_methodNamed B.named
  have hlocks := B.notSynchronized
  have hh : Hp D (Af cs ad sz) (Af cs ad sz) s.heap s.heap [] cs ad en := ⟨hP, Af_self hD0, va_S.rf⟩
  have hA : ∀ q : Nat, s.heap.size ≤ q → Af cs ad sz q := fun q h => Or.inr (by rw [hsz] at h; exact h)
  have hl := lv_entry ([.ref (ad 0), .int k]) (n := 2) (Nat.le_of_ble_eq_true rfl)
  rw [lg_entry_eq]
  generalize (lg_sl ([.ref (ad 0), .int k]) ++ List.replicate (2 - (lg_sl ([.ref (ad 0), .int k])).length) Slot.unset).toArray = ls at hl ⊢
  have hl : lv_has ls 2 [(0, .ref (ad 0)), (1, .int k)] := hl
  have hf0 : ∀ c, (c < 107 ∨ 115 ≤ c) → en c = en c := fun _ _ => rfl
  obtain ⟨wc_467, lf_467, es467, p0_467⟩ := get_A hI
  refine lv_iload_n hx hb dX11_lose_0 rfl (lv_at hl 1 rfl) ?_
  refine hp_callRi (va_runS (As := [.int k]) (rest := []) ⟨hx, hb, hml, hown, hts⟩ (c_X11_isSheet l D cy _ cs ad en k) (kw_X11_isSheet hts tw_305 ⟨by decide, by decide⟩) (preS_of hh hK) rfl rfl hl.1 rfl (lv_room (Nat.le_of_ble_eq_true rfl)) dX11_lose_1 ⟨Nat.le_of_ble_eq_true rfl, Nat.le_of_ble_eq_true rfl⟩) hh hA (fun r_468 H locs hw_468 hh => ?_)
  rcases Decidable.em (wi k 0 3) with hp_468 | hp_468
  · obtain rfl : r_468 = 1 := Eq.trans hw_468 (if_pos hp_468)
    obtain ⟨N_468, rfl, hA_468, hB_468⟩ := wi_natB hp_468 0 3 (by decide) (by decide)
    refine lv_if_ne (tgt := 9) hx hb dX11_lose_4 (by decide) (fun _ => ?_) (fun c_0 => absurd c_0 (by decide))
    refine lv_aload_n hx hb dX11_lose_9 rfl (lv_at hl 0 rfl) ?_
    refine hp_get hx hb hts ix11 hown hK hh (q := 0) rfl (hI.1 _ (by decide)) es467 rfl 4 (by decide) (hts _ tw_249) (fun _ h9 => h9) rfl dX11_lose_10 ?_
    refine lv_iload_n hx hb dX11_lose_13 rfl (lv_at hl 1 rfl) ?_
    have es469 := get_shs hI
    unfold P_shs at es469
    refine hp_aald hx hb hK hh (q := 75) rfl (hI.1 _ (by decide)) 6 es469 rfl rfl (vp_in_nI (n := N_468) (by omega) (by decide)) (v := .ref (ad (107 + 2 * N_468))) (by rw [nI_clamp (n := N_468) (by omega)]; exact rfB_v (by omega)) dX11_lose_14 ?_
    obtain ⟨sc_470, sl_470, sr_470, es470, p0_470, p1_470⟩ := get_sh hI (j := N_468) (by omega)
    refine hp_callMi (va_runV (As := []) (rest := []) ⟨hx, hb, hml, hown, hts⟩ (c_X3_drop l D cy _ cs ad en hI N_468 (by omega)  ) (kw_X3_drop hts tw_763 ⟨by decide, by decide⟩) (preV_of hh hK (hI.1 _ (by omega)) es470 rfl) rfl rfl hl.1 rfl (lv_room (Nat.le_of_ble_eq_true rfl)) dX11_lose_15 ⟨Nat.le_of_ble_eq_true rfl, Nat.le_of_ble_eq_true rfl⟩) hh hA (fun r_471 H locs en_471 hw_471 hh => ?_)
    obtain ⟨hI_471, hu_471, hx_471⟩ := hw_471
    have hf_471 : ∀ c, (c < 107 ∨ 115 ≤ c) → en_471 c = en c := fun c hc => (hu_471 c (by omega)).trans (hf0 c hc)
    refine lv_if_eq (tgt := 25) hx hb dX11_lose_18 (by decide) (fun c_472 => ?_) (fun c_472 => ?_)
    · refine lv_iconst (v := 0) hx hb dX11_lose_25 (by decide) ?_
      exact hp_iretM hx hb hr rfl hlocks hh (⟨hI_471, hf_471, Or.inr ⟨N_468, rfl, by omega, Or.inl ⟨hx_471.1.symm.trans c_472, rfl⟩, hu_471, hx_471.2⟩⟩) dX11_lose_26
    · refine lv_iconst (v := 1) hx hb dX11_lose_21 (by decide) ?_
      refine lv_goto (tgt := 26) hx hb dX11_lose_22 (by decide) ?_
      exact hp_iretM hx hb hr rfl hlocks hh (⟨hI_471, hf_471, Or.inr ⟨N_468, rfl, by omega, Or.inr ⟨bit_ne0 (sh_bit hI (by omega)) (fun q => c_472 (hx_471.1.trans q)), rfl⟩, hu_471, hx_471.2⟩⟩) dX11_lose_26
  · obtain rfl : r_468 = 0 := Eq.trans hw_468 (if_neg hp_468)
    refine lv_if_ne (tgt := 9) hx hb dX11_lose_4 (by decide) (fun c_0 => absurd c_0 (by decide)) (fun _ => ?_)
    refine lv_iconst (v := (-1)) hx hb dX11_lose_7 (by decide) ?_
    exact hp_iretM hx hb hr rfl hlocks hh (⟨hI, hf0, Or.inl ⟨hp_468, rfl, rfl⟩⟩) dX11_lose_8
theorem kw_X11_lose {R : Room} {s : State} {args : Array Value} {own : String} {idx : Nat} (hts : ∀ w ∈ TB, w.before args s = true) (hl : Cond.methodLink own idx yX11_lose ∈ TB) (hR : 2 + 1 ≤ R.frames ∧ 8 + (2 + 11) + 40 * 2 ≤ R.locals) : CallW R s args own RX11 idx yX11_lose cX11_lose 2 (some .int) (Cond.code yX11_lose cX11_lose 2 (some .int) :: TB) (rmN 2) 0 0 1 := cwV 1 hts (TB_V hl tw_760 tw_761 tw_1 tw_762) rfl rfl rfl (by decide +kernel) hR
set_option maxHeartbeats 4000000 in
set_option maxRecDepth 100000 in
/-- at -/
theorem c_X11_at (l : Launch) (D : va_G) (cy : Nat → ClassId) (sz : Nat) (cs : List Nat) (ad : Nat → Nat) (en : Nat → va_E) (hI : SX cy cs ad en) (k i la : Int32)   : Met l yX11_at (Cond.code yX11_at cX11_at 5 (some .long) :: TB) (rmN 3) (va_Pc [.ref (ad 0), .int k, .int i, .int la] (Pre D cy cs ad en sz)) (va_Ql (S := Nat → va_E) (fun r en1 => SX cy cs ad en1 ∧ (∀ c, (c ≠ 0) → en1 c = en c) ∧ XAT k i la r en ∧ rdI (en1 0) 6 = rdI (en 0) 6) (PostM D cs ad) (Af cs ad sz)) 0 0 (Af cs ad sz) := by
  refine Met.ofW (cc := cX11_at) (maxL := 5) (ret := (some .long)) (by decide) rfl ?_
  intro p e s m args below meth c s₁ B hml hv
  obtain ⟨rfl, hsz, hP, hK, hD0⟩ := hv
  have hx := B.exec
  have hb := B.bytes
  have hr := B.returns
  have hts : ∀ w ∈ TB, w.before _ s = true := fun w h => atoms_spec (ws := _ :: TB) B.pre w (List.mem_cons_of_mem _ h)
  have hown : s.vm.findClass RX11 = some m.cls := findClass_of_methodNamed B.named
  have hlocks := B.notSynchronized
  have hh : Hp D (Af cs ad sz) (Af cs ad sz) s.heap s.heap [] cs ad en := ⟨hP, Af_self hD0, va_S.rf⟩
  have hA : ∀ q : Nat, s.heap.size ≤ q → Af cs ad sz q := fun q h => Or.inr (by rw [hsz] at h; exact h)
  have hl := lv_entry ([.ref (ad 0), .int k, .int i, .int la]) (n := 5) (Nat.le_of_ble_eq_true rfl)
  rw [lg_entry_eq]
  generalize (lg_sl ([.ref (ad 0), .int k, .int i, .int la]) ++ List.replicate (5 - (lg_sl ([.ref (ad 0), .int k, .int i, .int la])).length) Slot.unset).toArray = ls at hl ⊢
  have hl : lv_has ls 5 [(0, .ref (ad 0)), (1, .int k), (2, .int i), (3, .int la)] := hl
  have hf0 : ∀ c, (c ≠ 0) → en c = en c := fun _ _ => rfl
  obtain ⟨wc_473, lf_473, es473, p0_473⟩ := get_A hI
  refine lv_aload_n hx hb dX11_at_0 rfl (lv_at hl 0 rfl) ?_
  refine lv_aload_n hx hb dX11_at_1 rfl (lv_at hl 0 rfl) ?_
  refine lv_iload_n hx hb dX11_at_2 rfl (lv_at hl 1 rfl) ?_
  refine lv_iload_n hx hb dX11_at_3 rfl (lv_at hl 3 rfl) ?_
  refine lv_iload_n hx hb dX11_at_4 rfl (lv_at hl 2 rfl) ?_
  refine lv_iconst (v := 1) hx hb dX11_at_5 (by decide) ?_
  refine hp_callRi (va_runV (As := [.int k, .int la, .int i, .int 1]) (rest := [.ref (ad 0)]) ⟨hx, hb, hml, hown, hts⟩ (c_X11_lookAtCells l D cy _ cs ad en hI k la i 1) (kw_X11_lookAtCells hts tw_301 ⟨by decide, by decide⟩) (preV_of hh hK (hI.1 _ (by decide)) es473 rfl) rfl rfl hl.1 rfl (lv_room (Nat.le_of_ble_eq_true rfl)) dX11_at_6 ⟨Nat.le_of_ble_eq_true rfl, Nat.le_of_ble_eq_true rfl⟩) hh hA (fun r_474 H locs hw_474 hh => ?_)
  refine hp_callMi (va_runV (As := [.int r_474]) (rest := []) ⟨hx, hb, hml, hown, hts⟩ (c_X11_settle l D cy _ cs ad en hI r_474) (kw_X11_settle hts tw_404 ⟨by decide, by decide⟩) (preV_of hh hK (hI.1 _ (by decide)) es473 rfl) rfl rfl hl.1 rfl (lv_room (Nat.le_of_ble_eq_true rfl)) dX11_at_9 ⟨Nat.le_of_ble_eq_true rfl, Nat.le_of_ble_eq_true rfl⟩) hh hA (fun r_475 H locs en_475 hw_475 hh => ?_)
  obtain ⟨hI_475, hu_475, hr_475, hwc_475⟩ := hw_475
  have hf_475 : ∀ c, (c ≠ 0) → en_475 c = en c := fun c hc => (hu_475 c (by omega)).trans (hf0 c hc)
  rw [hr_475]
  refine lv_istore (lv' := [(4, .int r_474), (0, .ref (ad 0)), (1, .int k), (2, .int i), (3, .int la)]) hx hb dX11_at_12 hl (by decide) rfl (fun ls hl => ?_)
  refine lv_iload hx hb dX11_at_14 (lv_at hl 0 rfl) ?_
  refine lv_iconst (v := 1) hx hb dX11_at_16 (by decide) ?_
  refine lv_icmp_ne (tgt := 35) hx hb dX11_at_17 (by decide) (fun c_476 => ?_) (fun c_476 => ?_)
  · refine lv_ldc2 hx hb hown (hts _ tw_420) dX11_at_35 ?_
    exact hp_lretM hx hb hr hlocks hh (⟨hI_475, hf_475, (by unfold XAT; rw [if_neg (fun q => c_476 (hw_474.trans q))]), hwc_475⟩) dX11_at_38
  · obtain ⟨hw1, -, -, -, hw5⟩ := lookF_1 (hw_474.symm.trans c_476)
    obtain ⟨K9, rfl, -, hK9⟩ := wi_natB hw1 0 3 (by decide) (by decide)
    obtain ⟨sc_477, sl_477, sr_477, es477, p0_477, p1_477⟩ := get_sh hI_475 (j := K9) (by omega)
    rw [nI_clamp (n := K9) (by omega), ← hf_475 _ (by omega), show rdI (en_475 (107 + 2 * K9)) 1 = nI sc_477 from by rw [es477]; rfl] at hw5
    obtain ⟨I9, rfl, hI9⟩ := hcP_nat (n := 1) (by omega) hw5 (by decide)
    refine lv_aload_n hx hb dX11_at_20 rfl (lv_at hl 1 rfl) ?_
    obtain ⟨wc_478, lf_478, es478, p0_478⟩ := get_A hI_475
    refine hp_get hx hb hts ix11 hown hK hh (q := 0) rfl (hI.1 _ (by decide)) es478 rfl 4 (by decide) (hts _ tw_249) (fun _ h9 => h9) rfl dX11_at_21 ?_
    refine lv_iload_n hx hb dX11_at_24 rfl (lv_at hl 2 rfl) ?_
    have es479 := get_shs hI_475
    unfold P_shs at es479
    refine hp_aald hx hb hK hh (q := 75) rfl (hI.1 _ (by decide)) 6 es479 rfl rfl (vp_in_nI (n := K9) (by omega) (by decide)) (v := .ref (ad (107 + 2 * K9))) (by rw [nI_clamp (n := K9) (by omega)]; exact rfB_v (by omega)) dX11_at_25 ?_
    refine hp_get hx hb hts ix3 hown hK hh (q := (107 + 2 * K9)) rfl (hI.1 _ (by omega)) es477 rfl 0 (by decide) (hts _ tw_230) (fun _ h9 => h9) rfl dX11_at_26 ?_
    refine lv_iload_n hx hb dX11_at_29 rfl (lv_at hl 3 rfl) ?_
    obtain ⟨f_480, es480⟩ := get_shc hI_475 (j := K9) (by omega)
    refine hp_iald hx hb hK hh (q := (108 + 2 * K9)) rfl (hI.1 _ (by omega)) es480 (vp_in_nI (n := I9) (by omega) (by decide)) dX11_at_30 ?_
    rw [nI_clamp (n := I9) (by omega)]
    refine lv_i2l hx hb dX11_at_31 rfl ?_
    refine lv_goto (tgt := 38) hx hb dX11_at_32 (by decide) ?_
    exact hp_lretM hx hb hr hlocks hh (⟨hI_475, hf_475, (by unfold XAT; rw [if_pos (hw_474.symm.trans c_476), nI_clamp (n := K9) (by omega), nI_clamp (n := I9) (by omega), ← hf_475 (108 + 2 * K9) (by omega), es480]; rfl), hwc_475⟩) dX11_at_38
theorem kw_X11_at {R : Room} {s : State} {args : Array Value} {own : String} {idx : Nat} (hts : ∀ w ∈ TB, w.before args s = true) (hl : Cond.methodLink own idx yX11_at ∈ TB) (hR : 3 + 1 ≤ R.frames ∧ 8 + (5 + 11) + 40 * 3 ≤ R.locals) : CallW R s args own RX11 idx yX11_at cX11_at 5 (some .long) (Cond.code yX11_at cX11_at 5 (some .long) :: TB) (rmN 3) 0 0 3 := cwV 3 hts (TB_V hl tw_780 tw_781 tw_1 tw_782) rfl rfl rfl (by decide +kernel) hR
