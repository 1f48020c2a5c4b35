set_option maxHeartbeats 4000000 in
set_option maxRecDepth 100000 in
/-- hasCells -/
theorem c_X3_hasCells (l : Launch) (D : va_G) (cy : Nat → ClassId) (sz : Nat) (cs : List Nat) (ad : Nat → Nat) (en : Nat → va_E) (hI : SX cy cs ad en) (J : Nat) (hJ : J < 4) (i : Int32) (N : Nat) (hN : N < 2 ^ 31)   : Met l yX3_hasCells (Cond.code yX3_hasCells cX3_hasCells 3 (some .boolean) :: TB) (rmN 0) (va_Pc [.ref (ad (107 + 2 * J)), .int i, .int (nI N)] (Pre D cy cs ad en sz)) (va_Qi (S := Unit) (fun r _ => r = if hcP (rdI (en (107 + 2 * J)) 1) i N then 1 else 0) (fun _ _ => True) (Nf sz)) 0 0 (Nf sz) := by
  refine Met.ofW (cc := cX3_hasCells) (maxL := 3) (ret := (some .boolean)) (by decide) rfl ?_
  intro p e s m args below meth c s₁ B hml hv
  obtain ⟨rfl, hsz, hP, hK, hD0⟩ := hv
  have hx := B.exec
  have hb := B.bytes
  have hr := B.returns
  have hts : ∀ w ∈ TB, w.before _ s = true := fun w h => atoms_spec (ws := _ :: TB) B.pre w (List.mem_cons_of_mem _ h)
  have hown : s.vm.findClass RX3 = some m.cls := findClass_of_methodNamed B.named
  have hlocks := B.notSynchronized
  have hh : Hp D (Nf sz) (fun _ => True) s.heap s.heap [] cs ad en := ⟨hP, hD0, va_S.rf⟩
  have hA : ∀ q : Nat, s.heap.size ≤ q → Nf sz q := fun q h => by rw [hsz] at h; exact h
  have hl := lv_entry ([.ref (ad (107 + 2 * J)), .int i, .int (nI N)]) (n := 3) (Nat.le_of_ble_eq_true rfl)
  rw [lg_entry_eq]
  generalize (lg_sl ([.ref (ad (107 + 2 * J)), .int i, .int (nI N)]) ++ List.replicate (3 - (lg_sl ([.ref (ad (107 + 2 * J)), .int i, .int (nI N)])).length) Slot.unset).toArray = ls at hl ⊢
  have hl : lv_has ls 3 [(0, .ref (ad (107 + 2 * J))), (1, .int i), (2, .int (nI N))] := hl
  obtain ⟨sc_394, sl_394, sr_394, es394, p0_394, p1_394⟩ := get_sh hI (j := J) (by omega)
  refine lv_iload_n hx hb dX3_hasCells_0 rfl (lv_at hl 2 rfl) ?_
  refine lv_if_eq (tgt := 26) hx hb dX3_hasCells_1 (by decide) (fun c_395 => ?_) (fun c_395 => ?_)
  · have n_395 : N = 0 := n_eq (a := N) (b := 0) c_395 (by omega) (by decide)
    refine lv_iconst (v := 1) hx hb dX3_hasCells_26 (by decide) ?_
    refine lv_goto (tgt := 31) hx hb dX3_hasCells_27 (by decide) ?_
    have : (0 : Int32).toInt = 0 := by decide
    have hsT : (nI sc_394).toInt = (sc_394 : Int) := nI_toInt (by omega)
    have hrd : rdI (en (107 + 2 * J)) 1 = nI sc_394 := by rw [es394]; rfl
    exact hp_iretR hx hb hr rfl hlocks hsz hh ((by rw [hrd]; exact (if_pos (by unfold hcP; omega)).symm)) dX3_hasCells_31
  · have n_395 : N ≠ 0 := n_neq (a := N) (b := 0) c_395 (by omega) (by decide)
    refine lv_iload_n hx hb dX3_hasCells_4 rfl (lv_at hl 1 rfl) ?_
    refine lv_if_lt (tgt := 30) hx hb dX3_hasCells_5 (by decide) (fun c_396 => ?_) (fun c_396 => ?_)
    · refine lv_iconst (v := 0) hx hb dX3_hasCells_30 (by decide) ?_
      have : (0 : Int32).toInt = 0 := by decide
      have := i_lt c_396
      have hsT : (nI sc_394).toInt = (sc_394 : Int) := nI_toInt (by omega)
      have hrd : rdI (en (107 + 2 * J)) 1 = nI sc_394 := by rw [es394]; rfl
      exact hp_iretR hx hb hr rfl hlocks hsz hh ((by rw [hrd]; exact (if_neg (by unfold hcP; omega)).symm)) dX3_hasCells_31
    · refine lv_iload_n hx hb dX3_hasCells_8 rfl (lv_at hl 2 rfl) ?_
      refine lv_aload_n hx hb dX3_hasCells_9 rfl (lv_at hl 0 rfl) ?_
      refine hp_get hx hb hts ix3 hown hK hh (q := (107 + 2 * J)) rfl (hI.1 _ (by omega)) es394 rfl 1 (by decide) (hts _ tw_231) (fun _ h9 => h9) rfl dX3_hasCells_10 ?_
      refine lv_icmp_gt (tgt := 30) hx hb dX3_hasCells_13 (by decide) (fun c_397 => ?_) (fun c_397 => ?_)
      · have n_397 : sc_394 < N := n_lt (a := sc_394) (b := N) c_397 (by omega) (by omega)
        refine lv_iconst (v := 0) hx hb dX3_hasCells_30 (by decide) ?_
        have : (0 : Int32).toInt = 0 := by decide
        have := i_nlt c_396
        have hsT : (nI sc_394).toInt = (sc_394 : Int) := nI_toInt (by omega)
        have hrd : rdI (en (107 + 2 * J)) 1 = nI sc_394 := by rw [es394]; rfl
        exact hp_iretR hx hb hr rfl hlocks hsz hh ((by rw [hrd]; exact (if_neg (by unfold hcP; omega)).symm)) dX3_hasCells_31
      · have n_397 : N ≤ sc_394 := n_nlt (a := sc_394) (b := N) c_397 (by omega) (by omega)
        refine lv_iload_n hx hb dX3_hasCells_16 rfl (lv_at hl 1 rfl) ?_
        refine lv_aload_n hx hb dX3_hasCells_17 rfl (lv_at hl 0 rfl) ?_
        refine hp_get hx hb hts ix3 hown hK hh (q := (107 + 2 * J)) rfl (hI.1 _ (by omega)) es394 rfl 1 (by decide) (hts _ tw_231) (fun _ h9 => h9) rfl dX3_hasCells_18 ?_
        refine lv_iload_n hx hb dX3_hasCells_21 rfl (lv_at hl 2 rfl) ?_
        refine lv_isub hx hb dX3_hasCells_22 ?_
        rw [pk_sub (a := sc_394) (b := N) (by omega)]
        have hsb : (nI (sc_394 - N)).toInt = ((sc_394 - N : Nat) : Int) := nI_toInt (by omega)
        refine lv_icmp_gt (tgt := 30) hx hb dX3_hasCells_23 (by decide) (fun c_398 => ?_) (fun c_398 => ?_)
        · refine lv_iconst (v := 0) hx hb dX3_hasCells_30 (by decide) ?_
          have : (0 : Int32).toInt = 0 := by decide
          have := i_nlt c_396
          have := i_lt c_398
          have hsT : (nI sc_394).toInt = (sc_394 : Int) := nI_toInt (by omega)
          have hrd : rdI (en (107 + 2 * J)) 1 = nI sc_394 := by rw [es394]; rfl
          exact hp_iretR hx hb hr rfl hlocks hsz hh ((by rw [hrd]; exact (if_neg (by unfold hcP; omega)).symm)) dX3_hasCells_31
        · refine lv_iconst (v := 1) hx hb dX3_hasCells_26 (by decide) ?_
          refine lv_goto (tgt := 31) hx hb dX3_hasCells_27 (by decide) ?_
          have : (0 : Int32).toInt = 0 := by decide
          have := i_nlt c_396
          have := i_nlt c_398
          have hsT : (nI sc_394).toInt = (sc_394 : Int) := nI_toInt (by omega)
          have hrd : rdI (en (107 + 2 * J)) 1 = nI sc_394 := by rw [es394]; rfl
          exact hp_iretR hx hb hr rfl hlocks hsz hh ((by rw [hrd]; exact (if_pos (by unfold hcP; omega)).symm)) dX3_hasCells_31
theorem kw_X3_hasCells {R : Room} {s : State} {args : Array Value} {own : String} {idx : Nat} (hts : ∀ w ∈ TB, w.before args s = true) (hl : Cond.methodLink own idx yX3_hasCells ∈ TB) (hR : 0 + 1 ≤ R.frames ∧ 8 + (3 + 11) + 40 * 0 ≤ R.locals) : CallW R s args own RX3 idx yX3_hasCells cX3_hasCells 3 (some .boolean) (Cond.code yX3_hasCells cX3_hasCells 3 (some .boolean) :: TB) (rmN 0) 0 0 2 := cwV 2 hts (TB_V hl tw_315 tw_316 tw_8 tw_317) rfl rfl rfl (by decide +kernel) hR
set_option maxHeartbeats 4000000 in
set_option maxRecDepth 100000 in
/-- renew -/
theorem c_X3_renew (l : Launch) (D : va_G) (cy : Nat → ClassId) (sz : Nat) (cs : List Nat) (ad : Nat → Nat) (en : Nat → va_E) (hI : SX cy cs ad en) (J : Nat) (hJ : J < 4) (la : Int32) (N : Nat) (hN : N ≤ 40)   : Met l yX3_renew (Cond.code yX3_renew cX3_renew 3 none :: TB) (rmN 1) (va_Pc [.ref (ad (107 + 2 * J)), .int la, .int (nI N)] (Pre D cy cs ad en sz)) (va_Qv (S := Nat → va_E) (fun en1 => SX cy cs ad en1 ∧ (∀ c, (c ≠ 107 + 2 * J ∧ c ≠ 108 + 2 * J) → en1 c = en c) ∧ (en1 (107 + 2 * J) = .inr (3, [.ref (ad (108 + 2 * J)), .int (nI N), .int la, .int 1]) ∧ ∀ i, i < 40 → rdF (en1 (108 + 2 * J)) i = 0)) (PostM D cs ad) (Af cs ad sz)) 0 0 (Af cs ad sz) := by
  refine Met.ofW (cc := cX3_renew) (maxL := 3) (ret := none) (by decide) rfl ?_
  intro p e s m args below meth c s₁ B hml hv
  obtain ⟨rfl, hsz, hP, hK, hD0⟩ := hv
  have hx := B.exec
  have hb := B.bytes
  have hr := B.returns
  have hts : ∀ w ∈ TB, w.before _ s = true := fun w h => atoms_spec (ws := _ :: TB) B.pre w (List.mem_cons_of_mem _ h)
  have hown : s.vm.findClass RX3 = some m.cls := findClass_of_methodNamed B.named
  have hlocks := B.notSynchronized
  have hh : Hp D (Af cs ad sz) (Af cs ad sz) s.heap s.heap [] cs ad en := ⟨hP, Af_self hD0, va_S.rf⟩
  have hA : ∀ q : Nat, s.heap.size ≤ q → Af cs ad sz q := fun q h => Or.inr (by rw [hsz] at h; exact h)
  have hl := lv_entry ([.ref (ad (107 + 2 * J)), .int la, .int (nI N)]) (n := 3) (Nat.le_of_ble_eq_true rfl)
  rw [lg_entry_eq]
  generalize (lg_sl ([.ref (ad (107 + 2 * J)), .int la, .int (nI N)]) ++ List.replicate (3 - (lg_sl ([.ref (ad (107 + 2 * J)), .int la, .int (nI N)])).length) Slot.unset).toArray = ls at hl ⊢
  have hl : lv_has ls 3 [(0, .ref (ad (107 + 2 * J))), (1, .int la), (2, .int (nI N))] := hl
  have hf0 : ∀ c, (c ≠ 107 + 2 * J ∧ c ≠ 108 + 2 * J) → en c = en c := fun _ _ => rfl
  refine lv_aload_n hx hb dX3_renew_0 rfl (lv_at hl 0 rfl) ?_
  obtain ⟨sc_399, sl_399, sr_399, es399, p0_399, p1_399⟩ := get_sh hI (j := J) (by omega)
  refine hp_get hx hb hts ix3 hown hK hh (q := (107 + 2 * J)) rfl (hI.1 _ (by omega)) es399 rfl 0 (by decide) (hts _ tw_229) (fun _ h9 => h9) rfl dX3_renew_1 ?_
  refine lv_iconst (v := 0) hx hb dX3_renew_4 (by decide) ?_
  obtain ⟨f_400, es400⟩ := get_shc hI (j := J) (by omega)
  refine hp_callMv (va_runS (As := [.ref (ad (108 + 2 * J)), .int 0]) (rest := []) ⟨hx, hb, hml, hown, hts⟩ (c_J7_fill_53178 l D cy _ cs ad en (108 + 2 * J) 40 (hI.1 _ (by omega)) (by decide) f_400 0 es400) (kw_J7_fill_53178 hts tw_758 ⟨by decide, by decide⟩) (preS_of hh hK) rfl rfl hl.1 rfl (lv_room (Nat.le_of_ble_eq_true rfl)) dX3_renew_5 ⟨Nat.le_of_ble_eq_true rfl, Nat.le_of_ble_eq_true rfl⟩) hh hA (fun H locs en_401 hw_401 hh => ?_)
  obtain ⟨f_401, hen_401, hf9_401⟩ := hw_401
  have es399_401 : en_401 (107 + 2 * J) = .inr (3, [.ref (ad (108 + 2 * J)), .int (nI sc_399), .int sl_399, .int (nI sr_399)]) := by rw [hen_401, va_up_ne _ _ (by omega)]; exact es399
  have es400_401 : en_401 (108 + 2 * J) = .inl (cy 0, 40, .inl f_401) := by rw [hen_401]; exact va_up_self _ _ _
  have hI_401 : SX cy cs ad en_401 := by rw [hen_401]; exact up_shc hI (j := J) (by omega) ⟨f_401, rfl⟩
  have hf_401 : ∀ c, (c ≠ 107 + 2 * J ∧ c ≠ 108 + 2 * J) → en_401 c = en c := fun c hc => Eq.trans (show en_401 c = en c from by rw [hen_401, va_up_ne _ _ (by omega)]) (hf0 c hc)
  refine lv_aload_n hx hb dX3_renew_8 rfl (lv_at hl 0 rfl) ?_
  refine lv_iload_n hx hb dX3_renew_9 rfl (lv_at hl 1 rfl) ?_
  refine hp_put hx hb hts ix3 tyX3 tyX3_ok nmX3 hown hK hh (q := (107 + 2 * J)) rfl (hI.1 _ (by omega)) es399_401 rfl 2 (by decide) (hts _ tw_232) (fun _ h9 => h9) rfl (ty := .int) (by decide +kernel) rfl rfl (Nat.le_of_ble_eq_true rfl) dX3_renew_10 (fun H locs en_402 hen_402 hh => ?_)
  have es400_402 : en_402 (108 + 2 * J) = .inl (cy 0, 40, .inl f_401) := by rw [hen_402, va_up_ne _ _ (by omega)]; exact es400_401
  have es399_402 : en_402 (107 + 2 * J) = .inr (3, [.ref (ad (108 + 2 * J)), .int (nI sc_399), .int la, .int (nI sr_399)]) := by rw [hen_402]; exact va_up_self _ _ _
  have hI_402 : SX cy cs ad en_402 := by rw [hen_402]; exact up_sh hI_401 (j := J) (by omega) ⟨sc_399, la, sr_399, rfl, p0_399, p1_399⟩
  have hf_402 : ∀ c, (c ≠ 107 + 2 * J ∧ c ≠ 108 + 2 * J) → en_402 c = en c := fun c hc => Eq.trans (show en_402 c = en_401 c from by rw [hen_402, va_up_ne _ _ (by omega)]) (hf_401 c hc)
  refine lv_aload_n hx hb dX3_renew_13 rfl (lv_at hl 0 rfl) ?_
  refine lv_iload_n hx hb dX3_renew_14 rfl (lv_at hl 2 rfl) ?_
  refine hp_put hx hb hts ix3 tyX3 tyX3_ok nmX3 hown hK hh (q := (107 + 2 * J)) rfl (hI.1 _ (by omega)) es399_402 rfl 1 (by decide) (hts _ tw_231) (fun _ h9 => h9) rfl (ty := .int) (by decide +kernel) rfl rfl (Nat.le_of_ble_eq_true rfl) dX3_renew_15 (fun H locs en_403 hen_403 hh => ?_)
  have es400_403 : en_403 (108 + 2 * J) = .inl (cy 0, 40, .inl f_401) := by rw [hen_403, va_up_ne _ _ (by omega)]; exact es400_402
  have es399_403 : en_403 (107 + 2 * J) = .inr (3, [.ref (ad (108 + 2 * J)), .int (nI N), .int la, .int (nI sr_399)]) := by rw [hen_403]; exact va_up_self _ _ _
  have hI_403 : SX cy cs ad en_403 := by rw [hen_403]; exact up_sh hI_402 (j := J) (by omega) ⟨N, la, sr_399, rfl, (by omega), p1_399⟩
  have hf_403 : ∀ c, (c ≠ 107 + 2 * J ∧ c ≠ 108 + 2 * J) → en_403 c = en c := fun c hc => Eq.trans (show en_403 c = en_402 c from by rw [hen_403, va_up_ne _ _ (by omega)]) (hf_402 c hc)
  refine lv_aload_n hx hb dX3_renew_18 rfl (lv_at hl 0 rfl) ?_
  refine lv_iconst (v := 1) hx hb dX3_renew_19 (by decide) ?_
  refine hp_put hx hb hts ix3 tyX3 tyX3_ok nmX3 hown hK hh (q := (107 + 2 * J)) rfl (hI.1 _ (by omega)) es399_403 rfl 3 (by decide) (hts _ tw_234) (fun _ h9 => h9) rfl (ty := .boolean) (by decide +kernel) rfl rfl (Nat.le_of_ble_eq_true rfl) dX3_renew_20 (fun H locs en_404 hen_404 hh => ?_)
  have es400_404 : en_404 (108 + 2 * J) = .inl (cy 0, 40, .inl f_401) := by rw [hen_404, va_up_ne _ _ (by omega)]; exact es400_403
  have es399_404 : en_404 (107 + 2 * J) = .inr (3, [.ref (ad (108 + 2 * J)), .int (nI N), .int la, .int 1]) := by rw [hen_404]; exact va_up_self _ _ _
  have hI_404 : SX cy cs ad en_404 := by rw [hen_404]; exact up_sh hI_403 (j := J) (by omega) ⟨N, la, 1, rfl, (by omega), (by omega)⟩
  have hf_404 : ∀ c, (c ≠ 107 + 2 * J ∧ c ≠ 108 + 2 * J) → en_404 c = en c := fun c hc => Eq.trans (show en_404 c = en_403 c from by rw [hen_404, va_up_ne _ _ (by omega)]) (hf_403 c hc)
  exact hp_vretM hx hb hr hlocks hh (⟨hI_404, hf_404, ⟨es399_404, fun i hi => by rw [es400_404]; exact hf9_401 i hi⟩⟩) dX3_renew_23
theorem kw_X3_renew {R : Room} {s : State} {args : Array Value} {own : String} {idx : Nat} (hts : ∀ w ∈ TB, w.before args s = true) (hl : Cond.methodLink own idx yX3_renew ∈ TB) (hR : 1 + 1 ≤ R.frames ∧ 8 + (3 + 11) + 40 * 1 ≤ R.locals) : CallW R s args own RX3 idx yX3_renew cX3_renew 3 none (Cond.code yX3_renew cX3_renew 3 none :: TB) (rmN 1) 0 0 2 := cwV 2 hts (TB_V hl tw_755 tw_756 tw_8 tw_757) rfl rfl rfl (by decide +kernel) hR
set_option maxHeartbeats 4000000 in
set_option maxRecDepth 100000 in
/-- drop -/
theorem c_X3_drop (l : Launch) (D : va_G) (cy : Nat → ClassId) (sz : Nat) (cs : List Nat) (ad : Nat → Nat) (en : Nat → va_E) (hI : SX cy cs ad en) (J : Nat) (hJ : J < 4)   : Met l yX3_drop (Cond.code yX3_drop cX3_drop 2 (some .boolean) :: TB) (rmN 0) (va_Pc [.ref (ad (107 + 2 * J))] (Pre D cy cs ad en sz)) (va_Qi (S := Nat → va_E) (fun r en1 => SX cy cs ad en1 ∧ (∀ c, (c ≠ 107 + 2 * J) → en1 c = en c) ∧ (r = rdI (en (107 + 2 * J)) 3 ∧ rdI (en1 (107 + 2 * J)) 3 = 0)) (PostM D cs ad) (Af cs ad sz)) 0 0 (Af cs ad sz) := by
  refine Met.ofW (cc := cX3_drop) (maxL := 2) (ret := (some .boolean)) (by decide) rfl ?_
  intro p e s m args below meth c s₁ B hml hv
  obtain ⟨rfl, hsz, hP, hK, hD0⟩ := hv
  have hx := B.exec
  have hb := B.bytes
  have hr := B.returns
  have hts : ∀ w ∈ TB, w.before _ s = true := fun w h => atoms_spec (ws := _ :: TB) B.pre w (List.mem_cons_of_mem _ h)
  have hown : s.vm.findClass RX3 = some m.cls := findClass_of_methodNamed B.named
  have hlocks := B.notSynchronized
  have hh : Hp D (Af cs ad sz) (Af cs ad sz) s.heap s.heap [] cs ad en := ⟨hP, Af_self hD0, va_S.rf⟩
  have hA : ∀ q : Nat, s.heap.size ≤ q → Af cs ad sz q := fun q h => Or.inr (by rw [hsz] at h; exact h)
  have hl := lv_entry ([.ref (ad (107 + 2 * J))]) (n := 2) (Nat.le_of_ble_eq_true rfl)
  rw [lg_entry_eq]
  generalize (lg_sl ([.ref (ad (107 + 2 * J))]) ++ List.replicate (2 - (lg_sl ([.ref (ad (107 + 2 * J))])).length) Slot.unset).toArray = ls at hl ⊢
  have hl : lv_has ls 2 [(0, .ref (ad (107 + 2 * J)))] := hl
  have hf0 : ∀ c, (c ≠ 107 + 2 * J) → en c = en c := fun _ _ => rfl
  refine lv_aload_n hx hb dX3_drop_0 rfl (lv_at hl 0 rfl) ?_
  obtain ⟨sc_405, sl_405, sr_405, es405, p0_405, p1_405⟩ := get_sh hI (j := J) (by omega)
  refine hp_get hx hb hts ix3 hown hK hh (q := (107 + 2 * J)) rfl (hI.1 _ (by omega)) es405 rfl 3 (by decide) (hts _ tw_234) (fun _ h9 => h9) rfl dX3_drop_1 ?_
  refine lv_istore_n (lv' := [(1, .int (nI sr_405)), (0, .ref (ad (107 + 2 * J)))]) hx hb dX3_drop_4 rfl hl (by decide) rfl (fun ls hl => ?_)
  refine lv_aload_n hx hb dX3_drop_5 rfl (lv_at hl 1 rfl) ?_
  refine lv_iconst (v := 0) hx hb dX3_drop_6 (by decide) ?_
  refine hp_put hx hb hts ix3 tyX3 tyX3_ok nmX3 hown hK hh (q := (107 + 2 * J)) rfl (hI.1 _ (by omega)) es405 rfl 3 (by decide) (hts _ tw_234) (fun _ h9 => h9) rfl (ty := .boolean) (by decide +kernel) rfl rfl (Nat.le_of_ble_eq_true rfl) dX3_drop_7 (fun H locs en_406 hen_406 hh => ?_)
  have es405_406 : en_406 (107 + 2 * J) = .inr (3, [.ref (ad (108 + 2 * J)), .int (nI sc_405), .int sl_405, .int 0]) := by rw [hen_406]; exact va_up_self _ _ _
  have hI_406 : SX cy cs ad en_406 := by rw [hen_406]; exact up_sh hI (j := J) (by omega) ⟨sc_405, sl_405, 0, rfl, p0_405, (by omega)⟩
  have hf_406 : ∀ c, (c ≠ 107 + 2 * J) → en_406 c = en c := fun c hc => Eq.trans (show en_406 c = en c from by rw [hen_406, va_up_ne _ _ (by omega)]) (hf0 c hc)
  refine lv_iload_n hx hb dX3_drop_10 rfl (lv_at hl 0 rfl) ?_
  exact hp_iretM hx hb hr (nar_bit (nb1 (by omega))) hlocks hh (⟨hI_406, hf_406, (by rw [es405]; rfl), (by rw [es405_406]; rfl)⟩) dX3_drop_11
theorem kw_X3_drop {R : Room} {s : State} {args : Array Value} {own : String} {idx : Nat} (hts : ∀ w ∈ TB, w.before args s = true) (hl : Cond.methodLink own idx yX3_drop ∈ TB) (hR : 0 + 1 ≤ R.frames ∧ 8 + (2 + 11) + 40 * 0 ≤ R.locals) : CallW R s args own RX3 idx yX3_drop cX3_drop 2 (some .boolean) (Cond.code yX3_drop cX3_drop 2 (some .boolean) :: TB) (rmN 0) 0 0 0 := cwV 0 hts (TB_V hl tw_764 tw_765 tw_8 tw_766) rfl rfl rfl (by decide +kernel) hR
set_option maxHeartbeats 4000000 in
set_option maxRecDepth 100000 in
/-- write -/
theorem c_X3_write (l : Launch) (D : va_G) (cy : Nat → ClassId) (sz : Nat) (cs : List Nat) (ad : Nat → Nat) (en : Nat → va_E) (hI : SX cy cs ad en) (J : Nat) (hJ : J < 4) (i : Nat) (v : Int32) (hi : i < 40)   : Met l yX3_write (Cond.code yX3_write cX3_write 3 none :: TB) (rmN 0) (va_Pc [.ref (ad (107 + 2 * J)), .int (nI i), .int v] (Pre D cy cs ad en sz)) (va_Qv (S := Nat → va_E) (fun en1 => SX cy cs ad en1 ∧ (∀ c, (c ≠ 108 + 2 * J) → en1 c = en c) ∧ (en1 (108 + 2 * J) = .inl (cy 0, 40, .inl (upd (rdF (en (108 + 2 * J))) i (narV (rdI (en (107 + 2 * J)) 2) v))))) (PostM D cs ad) (Af cs ad sz)) 0 0 (Af cs ad sz) := by
  refine Met.ofW (cc := cX3_write) (maxL := 3) (ret := none) (by decide) rfl ?_
  intro p e s m args below meth c s₁ B hml hv
  obtain ⟨rfl, hsz, hP, hK, hD0⟩ := hv
  have hx := B.exec
  have hb := B.bytes
  have hr := B.returns
  have hts : ∀ w ∈ TB, w.before _ s = true := fun w h => atoms_spec (ws := _ :: TB) B.pre w (List.mem_cons_of_mem _ h)
  have hown : s.vm.findClass RX3 = some m.cls := findClass_of_methodNamed B.named
  have hlocks := B.notSynchronized
  have hh : Hp D (Af cs ad sz) (Af cs ad sz) s.heap s.heap [] cs ad en := ⟨hP, Af_self hD0, va_S.rf⟩
  have hA : ∀ q : Nat, s.heap.size ≤ q → Af cs ad sz q := fun q h => Or.inr (by rw [hsz] at h; exact h)
  have hl := lv_entry ([.ref (ad (107 + 2 * J)), .int (nI i), .int v]) (n := 3) (Nat.le_of_ble_eq_true rfl)
  rw [lg_entry_eq]
  generalize (lg_sl ([.ref (ad (107 + 2 * J)), .int (nI i), .int v]) ++ List.replicate (3 - (lg_sl ([.ref (ad (107 + 2 * J)), .int (nI i), .int v])).length) Slot.unset).toArray = ls at hl ⊢
  have hl : lv_has ls 3 [(0, .ref (ad (107 + 2 * J))), (1, .int (nI i)), (2, .int v)] := hl
  have hf0 : ∀ c, (c ≠ 108 + 2 * J) → en c = en c := fun _ _ => rfl
  obtain ⟨sc_407, sl_407, sr_407, es407, p0_407, p1_407⟩ := get_sh hI (j := J) (by omega)
  obtain ⟨f_408, es408⟩ := get_shc hI (j := J) (by omega)
  refine lv_aload_n hx hb dX3_write_0 rfl (lv_at hl 0 rfl) ?_
  refine hp_get hx hb hts ix3 hown hK hh (q := (107 + 2 * J)) rfl (hI.1 _ (by omega)) es407 rfl 2 (by decide) (hts _ tw_232) (fun _ h9 => h9) rfl dX3_write_1 ?_
  by_cases q_409_0 : sl_407 = 0
  · refine lv_lookup (off := 28) (tgt := 32) hx hb dX3_write_4 (by decide) (by rw [q_409_0]; decide) (by decide) ?_
    refine lv_aload_n hx hb dX3_write_32 rfl (lv_at hl 0 rfl) ?_
    refine hp_get hx hb hts ix3 hown hK hh (q := (107 + 2 * J)) rfl (hI.1 _ (by omega)) es407 rfl 0 (by decide) (hts _ tw_229) (fun _ h9 => h9) rfl dX3_write_33 ?_
    refine lv_iload_n hx hb dX3_write_36 rfl (lv_at hl 1 rfl) ?_
    refine lv_iload_n hx hb dX3_write_37 rfl (lv_at hl 2 rfl) ?_
    refine lv_i2b hx hb dX3_write_38 rfl ?_
    refine hp_iast hx hb hK hh (q := (108 + 2 * J)) rfl (hI.1 _ (by omega)) es408 (vp_in_nI (n := i) (by omega) (by decide)) dX3_write_39 (fun H locs en_410 hen_410 hh => ?_)
    rw [nI_clamp (n := i) (by omega)] at hen_410
    have es407_410 : en_410 (107 + 2 * J) = .inr (3, [.ref (ad (108 + 2 * J)), .int (nI sc_407), .int sl_407, .int (nI sr_407)]) := by rw [hen_410, va_up_ne _ _ (by omega)]; exact es407
    have es408_410 : en_410 (108 + 2 * J) = .inl (cy 0, 40, .inl (upd f_408 i v.toInt8.toInt32)) := by rw [hen_410]; exact va_up_self _ _ _
    have hI_410 : SX cy cs ad en_410 := by rw [hen_410]; exact up_shc hI (j := J) (by omega) ⟨(upd f_408 i v.toInt8.toInt32), rfl⟩
    have hf_410 : ∀ c, (c ≠ 108 + 2 * J) → en_410 c = en c := fun c hc => Eq.trans (show en_410 c = en c from by rw [hen_410, va_up_ne _ _ (by omega)]) (hf0 c hc)
    refine lv_goto (tgt := 61) hx hb dX3_write_40 (by decide) ?_
    exact hp_vretM hx hb hr hlocks hh (⟨hI_410, hf_410, (by rw [es408_410, show rdF (en (108 + 2 * J)) = f_408 from by rw [es408]; rfl, show rdI (en (107 + 2 * J)) 2 = sl_407 from by rw [es407]; rfl]; unfold narV; rw [if_pos q_409_0])⟩) dX3_write_61
  by_cases q_409_1 : sl_407 = 1
  · refine lv_lookup (off := 39) (tgt := 43) hx hb dX3_write_4 (by decide) (by rw [q_409_1]; decide) (by decide) ?_
    refine lv_aload_n hx hb dX3_write_43 rfl (lv_at hl 0 rfl) ?_
    refine hp_get hx hb hts ix3 hown hK hh (q := (107 + 2 * J)) rfl (hI.1 _ (by omega)) es407 rfl 0 (by decide) (hts _ tw_229) (fun _ h9 => h9) rfl dX3_write_44 ?_
    refine lv_iload_n hx hb dX3_write_47 rfl (lv_at hl 1 rfl) ?_
    refine lv_iload_n hx hb dX3_write_48 rfl (lv_at hl 2 rfl) ?_
    refine lv_i2s hx hb dX3_write_49 rfl ?_
    refine hp_iast hx hb hK hh (q := (108 + 2 * J)) rfl (hI.1 _ (by omega)) es408 (vp_in_nI (n := i) (by omega) (by decide)) dX3_write_50 (fun H locs en_411 hen_411 hh => ?_)
    rw [nI_clamp (n := i) (by omega)] at hen_411
    have es407_411 : en_411 (107 + 2 * J) = .inr (3, [.ref (ad (108 + 2 * J)), .int (nI sc_407), .int sl_407, .int (nI sr_407)]) := by rw [hen_411, va_up_ne _ _ (by omega)]; exact es407
    have es408_411 : en_411 (108 + 2 * J) = .inl (cy 0, 40, .inl (upd f_408 i v.toInt16.toInt32)) := by rw [hen_411]; exact va_up_self _ _ _
    have hI_411 : SX cy cs ad en_411 := by rw [hen_411]; exact up_shc hI (j := J) (by omega) ⟨(upd f_408 i v.toInt16.toInt32), rfl⟩
    have hf_411 : ∀ c, (c ≠ 108 + 2 * J) → en_411 c = en c := fun c hc => Eq.trans (show en_411 c = en c from by rw [hen_411, va_up_ne _ _ (by omega)]) (hf0 c hc)
    refine lv_goto (tgt := 61) hx hb dX3_write_51 (by decide) ?_
    exact hp_vretM hx hb hr hlocks hh (⟨hI_411, hf_411, (by rw [es408_411, show rdF (en (108 + 2 * J)) = f_408 from by rw [es408]; rfl, show rdI (en (107 + 2 * J)) 2 = sl_407 from by rw [es407]; rfl]; unfold narV; rw [if_neg q_409_0, if_pos q_409_1])⟩) dX3_write_61
  refine lv_lookup (off := 50) (tgt := 54) hx hb dX3_write_4 (by decide) ((lv_osw q_409_0 (by decide)).trans ((lv_osw q_409_1 (by decide)).trans (rfl))) (by decide) ?_
  refine lv_aload_n hx hb dX3_write_54 rfl (lv_at hl 0 rfl) ?_
  refine hp_get hx hb hts ix3 hown hK hh (q := (107 + 2 * J)) rfl (hI.1 _ (by omega)) es407 rfl 0 (by decide) (hts _ tw_229) (fun _ h9 => h9) rfl dX3_write_55 ?_
  refine lv_iload_n hx hb dX3_write_58 rfl (lv_at hl 1 rfl) ?_
  refine lv_iload_n hx hb dX3_write_59 rfl (lv_at hl 2 rfl) ?_
  refine hp_iast hx hb hK hh (q := (108 + 2 * J)) rfl (hI.1 _ (by omega)) es408 (vp_in_nI (n := i) (by omega) (by decide)) dX3_write_60 (fun H locs en_412 hen_412 hh => ?_)
  rw [nI_clamp (n := i) (by omega)] at hen_412
  have es407_412 : en_412 (107 + 2 * J) = .inr (3, [.ref (ad (108 + 2 * J)), .int (nI sc_407), .int sl_407, .int (nI sr_407)]) := by rw [hen_412, va_up_ne _ _ (by omega)]; exact es407
  have es408_412 : en_412 (108 + 2 * J) = .inl (cy 0, 40, .inl (upd f_408 i v)) := by rw [hen_412]; exact va_up_self _ _ _
  have hI_412 : SX cy cs ad en_412 := by rw [hen_412]; exact up_shc hI (j := J) (by omega) ⟨(upd f_408 i v), rfl⟩
  have hf_412 : ∀ c, (c ≠ 108 + 2 * J) → en_412 c = en c := fun c hc => Eq.trans (show en_412 c = en c from by rw [hen_412, va_up_ne _ _ (by omega)]) (hf0 c hc)
  exact hp_vretM hx hb hr hlocks hh (⟨hI_412, hf_412, (by rw [es408_412, show rdF (en (108 + 2 * J)) = f_408 from by rw [es408]; rfl, show rdI (en (107 + 2 * J)) 2 = sl_407 from by rw [es407]; rfl]; unfold narV; rw [if_neg q_409_0, if_neg q_409_1])⟩) dX3_write_61
theorem kw_X3_write {R : Room} {s : State} {args : Array Value} {own : String} {idx : Nat} (hts : ∀ w ∈ TB, w.before args s = true) (hl : Cond.methodLink own idx yX3_write ∈ TB) (hR : 0 + 1 ≤ R.frames ∧ 8 + (3 + 11) + 40 * 0 ≤ R.locals) : CallW R s args own RX3 idx yX3_write cX3_write 3 none (Cond.code yX3_write cX3_write 3 none :: TB) (rmN 0) 0 0 2 := cwV 2 hts (TB_V hl tw_776 tw_777 tw_8 tw_778) rfl rfl rfl (by decide +kernel) hR
set_option maxHeartbeats 4000000 in
set_option maxRecDepth 100000 in
/-- settle -/
theorem c_X11_settle (l : Launch) (D : va_G) (cy : Nat → ClassId) (sz : Nat) (cs : List Nat) (ad : Nat → Nat) (en : Nat → va_E) (hI : SX cy cs ad en) (a : Int32)   : Met l yX11_settle (Cond.code yX11_settle cX11_settle 2 (some .int) :: TB) (rmN 1) (va_Pc [.ref (ad 0), .int a] (Pre D cy cs ad en sz)) (va_Qi (S := Nat → va_E) (fun r en1 => SX cy cs ad en1 ∧ (∀ c, (c ≠ 0) → en1 c = en c) ∧ r = a ∧ rdI (en1 0) 6 = rdI (en 0) 6) (PostM D cs ad) (Af cs ad sz)) 0 0 (Af cs ad sz) := by
  refine Met.ofW (cc := cX11_settle) (maxL := 2) (ret := (some .int)) (by decide) rfl ?_
  intro p e s m args below meth c s₁ B hml hv
  obtain ⟨rfl, hsz, hP, hK, hD0⟩ := hv
  have hx := B.exec
  have hb := B.bytes
  have hr := B.returns
  have hts : ∀ w ∈ TB, w.before _ s = true := fun w h => atoms_spec (ws := _ :: TB) B.pre w (List.mem_cons_of_mem _ h)
  have hown : s.vm.findClass RX11 = some m.cls := findClass_of_methodNamed B.named
  have hlocks := B.notSynchronized
  have hh : Hp D (Af cs ad sz) (Af cs ad sz) s.heap s.heap [] cs ad en := ⟨hP, Af_self hD0, va_S.rf⟩
  have hA : ∀ q : Nat, s.heap.size ≤ q → Af cs ad sz q := fun q h => Or.inr (by rw [hsz] at h; exact h)
  have hl := lv_entry ([.ref (ad 0), .int a]) (n := 2) (Nat.le_of_ble_eq_true rfl)
  rw [lg_entry_eq]
  generalize (lg_sl ([.ref (ad 0), .int a]) ++ List.replicate (2 - (lg_sl ([.ref (ad 0), .int a])).length) Slot.unset).toArray = ls at hl ⊢
  have hl : lv_has ls 2 [(0, .ref (ad 0)), (1, .int a)] := hl
  have hf0 : ∀ c, (c ≠ 0) → en c = en c := fun _ _ => rfl
  obtain ⟨wc_413, lf_413, es413, p0_413⟩ := get_A hI
  refine lv_aload_n hx hb dX11_settle_0 rfl (lv_at hl 0 rfl) ?_
  refine lv_iload_n hx hb dX11_settle_1 rfl (lv_at hl 1 rfl) ?_
  refine lv_bipush (v := (-14)) hx hb dX11_settle_2 (by decide) ?_
  refine lv_bipush (v := (-11)) hx hb dX11_settle_4 (by decide) ?_
  refine hp_callRi (va_runS (As := [.int a, .int (-14), .int (-11)]) (rest := [.ref (ad 0)]) ⟨hx, hb, hml, hown, hts⟩ (c_X11_isWithin l D cy _ cs ad en a (-14) (-11)) (kw_X11_isWithin hts tw_274 ⟨by decide, by decide⟩) (preS_of hh hK) rfl rfl hl.1 rfl (lv_room (Nat.le_of_ble_eq_true rfl)) dX11_settle_6 ⟨Nat.le_of_ble_eq_true rfl, Nat.le_of_ble_eq_true rfl⟩) hh hA (fun r_414 H locs hw_414 hh => ?_)
  rcases Decidable.em (wi a (-14) (-11)) with hp_414 | hp_414
  · obtain rfl : r_414 = 1 := Eq.trans hw_414 (if_pos hp_414)
    refine lv_if_eq (tgt := 19) hx hb dX11_settle_9 (by decide) (fun c_0 => absurd c_0 (by decide)) (fun _ => ?_)
    refine lv_bipush (v := (-10)) hx hb dX11_settle_12 (by decide) ?_
    refine lv_iload_n hx hb dX11_settle_14 rfl (lv_at hl 1 rfl) ?_
    refine lv_isub hx hb dX11_settle_15 ?_
    refine lv_goto (tgt := 20) hx hb dX11_settle_16 (by decide) ?_
    refine hp_put hx hb hts ix11 tyX11 tyX11_ok nmX11 hown hK hh (q := 0) rfl (hI.1 _ (by decide)) es413 rfl 7 (by decide) (hts _ tw_252) (fun _ h9 => h9) rfl (ty := .int) (by decide +kernel) rfl rfl (Nat.le_of_ble_eq_true rfl) dX11_settle_20 (fun H locs en_415 hen_415 hh => ?_)
    have es413_415 : en_415 0 = .inr (10, [.ref (ad 1), .ref (ad 12), .ref (ad 70), .ref (ad 74), .ref (ad 75), .ref (ad 76), .int (nI wc_413), .int ((-10) - a)]) := by rw [hen_415]; exact va_up_self _ _ _
    have hI_415 : SX cy cs ad en_415 := by rw [hen_415]; exact up_A hI ⟨wc_413, ((-10) - a), rfl, p0_413⟩
    have hf_415 : ∀ c, (c ≠ 0) → en_415 c = en c := fun c hc => Eq.trans (show en_415 c = en c from by rw [hen_415, va_up_ne _ _ (by omega)]) (hf0 c hc)
    refine lv_iload_n hx hb dX11_settle_23 rfl (lv_at hl 1 rfl) ?_
    exact hp_iretM hx hb hr rfl hlocks hh (⟨hI_415, hf_415, rfl, (Eq.trans (show rdI (en_415 0) 6 = (nI wc_413) from by rw [es413_415]; rfl) (show rdI (en 0) 6 = (nI wc_413) from by rw [es413]; rfl).symm)⟩) dX11_settle_24
  · obtain rfl : r_414 = 0 := Eq.trans hw_414 (if_neg hp_414)
    refine lv_if_eq (tgt := 19) hx hb dX11_settle_9 (by decide) (fun _ => ?_) (fun c_0 => absurd c_0 (by decide))
    refine lv_iconst (v := 0) hx hb dX11_settle_19 (by decide) ?_
    refine hp_put hx hb hts ix11 tyX11 tyX11_ok nmX11 hown hK hh (q := 0) rfl (hI.1 _ (by decide)) es413 rfl 7 (by decide) (hts _ tw_252) (fun _ h9 => h9) rfl (ty := .int) (by decide +kernel) rfl rfl (Nat.le_of_ble_eq_true rfl) dX11_settle_20 (fun H locs en_416 hen_416 hh => ?_)
    have es413_416 : en_416 0 = .inr (10, [.ref (ad 1), .ref (ad 12), .ref (ad 70), .ref (ad 74), .ref (ad 75), .ref (ad 76), .int (nI wc_413), .int 0]) := by rw [hen_416]; exact va_up_self _ _ _
    have hI_416 : SX cy cs ad en_416 := by rw [hen_416]; exact up_A hI ⟨wc_413, 0, rfl, p0_413⟩
    have hf_416 : ∀ c, (c ≠ 0) → en_416 c = en c := fun c hc => Eq.trans (show en_416 c = en c from by rw [hen_416, va_up_ne _ _ (by omega)]) (hf0 c hc)
    refine lv_iload_n hx hb dX11_settle_23 rfl (lv_at hl 1 rfl) ?_
    exact hp_iretM hx hb hr rfl hlocks hh (⟨hI_416, hf_416, rfl, (Eq.trans (show rdI (en_416 0) 6 = (nI wc_413) from by rw [es413_416]; rfl) (show rdI (en 0) 6 = (nI wc_413) from by rw [es413]; rfl).symm)⟩) dX11_settle_24
theorem kw_X11_settle {R : Room} {s : State} {args : Array Value} {own : String} {idx : Nat} (hts : ∀ w ∈ TB, w.before args s = true) (hl : Cond.methodLink own idx yX11_settle ∈ TB) (hR : 1 + 1 ≤ R.frames ∧ 8 + (2 + 11) + 40 * 1 ≤ R.locals) : CallW R s args own RX11 idx yX11_settle cX11_settle 2 (some .int) (Cond.code yX11_settle cX11_settle 2 (some .int) :: TB) (rmN 1) 0 0 1 := cwV 1 hts (TB_V hl tw_406 ts_7 tw_1 tw_407) rfl rfl rfl (by decide +kernel) hR
set_option maxHeartbeats 4000000 in
set_option maxRecDepth 100000 in
/-- lookAtCells -/
theorem c_X11_lookAtCells (l : Launch) (D : va_G) (cy : Nat → ClassId) (sz : Nat) (cs : List Nat) (ad : Nat → Nat) (en : Nat → va_E) (hI : SX cy cs ad en) (k lane i n : Int32)   : Met l yX11_lookAtCells (Cond.code yX11_lookAtCells cX11_lookAtCells 6 (some .int) :: TB) (rmN 2) (va_Pc [.ref (ad 0), .int k, .int lane, .int i, .int n] (Pre D cy cs ad en sz)) (va_Qi (S := Unit) (fun r _ => r = lookF (rdI (en (107 + 2 * k.toNatClampNeg)) 1) (rdI (en (107 + 2 * k.toNatClampNeg)) 2) (rdI (en (107 + 2 * k.toNatClampNeg)) 3) k lane i n) (fun _ _ => True) (Nf sz)) 0 0 (Nf sz) := by
  refine Met.ofW (cc := cX11_lookAtCells) (maxL := 6) (ret := (some .int)) (by decide) rfl ?_
  intro p e s m args below meth c s₁ B hml hv
  obtain ⟨rfl, hsz, hP, hK, hD0⟩ := hv
  have hx := B.exec
  have hb := B.bytes
  have hr := B.returns
  have hts : ∀ w ∈ TB, w.before _ s = true := fun w h => atoms_spec (ws := _ :: TB) B.pre w (List.mem_cons_of_mem _ h)
  have hown : s.vm.findClass RX11 = some m.cls := findClass_of_methodNamed B.named
  have hlocks := B.notSynchronized
  have hh : Hp D (Nf sz) (fun _ => True) s.heap s.heap [] cs ad en := ⟨hP, hD0, va_S.rf⟩
  have hA : ∀ q : Nat, s.heap.size ≤ q → Nf sz q := fun q h => by rw [hsz] at h; exact h
  have hl := lv_entry ([.ref (ad 0), .int k, .int lane, .int i, .int n]) (n := 6) (Nat.le_of_ble_eq_true rfl)
  rw [lg_entry_eq]
  generalize (lg_sl ([.ref (ad 0), .int k, .int lane, .int i, .int n]) ++ List.replicate (6 - (lg_sl ([.ref (ad 0), .int k, .int lane, .int i, .int n])).length) Slot.unset).toArray = ls at hl ⊢
  have hl : lv_has ls 6 [(0, .ref (ad 0)), (1, .int k), (2, .int lane), (3, .int i), (4, .int n)] := hl
  obtain ⟨wc_417, lf_417, es417, p0_417⟩ := get_A hI
  refine lv_iload_n hx hb dX11_lookAtCells_0 rfl (lv_at hl 1 rfl) ?_
  refine hp_callRi (va_runS (As := [.int k]) (rest := []) ⟨hx, hb, hml, hown, hts⟩ (c_X11_isSheet l D cy _ cs ad en k) (kw_X11_isSheet hts tw_305 ⟨by decide, by decide⟩) (preS_of hh hK) rfl rfl hl.1 rfl (lv_room (Nat.le_of_ble_eq_true rfl)) dX11_lookAtCells_1 ⟨Nat.le_of_ble_eq_true rfl, Nat.le_of_ble_eq_true rfl⟩) hh hA (fun r_418 H locs hw_418 hh => ?_)
  rcases Decidable.em (wi k 0 3) with hp_418 | hp_418
  · obtain rfl : r_418 = 1 := Eq.trans hw_418 (if_pos hp_418)
    obtain ⟨N_418, rfl, hA_418, hB_418⟩ := wi_natB hp_418 0 3 (by decide) (by decide)
    refine lv_if_ne (tgt := 9) hx hb dX11_lookAtCells_4 (by decide) (fun _ => ?_) (fun c_0 => absurd c_0 (by decide))
    refine lv_iload_n hx hb dX11_lookAtCells_9 rfl (lv_at hl 2 rfl) ?_
    refine hp_callRi (va_runS (As := [.int lane]) (rest := []) ⟨hx, hb, hml, hown, hts⟩ (c_X11_isLane l D cy _ cs ad en lane) (kw_X11_isLane hts tw_308 ⟨by decide, by decide⟩) (preS_of hh hK) rfl rfl hl.1 rfl (lv_room (Nat.le_of_ble_eq_true rfl)) dX11_lookAtCells_10 ⟨Nat.le_of_ble_eq_true rfl, Nat.le_of_ble_eq_true rfl⟩) hh hA (fun r_419 H locs hw_419 hh => ?_)
    rcases Decidable.em (wi lane 0 2) with hp_419 | hp_419
    · obtain rfl : r_419 = 1 := Eq.trans hw_419 (if_pos hp_419)
      refine lv_if_ne (tgt := 19) hx hb dX11_lookAtCells_13 (by decide) (fun _ => ?_) (fun c_0 => absurd c_0 (by decide))
      refine lv_aload_n hx hb dX11_lookAtCells_19 rfl (lv_at hl 0 rfl) ?_
      refine hp_get hx hb hts ix11 hown hK hh (q := 0) rfl (hI.1 _ (by decide)) es417 rfl 4 (by decide) (hts _ tw_249) (fun _ h9 => h9) rfl dX11_lookAtCells_20 ?_
      refine lv_iload_n hx hb dX11_lookAtCells_23 rfl (lv_at hl 1 rfl) ?_
      have es420 := get_shs hI
      unfold P_shs at es420
      refine hp_aald hx hb hK hh (q := 75) rfl (hI.1 _ (by decide)) 6 es420 rfl rfl (vp_in_nI (n := N_418) (by omega) (by decide)) (v := .ref (ad (107 + 2 * N_418))) (by rw [nI_clamp (n := N_418) (by omega)]; exact rfB_v (by omega)) dX11_lookAtCells_24 ?_
      refine lv_astore (lv' := [(5, .ref (ad (107 + 2 * N_418))), (0, .ref (ad 0)), (1, .int (nI N_418)), (2, .int lane), (3, .int i), (4, .int n)]) hx hb dX11_lookAtCells_25 hl (by decide) rfl (fun ls hl => ?_)
      refine lv_aload hx hb dX11_lookAtCells_27 (lv_at hl 0 rfl) ?_
      obtain ⟨sc_421, sl_421, sr_421, es421, p0_421, p1_421⟩ := get_sh hI (j := N_418) (by omega)
      refine hp_get hx hb hts ix3 hown hK hh (q := (107 + 2 * N_418)) rfl (hI.1 _ (by omega)) es421 rfl 3 (by decide) (hts _ tw_235) (fun _ h9 => h9) rfl dX11_lookAtCells_29 ?_
      refine lv_if_eq (tgt := 49) hx hb dX11_lookAtCells_32 (by decide) (fun c_422 => ?_) (fun c_422 => ?_)
      · have n_422 : sr_421 = 0 := n_eq (a := sr_421) (b := 0) c_422 (by omega) (by decide)
        refine lv_aload hx hb dX11_lookAtCells_49 (lv_at hl 0 rfl) ?_
        refine hp_get hx hb hts ix3 hown hK hh (q := (107 + 2 * N_418)) rfl (hI.1 _ (by omega)) es421 rfl 3 (by decide) (hts _ tw_235) (fun _ h9 => h9) rfl dX11_lookAtCells_51 ?_
        refine lv_if_ne (tgt := 62) hx hb dX11_lookAtCells_54 (by decide) (fun c_423 => ?_) (fun c_423 => ?_)
        · have n_423 : sr_421 ≠ 0 := n_neq (a := sr_421) (b := 0) c_423 (by omega) (by decide)
          exact absurd n_423 (by omega)
        · have n_423 : sr_421 = 0 := n_eq (a := sr_421) (b := 0) c_423 (by omega) (by decide)
          refine lv_iconst (v := 1) hx hb dX11_lookAtCells_57 (by decide) ?_
          refine hp_callRi (va_runS (As := [.int 1]) (rest := []) ⟨hx, hb, hml, hown, hts⟩ (c_X11_faultAnswer l D cy _ cs ad en 1) (kw_X11_faultAnswer hts tw_311 ⟨by decide, by decide⟩) (preS_of hh hK) rfl rfl hl.1 rfl (lv_room (Nat.le_of_ble_eq_true rfl)) dX11_lookAtCells_58 ⟨Nat.le_of_ble_eq_true rfl, Nat.le_of_ble_eq_true rfl⟩) hh hA (fun r_424 H locs hw_424 hh => ?_)
          obtain rfl : r_424 = (-11) := Eq.trans hw_424 (by decide)
          have hrd1 : rdI (en (107 + 2 * N_418)) 1 = nI sc_421 := by rw [es421]; rfl
          have hrd2 : rdI (en (107 + 2 * N_418)) 2 = sl_421 := by rw [es421]; rfl
          have hrd3 : rdI (en (107 + 2 * N_418)) 3 = nI sr_421 := by rw [es421]; rfl
          have hsr : nI sr_421 = 0 := by rw [show sr_421 = 0 by omega]; rfl
          exact hp_iretR hx hb hr rfl hlocks hsz hh (by rw [nI_clamp (n := N_418) (by omega), hrd1, hrd2, hrd3]; unfold lookF; rw [if_pos hp_418, if_pos hp_419, if_neg (fun q => q.1 hsr), if_pos hsr]) dX11_lookAtCells_61
      · have n_422 : sr_421 ≠ 0 := n_neq (a := sr_421) (b := 0) c_422 (by omega) (by decide)
        refine lv_aload hx hb dX11_lookAtCells_35 (lv_at hl 0 rfl) ?_
        refine hp_get hx hb hts ix3 hown hK hh (q := (107 + 2 * N_418)) rfl (hI.1 _ (by omega)) es421 rfl 2 (by decide) (hts _ tw_233) (fun _ h9 => h9) rfl dX11_lookAtCells_37 ?_
        refine lv_iload_n hx hb dX11_lookAtCells_40 rfl (lv_at hl 3 rfl) ?_
        refine lv_icmp_eq (tgt := 49) hx hb dX11_lookAtCells_41 (by decide) (fun c_425 => ?_) (fun c_425 => ?_)
        · refine lv_aload hx hb dX11_lookAtCells_49 (lv_at hl 0 rfl) ?_
          refine hp_get hx hb hts ix3 hown hK hh (q := (107 + 2 * N_418)) rfl (hI.1 _ (by omega)) es421 rfl 3 (by decide) (hts _ tw_235) (fun _ h9 => h9) rfl dX11_lookAtCells_51 ?_
          refine lv_if_ne (tgt := 62) hx hb dX11_lookAtCells_54 (by decide) (fun c_426 => ?_) (fun c_426 => ?_)
          · have n_426 : sr_421 ≠ 0 := n_neq (a := sr_421) (b := 0) c_426 (by omega) (by decide)
            refine lv_iload hx hb dX11_lookAtCells_62 (lv_at hl 5 rfl) ?_
            refine lv_if_ge (tgt := 72) hx hb dX11_lookAtCells_64 (by decide) (fun c_427 => ?_) (fun c_427 => ?_)
            · obtain ⟨N9, hN9, rfl⟩ := nat_of (Int32.not_lt.mpr c_427)
              refine lv_aload hx hb dX11_lookAtCells_72 (lv_at hl 0 rfl) ?_
              refine lv_iload_n hx hb dX11_lookAtCells_74 rfl (lv_at hl 4 rfl) ?_
              refine lv_iload hx hb dX11_lookAtCells_75 (lv_at hl 5 rfl) ?_
              refine hp_callRi (va_runV (As := [.int i, .int (nI N9)]) (rest := []) ⟨hx, hb, hml, hown, hts⟩ (c_X3_hasCells l D cy _ cs ad en hI N_418 (by omega) i N9 (by omega)) (kw_X3_hasCells hts tw_314 ⟨by decide, by decide⟩) (preV_of hh hK (hI.1 _ (by omega)) es421 rfl) rfl rfl hl.1 rfl (lv_room (Nat.le_of_ble_eq_true rfl)) dX11_lookAtCells_77 ⟨Nat.le_of_ble_eq_true rfl, Nat.le_of_ble_eq_true rfl⟩) hh hA (fun r_428 H locs hw_428 hh => ?_)
              rcases Decidable.em (hcP (rdI (en (107 + 2 * N_418)) 1) i N9) with hp_428 | hp_428
              · obtain rfl : r_428 = 1 := Eq.trans hw_428 (if_pos hp_428)
                refine lv_if_eq (tgt := 87) hx hb dX11_lookAtCells_80 (by decide) (fun c_0 => absurd c_0 (by decide)) (fun _ => ?_)
                refine lv_iconst (v := 1) hx hb dX11_lookAtCells_83 (by decide) ?_
                refine lv_goto (tgt := 91) hx hb dX11_lookAtCells_84 (by decide) ?_
                have hrd1 : rdI (en (107 + 2 * N_418)) 1 = nI sc_421 := by rw [es421]; rfl
                have hrd2 : rdI (en (107 + 2 * N_418)) 2 = sl_421 := by rw [es421]; rfl
                have hrd3 : rdI (en (107 + 2 * N_418)) 3 = nI sr_421 := by rw [es421]; rfl
                have hsr : ¬ nI sr_421 = 0 := nI_ne0 (by omega) (by omega)
                exact hp_iretR hx hb hr rfl hlocks hsz hh (by rw [nI_clamp (n := N_418) (by omega), hrd1, hrd2, hrd3]; unfold lookF; rw [if_pos hp_418, if_pos hp_419, if_neg (fun q => q.2 c_425), if_neg hsr, if_neg (Int32.not_lt.mpr c_427), nI_clamp (n := N9) hN9]; rw [hrd1] at hp_428; exact (if_pos hp_428).symm) dX11_lookAtCells_91
              · obtain rfl : r_428 = 0 := Eq.trans hw_428 (if_neg hp_428)
                refine lv_if_eq (tgt := 87) hx hb dX11_lookAtCells_80 (by decide) (fun _ => ?_) (fun c_0 => absurd c_0 (by decide))
                refine lv_iconst (v := 3) hx hb dX11_lookAtCells_87 (by decide) ?_
                refine hp_callRi (va_runS (As := [.int 3]) (rest := []) ⟨hx, hb, hml, hown, hts⟩ (c_X11_faultAnswer l D cy _ cs ad en 3) (kw_X11_faultAnswer hts tw_311 ⟨by decide, by decide⟩) (preS_of hh hK) rfl rfl hl.1 rfl (lv_room (Nat.le_of_ble_eq_true rfl)) dX11_lookAtCells_88 ⟨Nat.le_of_ble_eq_true rfl, Nat.le_of_ble_eq_true rfl⟩) hh hA (fun r_429 H locs hw_429 hh => ?_)
                obtain rfl : r_429 = (-13) := Eq.trans hw_429 (by decide)
                have hrd1 : rdI (en (107 + 2 * N_418)) 1 = nI sc_421 := by rw [es421]; rfl
                have hrd2 : rdI (en (107 + 2 * N_418)) 2 = sl_421 := by rw [es421]; rfl
                have hrd3 : rdI (en (107 + 2 * N_418)) 3 = nI sr_421 := by rw [es421]; rfl
                have hsr : ¬ nI sr_421 = 0 := nI_ne0 (by omega) (by omega)
                exact hp_iretR hx hb hr rfl hlocks hsz hh (by rw [nI_clamp (n := N_418) (by omega), hrd1, hrd2, hrd3]; unfold lookF; rw [if_pos hp_418, if_pos hp_419, if_neg (fun q => q.2 c_425), if_neg hsr, if_neg (Int32.not_lt.mpr c_427), nI_clamp (n := N9) hN9]; rw [hrd1] at hp_428; exact (if_neg hp_428).symm) dX11_lookAtCells_91
            · refine lv_iconst (v := 4) hx hb dX11_lookAtCells_67 (by decide) ?_
              refine hp_callRi (va_runS (As := [.int 4]) (rest := []) ⟨hx, hb, hml, hown, hts⟩ (c_X11_faultAnswer l D cy _ cs ad en 4) (kw_X11_faultAnswer hts tw_311 ⟨by decide, by decide⟩) (preS_of hh hK) rfl rfl hl.1 rfl (lv_room (Nat.le_of_ble_eq_true rfl)) dX11_lookAtCells_68 ⟨Nat.le_of_ble_eq_true rfl, Nat.le_of_ble_eq_true rfl⟩) hh hA (fun r_430 H locs hw_430 hh => ?_)
              obtain rfl : r_430 = (-14) := Eq.trans hw_430 (by decide)
              have hrd1 : rdI (en (107 + 2 * N_418)) 1 = nI sc_421 := by rw [es421]; rfl
              have hrd2 : rdI (en (107 + 2 * N_418)) 2 = sl_421 := by rw [es421]; rfl
              have hrd3 : rdI (en (107 + 2 * N_418)) 3 = nI sr_421 := by rw [es421]; rfl
              have hsr : ¬ nI sr_421 = 0 := nI_ne0 (by omega) (by omega)
              exact hp_iretR hx hb hr rfl hlocks hsz hh (by rw [nI_clamp (n := N_418) (by omega), hrd1, hrd2, hrd3]; unfold lookF; rw [if_pos hp_418, if_pos hp_419, if_neg (fun q => q.2 c_425), if_neg hsr, if_pos (Int32.not_le.mp c_427)]) dX11_lookAtCells_71
          · have n_426 : sr_421 = 0 := n_eq (a := sr_421) (b := 0) c_426 (by omega) (by decide)
            exact absurd n_426 (by omega)
        · refine lv_iconst (v := 2) hx hb dX11_lookAtCells_44 (by decide) ?_
          refine hp_callRi (va_runS (As := [.int 2]) (rest := []) ⟨hx, hb, hml, hown, hts⟩ (c_X11_faultAnswer l D cy _ cs ad en 2) (kw_X11_faultAnswer hts tw_311 ⟨by decide, by decide⟩) (preS_of hh hK) rfl rfl hl.1 rfl (lv_room (Nat.le_of_ble_eq_true rfl)) dX11_lookAtCells_45 ⟨Nat.le_of_ble_eq_true rfl, Nat.le_of_ble_eq_true rfl⟩) hh hA (fun r_431 H locs hw_431 hh => ?_)
          obtain rfl : r_431 = (-12) := Eq.trans hw_431 (by decide)
          have hrd1 : rdI (en (107 + 2 * N_418)) 1 = nI sc_421 := by rw [es421]; rfl
          have hrd2 : rdI (en (107 + 2 * N_418)) 2 = sl_421 := by rw [es421]; rfl
          have hrd3 : rdI (en (107 + 2 * N_418)) 3 = nI sr_421 := by rw [es421]; rfl
          have hsr : ¬ nI sr_421 = 0 := nI_ne0 (by omega) (by omega)
          exact hp_iretR hx hb hr rfl hlocks hsz hh (by rw [nI_clamp (n := N_418) (by omega), hrd1, hrd2, hrd3]; unfold lookF; rw [if_pos hp_418, if_pos hp_419, if_pos ⟨hsr, c_425⟩]) dX11_lookAtCells_48
    · obtain rfl : r_419 = 0 := Eq.trans hw_419 (if_neg hp_419)
      refine lv_if_ne (tgt := 19) hx hb dX11_lookAtCells_13 (by decide) (fun c_0 => absurd c_0 (by decide)) (fun _ => ?_)
      refine lv_bipush (v := (-2)) hx hb dX11_lookAtCells_16 (by decide) ?_
      exact hp_iretR hx hb hr rfl hlocks hsz hh (by unfold lookF; rw [if_pos hp_418, if_neg hp_419]) dX11_lookAtCells_18
  · obtain rfl : r_418 = 0 := Eq.trans hw_418 (if_neg hp_418)
    refine lv_if_ne (tgt := 9) hx hb dX11_lookAtCells_4 (by decide) (fun c_0 => absurd c_0 (by decide)) (fun _ => ?_)
    refine lv_iconst (v := (-1)) hx hb dX11_lookAtCells_7 (by decide) ?_
    exact hp_iretR hx hb hr rfl hlocks hsz hh (by unfold lookF; rw [if_neg hp_418]) dX11_lookAtCells_8
theorem kw_X11_lookAtCells {R : Room} {s : State} {args : Array Value} {own : String} {idx : Nat} (hts : ∀ w ∈ TB, w.before args s = true) (hl : Cond.methodLink own idx yX11_lookAtCells ∈ TB) (hR : 2 + 1 ≤ R.frames ∧ 8 + (6 + 11) + 40 * 2 ≤ R.locals) : CallW R s args own RX11 idx yX11_lookAtCells cX11_lookAtCells 6 (some .int) (Cond.code yX11_lookAtCells cX11_lookAtCells 6 (some .int) :: TB) (rmN 2) 0 0 4 := cwV 4 hts (TB_V hl tw_303 ts_2 tw_1 tw_304) rfl rfl rfl (by decide +kernel) hR
