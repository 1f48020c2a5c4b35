set_option maxHeartbeats 4000000 in
set_option maxRecDepth 100000 in
/-- clear -/
theorem c_X10_clear (l : Launch) (D : va_G) (cy : Nat → ClassId) (sz : Nat) (cs : List Nat) (ad : Nat → Nat) (en : Nat → va_E) (hI : SX cy cs ad en) (w : Nat) (hw10 : w < 10)   : Met l yX10_clear (Cond.code yX10_clear cX10_clear 1 none :: TB) (rmN 0) (va_Pc [.ref (ad (77 + 3 * w))] (Pre D cy cs ad en sz)) (va_Qv (S := Nat → va_E) (fun en1 => SX cy cs ad en1 ∧ (∀ c, (c ≠ 77 + 3 * w) → en1 c = en c) ∧ rdI (en1 (77 + 3 * w)) 2 = nI 0) (PostM D cs ad) (Af cs ad sz)) 0 0 (Af cs ad sz) := by
  refine Met.ofW (cc := cX10_clear) (maxL := 1) (ret := none) (by decide) rfl ?_
  intro p e s m args below meth c s₁ B hml hv
  obtain ⟨rfl, hsz, hP, hK, hD0⟩ := hv
  have hx := B.exec
  have hb := B.bytes
  have hr := B.returns
  have hts : ∀ w ∈ TB, w.before _ s = true := fun w h => atoms_spec (ws := _ :: TB) B.pre w (List.mem_cons_of_mem _ h)
  have hown : s.vm.findClass RX10 = some m.cls := findClass_of_methodNamed B.named
  have hlocks := B.notSynchronized
  have hh : Hp D (Af cs ad sz) (Af cs ad sz) s.heap s.heap [] cs ad en := ⟨hP, Af_self hD0, va_S.rf⟩
  have hA : ∀ q : Nat, s.heap.size ≤ q → Af cs ad sz q := fun q h => Or.inr (by rw [hsz] at h; exact h)
  have hl := lv_entry ([.ref (ad (77 + 3 * w))]) (n := 1) (Nat.le_of_ble_eq_true rfl)
  rw [lg_entry_eq]
  generalize (lg_sl ([.ref (ad (77 + 3 * w))]) ++ List.replicate (1 - (lg_sl ([.ref (ad (77 + 3 * w))])).length) Slot.unset).toArray = ls at hl ⊢
  have hl : lv_has ls 1 [(0, .ref (ad (77 + 3 * w)))] := hl
  have hf0 : ∀ c, (c ≠ 77 + 3 * w) → en c = en c := fun _ _ => rfl
  refine lv_aload_n hx hb dX10_clear_0 rfl (lv_at hl 0 rfl) ?_
  refine lv_iconst (v := 0) hx hb dX10_clear_1 (by decide) ?_
  obtain ⟨lc_481, es481, p0_481⟩ := get_wo hI (j := w) (by omega)
  refine hp_put hx hb hts ix10 tyX10 tyX10_ok nmX10 hown hK hh (q := (77 + 3 * w)) rfl (hI.1 _ (by omega)) es481 rfl 2 (by decide) (hts _ tw_215) (fun _ h9 => h9) rfl (ty := .int) (by decide +kernel) rfl rfl (Nat.le_of_ble_eq_true rfl) dX10_clear_2 (fun H locs en_482 hen_482 hh => ?_)
  have es481_482 : en_482 (77 + 3 * w) = .inr (9, [.ref (ad (78 + 3 * w)), .ref (ad (79 + 3 * w)), .int 0]) := by rw [hen_482]; exact va_up_self _ _ _
  have hI_482 : SX cy cs ad en_482 := by rw [hen_482]; exact up_wo hI (j := w) (by omega) ⟨0, rfl, (by omega)⟩
  have hf_482 : ∀ c, (c ≠ 77 + 3 * w) → en_482 c = en c := fun c hc => Eq.trans (show en_482 c = en c from by rw [hen_482, va_up_ne _ _ (by omega)]) (hf0 c hc)
  exact hp_vretM hx hb hr hlocks hh (⟨hI_482, hf_482, (by rw [es481_482]; rfl)⟩) dX10_clear_5
theorem kw_X10_clear {R : Room} {s : State} {args : Array Value} {own : String} {idx : Nat} (hts : ∀ w ∈ TB, w.before args s = true) (hl : Cond.methodLink own idx yX10_clear ∈ TB) (hR : 0 + 1 ≤ R.frames ∧ 8 + (1 + 11) + 40 * 0 ≤ R.locals) : CallW R s args own RX10 idx yX10_clear cX10_clear 1 none (Cond.code yX10_clear cX10_clear 1 none :: TB) (rmN 0) 0 0 0 := cwV 0 hts (TB_V hl tw_682 tw_683 tw_7 tw_684) rfl rfl rfl (by decide +kernel) hR
set_option maxHeartbeats 4000000 in
set_option maxRecDepth 100000 in
/-- append -/
theorem c_X10_append (l : Launch) (D : va_G) (cy : Nat → ClassId) (sz : Nat) (cs : List Nat) (ad : Nat → Nat) (en : Nat → va_E) (hI : SX cy cs ad en) (w : Nat) (hw10 : w < 10) (le lc : Nat) (hle : le < 6) (hlc12 : lc < 12) (hlc : rdI (en (77 + 3 * w)) 2 = nI lc)   : Met l yX10_append (Cond.code yX10_append cX10_append 2 none :: TB) (rmN 0) (va_Pc [.ref (ad (77 + 3 * w)), .int (nI le)] (Pre D cy cs ad en sz)) (va_Qv (S := Nat → va_E) (fun en1 => SX cy cs ad en1 ∧ (∀ c, (c ≠ 77 + 3 * w ∧ c ≠ 78 + 3 * w) → en1 c = en c) ∧ rdI (en1 (77 + 3 * w)) 2 = nI (lc + 1) ∧ (∀ x, rdF (en1 (78 + 3 * w)) x = if x = lc then nI le else rdF (en (78 + 3 * w)) x)) (PostM D cs ad) (Af cs ad sz)) 0 0 (Af cs ad sz) := by
  refine Met.ofW (cc := cX10_append) (maxL := 2) (ret := none) (by decide) rfl ?_
  intro p e s m args below meth c s₁ B hml hv
  obtain ⟨rfl, hsz, hP, hK, hD0⟩ := hv
  have hx := B.exec
  have hb := B.bytes
  have hr := B.returns
  have hts : ∀ w ∈ TB, w.before _ s = true := fun w h => atoms_spec (ws := _ :: TB) B.pre w (List.mem_cons_of_mem _ h)
  have hown : s.vm.findClass RX10 = some m.cls := findClass_of_methodNamed B.named
  have hlocks := B.notSynchronized
  have hh : Hp D (Af cs ad sz) (Af cs ad sz) s.heap s.heap [] cs ad en := ⟨hP, Af_self hD0, va_S.rf⟩
  have hA : ∀ q : Nat, s.heap.size ≤ q → Af cs ad sz q := fun q h => Or.inr (by rw [hsz] at h; exact h)
  have hl := lv_entry ([.ref (ad (77 + 3 * w)), .int (nI le)]) (n := 2) (Nat.le_of_ble_eq_true rfl)
  rw [lg_entry_eq]
  generalize (lg_sl ([.ref (ad (77 + 3 * w)), .int (nI le)]) ++ List.replicate (2 - (lg_sl ([.ref (ad (77 + 3 * w)), .int (nI le)])).length) Slot.unset).toArray = ls at hl ⊢
  have hl : lv_has ls 2 [(0, .ref (ad (77 + 3 * w))), (1, .int (nI le))] := hl
  have hf0 : ∀ c, (c ≠ 77 + 3 * w ∧ c ≠ 78 + 3 * w) → en c = en c := fun _ _ => rfl
  obtain ⟨lc_483, es483, p0_483⟩ := get_wo hI (j := w) (by omega)
  obtain ⟨f_484, es484, p0_484⟩ := get_wol hI (j := w) (by omega)
  have hlc9 : lc_483 = lc := n_eq (Eq.trans (show nI lc_483 = rdI (en (77 + 3 * w)) 2 from by rw [es483]; rfl) hlc) (by omega) (by omega)
  subst hlc9
  refine lv_aload_n hx hb dX10_append_0 rfl (lv_at hl 0 rfl) ?_
  refine hp_get hx hb hts ix10 hown hK hh (q := (77 + 3 * w)) rfl (hI.1 _ (by omega)) es483 rfl 2 (by decide) (hts _ tw_215) (fun _ h9 => h9) rfl dX10_append_1 ?_
  refine lv_bipush (v := 12) hx hb dX10_append_4 (by decide) ?_
  refine lv_icmp_ge (tgt := 29) hx hb dX10_append_6 (by decide) (fun c_485 => ?_) (fun c_485 => ?_)
  · have n_485 : 12 ≤ lc_483 := n_le (a := 12) (b := lc_483) c_485 (by decide) (by omega)
    exact absurd n_485 (by omega)
  · have n_485 : lc_483 < 12 := n_nle (a := 12) (b := lc_483) c_485 (by decide) (by omega)
    refine lv_aload_n hx hb dX10_append_9 rfl (lv_at hl 0 rfl) ?_
    refine hp_get hx hb hts ix10 hown hK hh (q := (77 + 3 * w)) rfl (hI.1 _ (by omega)) es483 rfl 0 (by decide) (hts _ tw_211) (fun _ h9 => h9) rfl dX10_append_10 ?_
    refine lv_aload_n hx hb dX10_append_13 rfl (lv_at hl 0 rfl) ?_
    refine hp_get hx hb hts ix10 hown hK hh (q := (77 + 3 * w)) rfl (hI.1 _ (by omega)) es483 rfl 2 (by decide) (hts _ tw_215) (fun _ h9 => h9) rfl dX10_append_14 ?_
    refine lv_iload_n hx hb dX10_append_17 rfl (lv_at hl 1 rfl) ?_
    refine hp_iast hx hb hK hh (q := (78 + 3 * w)) rfl (hI.1 _ (by omega)) es484 (vp_in_nI (n := lc_483) (by omega) (by decide)) dX10_append_18 (fun H locs en_486 hen_486 hh => ?_)
    rw [nI_clamp (n := lc_483) (by omega)] at hen_486
    have es483_486 : en_486 (77 + 3 * w) = .inr (9, [.ref (ad (78 + 3 * w)), .ref (ad (79 + 3 * w)), .int (nI lc_483)]) := by rw [hen_486, va_up_ne _ _ (by omega)]; exact es483
    have es484_486 : en_486 (78 + 3 * w) = .inl (cy 0, 12, .inl (upd f_484 lc_483 (nI le))) := by rw [hen_486]; exact va_up_self _ _ _
    have hI_486 : SX cy cs ad en_486 := by rw [hen_486]; exact up_wol hI (j := w) (by omega) ⟨(upd f_484 lc_483 (nI le)), rfl, (vals_upd p0_484 hle)⟩
    have hf_486 : ∀ c, (c ≠ 77 + 3 * w ∧ c ≠ 78 + 3 * w) → en_486 c = en c := fun c hc => Eq.trans (show en_486 c = en c from by rw [hen_486, va_up_ne _ _ (by omega)]) (hf0 c hc)
    refine lv_aload_n hx hb dX10_append_19 rfl (lv_at hl 0 rfl) ?_
    refine lv_dup hx hb dX10_append_20 rfl ?_
    refine hp_get hx hb hts ix10 hown hK hh (q := (77 + 3 * w)) rfl (hI.1 _ (by omega)) es483_486 rfl 2 (by decide) (hts _ tw_215) (fun _ h9 => h9) rfl dX10_append_21 ?_
    refine lv_iconst (v := 1) hx hb dX10_append_24 (by decide) ?_
    refine lv_iadd hx hb dX10_append_25 ?_
    rw [show (1 : Int32) = nI 1 from rfl, nI_add lc_483 1]
    refine hp_put hx hb hts ix10 tyX10 tyX10_ok nmX10 hown hK hh (q := (77 + 3 * w)) rfl (hI.1 _ (by omega)) es483_486 rfl 2 (by decide) (hts _ tw_215) (fun _ h9 => h9) rfl (ty := .int) (by decide +kernel) rfl rfl (Nat.le_of_ble_eq_true rfl) dX10_append_26 (fun H locs en_487 hen_487 hh => ?_)
    have es484_487 : en_487 (78 + 3 * w) = .inl (cy 0, 12, .inl (upd f_484 lc_483 (nI le))) := by rw [hen_487, va_up_ne _ _ (by omega)]; exact es484_486
    have es483_487 : en_487 (77 + 3 * w) = .inr (9, [.ref (ad (78 + 3 * w)), .ref (ad (79 + 3 * w)), .int (nI (lc_483 + 1))]) := by rw [hen_487]; exact va_up_self _ _ _
    have hI_487 : SX cy cs ad en_487 := by rw [hen_487]; exact up_wo hI_486 (j := w) (by omega) ⟨(lc_483 + 1), rfl, (by omega)⟩
    have hf_487 : ∀ c, (c ≠ 77 + 3 * w ∧ c ≠ 78 + 3 * w) → en_487 c = en c := fun c hc => Eq.trans (show en_487 c = en_486 c from by rw [hen_487, va_up_ne _ _ (by omega)]) (hf_486 c hc)
    exact hp_vretM hx hb hr hlocks hh (⟨hI_487, hf_487, (by rw [es483_487]; rfl), (fun x => by rw [es484_487, show rdF (en (78 + 3 * w)) = f_484 from by rw [es484]; rfl]; show upd f_484 lc_483 (nI le) x = _; by_cases e : x = lc_483; rw [e, pk_us, if_pos rfl]; rw [pk_un e, if_neg e])⟩) dX10_append_29
theorem kw_X10_append {R : Room} {s : State} {args : Array Value} {own : String} {idx : Nat} (hts : ∀ w ∈ TB, w.before args s = true) (hl : Cond.methodLink own idx yX10_append ∈ TB) (hR : 0 + 1 ≤ R.frames ∧ 8 + (2 + 11) + 40 * 0 ≤ R.locals) : CallW R s args own RX10 idx yX10_append cX10_append 2 none (Cond.code yX10_append cX10_append 2 none :: TB) (rmN 0) 0 0 1 := cwV 1 hts (TB_V hl tw_686 tw_687 tw_7 tw_688) rfl rfl rfl (by decide +kernel) hR
set_option maxHeartbeats 4000000 in
set_option maxRecDepth 100000 in
/-- appendAll -/
theorem c_X10_appendAll (l : Launch) (D : va_G) (cy : Nat → ClassId) (sz : Nat) (cs : List Nat) (ad : Nat → Nat) (en : Nat → va_E) (hI : SX cy cs ad en) (w : Nat) (hw10 : w < 10) (v L0 L1 : Nat) (hv10 : v < 10) (hvw : v ≠ w) (hL : L0 + L1 ≤ 12) (hL0 : rdI (en (77 + 3 * w)) 2 = nI L0) (hL1 : rdI (en (77 + 3 * v)) 2 = nI L1)   : Met l yX10_appendAll (Cond.code yX10_appendAll cX10_appendAll 3 none :: TB) (rmN 1) (va_Pc [.ref (ad (77 + 3 * w)), .ref (ad (77 + 3 * v))] (Pre D cy cs ad en sz)) (va_Qv (S := Nat → va_E) (fun en1 => SX cy cs ad en1 ∧ (∀ c, (c ≠ 77 + 3 * w ∧ c ≠ 78 + 3 * w) → en1 c = en c) ∧ rdI (en1 (77 + 3 * w)) 2 = nI (L0 + L1) ∧ (∀ x, x < L0 → rdF (en1 (78 + 3 * w)) x = rdF (en (78 + 3 * w)) x) ∧ (∀ x, x < L1 → rdF (en1 (78 + 3 * w)) (L0 + x) = rdF (en (78 + 3 * v)) x)) (PostM D cs ad) (Af cs ad sz)) 0 0 (Af cs ad sz) := by
  refine Met.ofW (cc := cX10_appendAll) (maxL := 3) (ret := none) (by decide) rfl ?_
  intro p e s m args below meth c s₁ B hml hv
  obtain ⟨rfl, hsz, hP, hK, hD0⟩ := hv
  have hx := B.exec
  have hb := B.bytes
  have hr := B.returns
  have hts : ∀ w ∈ TB, w.before _ s = true := fun w h => atoms_spec (ws := _ :: TB) B.pre w (List.mem_cons_of_mem _ h)
  have hown : s.vm.findClass RX10 = some m.cls := findClass_of_methodNamed B.named
  have hlocks := B.notSynchronized
  have hh : Hp D (Af cs ad sz) (Af cs ad sz) s.heap s.heap [] cs ad en := ⟨hP, Af_self hD0, va_S.rf⟩
  have hA : ∀ q : Nat, s.heap.size ≤ q → Af cs ad sz q := fun q h => Or.inr (by rw [hsz] at h; exact h)
  have hl := lv_entry ([.ref (ad (77 + 3 * w)), .ref (ad (77 + 3 * v))]) (n := 3) (Nat.le_of_ble_eq_true rfl)
  rw [lg_entry_eq]
  generalize (lg_sl ([.ref (ad (77 + 3 * w)), .ref (ad (77 + 3 * v))]) ++ List.replicate (3 - (lg_sl ([.ref (ad (77 + 3 * w)), .ref (ad (77 + 3 * v))])).length) Slot.unset).toArray = ls at hl ⊢
  have hl : lv_has ls 3 [(0, .ref (ad (77 + 3 * w))), (1, .ref (ad (77 + 3 * v)))] := hl
  have hf0 : ∀ c, (c ≠ 77 + 3 * w ∧ c ≠ 78 + 3 * w) → en c = en c := fun _ _ => rfl
  obtain ⟨lc_488, es488, p0_488⟩ := get_wo hI (j := v) (by omega)
  obtain ⟨f_489, es489, p0_489⟩ := get_wol hI (j := v) (by omega)
  have hL9 : lc_488 = L1 := n_eq (Eq.trans (show nI lc_488 = rdI (en (77 + 3 * v)) 2 from by rw [es488]; rfl) hL1) (by omega) (by omega)
  refine lv_iconst (v := 0) hx hb dX10_appendAll_0 (by decide) ?_
  refine lv_istore_n (lv' := [(2, .int 0), (0, .ref (ad (77 + 3 * w))), (1, .ref (ad (77 + 3 * v)))]) hx hb dX10_appendAll_1 rfl hl (by decide) rfl (fun ls hl => ?_)
  have loop_490 : ∀ (fu j490 : Nat)  (en_490 : Nat → va_E) (ls : Array Slot) (H : Heap) (locs : List Loc), 0 ≤ j490 → j490 ≤ L1 → L1 < j490 + fu → SX cy cs ad en_490 → (∀ c, (c ≠ 77 + 3 * w ∧ c ≠ 78 + 3 * w) → en_490 c = en c) → (rdI (en_490 (77 + 3 * w)) 2 = nI (L0 + j490) ∧ (∀ x, x < L0 → rdF (en_490 (78 + 3 * w)) x = rdF (en (78 + 3 * w)) x) ∧ (∀ x, x < j490 → rdF (en_490 (78 + 3 * w)) (L0 + x) = rdF (en (78 + 3 * v)) x)) → lv_has ls 3 [(2, .int (nI j490)), (0, .ref (ad (77 + 3 * w))), (1, .ref (ad (77 + 3 * v)))] → Hp D (Af cs ad sz) (Af cs ad sz) s.heap H locs cs ad en_490 → W p l e (headSpec (Cond.code yX10_appendAll cX10_appendAll 3 none :: TB) (rmN 1)).room s m ([.ref (ad (77 + 3 * w)), .ref (ad (77 + 3 * v))] : List Value).toArray below meth c H locs 0 0 (MQ below (va_Qv (S := Nat → va_E) (fun en1 => SX cy cs ad en1 ∧ (∀ c, (c ≠ 77 + 3 * w ∧ c ≠ 78 + 3 * w) → en1 c = en c) ∧ rdI (en1 (77 + 3 * w)) 2 = nI (L0 + L1) ∧ (∀ x, x < L0 → rdF (en1 (78 + 3 * w)) x = rdF (en (78 + 3 * w)) x) ∧ (∀ x, x < L1 → rdF (en1 (78 + 3 * w)) (L0 + x) = rdF (en (78 + 3 * v)) x)) (PostM D cs ad) (Af cs ad sz)) ([.ref (ad (77 + 3 * w)), .ref (ad (77 + 3 * v))] : List Value).toArray s 0 0 (Af cs ad sz)) (F0 m 2 ls []) := by
    intro fu
    induction fu with
    | zero => intro j490  en_490 ls H locs h0 h1 h2; exact absurd h2 (by omega)
    | succ fu ih_490 =>
      intro j490  en_490 ls H locs hj0_490 hj_490 hfu_490 hI_490 hf_490 i0_490 hl hh
      have es488_491 : en_490 (77 + 3 * v) = .inr (9, [.ref (ad (78 + 3 * v)), .ref (ad (79 + 3 * v)), .int (nI lc_488)]) := (hf_490 (77 + 3 * v) (by omega)).trans es488
      have es489_492 : en_490 (78 + 3 * v) = .inl (cy 0, 12, .inl f_489) := (hf_490 (78 + 3 * v) (by omega)).trans es489
      refine lv_iload_n hx hb dX10_appendAll_2 rfl (lv_at hl 0 rfl) ?_
      refine lv_aload_n hx hb dX10_appendAll_3 rfl (lv_at hl 2 rfl) ?_
      refine hp_get hx hb hts ix10 hown hK hh (q := (77 + 3 * v)) rfl (hI.1 _ (by omega)) es488_491 rfl 2 (by decide) (hts _ tw_215) (fun _ h9 => h9) rfl dX10_appendAll_4 ?_
      refine lv_icmp_ge (tgt := 26) hx hb dX10_appendAll_7 (by decide) (fun c_493 => ?_) (fun c_493 => ?_)
      · have n_493 : lc_488 ≤ j490 := n_le (a := lc_488) (b := j490) c_493 (by omega) (by omega)
        exact hp_vretM hx hb hr hlocks hh (⟨hI_490, hf_490, (by have e : j490 = L1 := (by omega); subst e; exact i0_490)⟩) dX10_appendAll_26
      · have n_493 : j490 < lc_488 := n_nle (a := lc_488) (b := j490) c_493 (by omega) (by omega)
        refine lv_aload_n hx hb dX10_appendAll_10 rfl (lv_at hl 1 rfl) ?_
        refine lv_aload_n hx hb dX10_appendAll_11 rfl (lv_at hl 2 rfl) ?_
        refine hp_get hx hb hts ix10 hown hK hh (q := (77 + 3 * v)) rfl (hI.1 _ (by omega)) es488_491 rfl 0 (by decide) (hts _ tw_211) (fun _ h9 => h9) rfl dX10_appendAll_12 ?_
        refine lv_iload_n hx hb dX10_appendAll_15 rfl (lv_at hl 0 rfl) ?_
        refine hp_iald hx hb hK hh (q := (78 + 3 * v)) rfl (hI.1 _ (by omega)) es489_492 (vp_in_nI (n := j490) (by omega) (by decide)) dX10_appendAll_16 ?_
        rw [nI_clamp (n := j490) (by omega)]
        obtain ⟨v_494, hv_494, hfv_494⟩ := p0_489 j490 (by omega)
        rw [hfv_494]
        obtain ⟨lc_495, es495, p0_495⟩ := get_wo hI_490 (j := w) (by omega)
        refine hp_callMv (va_runV (As := [.int (nI v_494)]) (rest := []) ⟨hx, hb, hml, hown, hts⟩ (c_X10_append l D cy _ cs ad en_490 hI_490 w (by omega) v_494 (L0 + j490) (by omega) (by omega) i0_490.1) (kw_X10_append hts tw_711 ⟨by decide, by decide⟩) (preV_of hh hK (hI.1 _ (by omega)) es495 rfl) rfl rfl hl.1 rfl (lv_room (Nat.le_of_ble_eq_true rfl)) dX10_appendAll_17 ⟨Nat.le_of_ble_eq_true rfl, Nat.le_of_ble_eq_true rfl⟩) hh hA (fun H locs en_496 hw_496 hh => ?_)
        obtain ⟨hI_496, hu_496, hx_496⟩ := hw_496
        have hf_496 : ∀ c, (c ≠ 77 + 3 * w ∧ c ≠ 78 + 3 * w) → en_496 c = en c := fun c hc => (hu_496 c (by omega)).trans (hf_490 c hc)
        refine lv_iinc (v := (nI (j490 + 1))) (lv' := [(2, .int (nI (j490 + 1))), (0, .ref (ad (77 + 3 * w))), (1, .ref (ad (77 + 3 * v)))]) hx hb dX10_appendAll_20 hl (k := 0) rfl (nI_1 _) (by decide) rfl (fun ls hl => ?_)
        refine lv_goto (tgt := 2) hx hb dX10_appendAll_23 (by decide) ?_
        exact ih_490 ((j490 + 1))  en_496 ls H locs (by omega) (by omega) (by omega) hI_496 hf_496 (⟨hx_496.1, fun x hx9 => by rw [hx_496.2, if_neg (by omega)]; exact i0_490.2.1 x hx9, fun x hx9 => by rw [hx_496.2]; by_cases e : x = j490; rw [e, if_pos rfl, show rdF (en (78 + 3 * v)) = f_489 from by rw [es489]; rfl, hfv_494]; rw [if_neg (by omega)]; exact i0_490.2.2 x (by omega)⟩) (lv_sub hl [0, 1, 2] rfl) hh
  exact loop_490 (L1 + 1) 0  en ls _ _ (Nat.le_refl _) (by omega) (by omega) hI hf0 (⟨hL0, fun _ _ => rfl, fun x h => absurd h (Nat.not_lt_zero x)⟩) (lv_sub hl [0, 1, 2] rfl) hh
theorem kw_X10_appendAll {R : Room} {s : State} {args : Array Value} {own : String} {idx : Nat} (hts : ∀ w ∈ TB, w.before args s = true) (hl : Cond.methodLink own idx yX10_appendAll ∈ TB) (hR : 1 + 1 ≤ R.frames ∧ 8 + (3 + 11) + 40 * 1 ≤ R.locals) : CallW R s args own RX10 idx yX10_appendAll cX10_appendAll 3 none (Cond.code yX10_appendAll cX10_appendAll 3 none :: TB) (rmN 1) 0 0 1 := cwV 1 hts (TB_V hl tw_708 tw_709 tw_7 tw_710) rfl rfl rfl (by decide +kernel) hR
set_option maxHeartbeats 4000000 in
set_option maxRecDepth 100000 in
/-- hasWord -/
theorem c_X11_hasWord (l : Launch) (D : va_G) (cy : Nat → ClassId) (sz : Nat) (cs : List Nat) (ad : Nat → Nat) (en : Nat → va_E) (hI : SX cy cs ad en) (w : Int32)   : Met l yX11_hasWord (Cond.code yX11_hasWord cX11_hasWord 2 (some .boolean) :: TB) (rmN 1) (va_Pc [.ref (ad 0), .int w] (Pre D cy cs ad en sz)) (va_Qi (S := Unit) (fun r _ => r = if wi w 0 (rdI (en 0) 6 - 1) then 1 else 0) (fun _ _ => True) (Nf sz)) 0 0 (Nf sz) := by
  refine Met.ofW (cc := cX11_hasWord) (maxL := 2) (ret := (some .boolean)) (by decide) rfl ?_
  intro p e s m args below meth c s₁ B hml hv
  obtain ⟨rfl, hsz, hP, hK, hD0⟩ := hv
  have hx := B.exec
  have hb := B.bytes
  have hr := B.returns
  have hts : ∀ w ∈ TB, w.before _ s = true := fun w h => atoms_spec (ws := _ :: TB) B.pre w (List.mem_cons_of_mem _ h)
  have hown : s.vm.findClass RX11 = some m.cls := findClass_of_methodNamed B.named
  have hlocks := B.notSynchronized
  have hh : Hp D (Nf sz) (fun _ => True) s.heap s.heap [] cs ad en := ⟨hP, hD0, va_S.rf⟩
  have hA : ∀ q : Nat, s.heap.size ≤ q → Nf sz q := fun q h => by rw [hsz] at h; exact h
  have hl := lv_entry ([.ref (ad 0), .int w]) (n := 2) (Nat.le_of_ble_eq_true rfl)
  rw [lg_entry_eq]
  generalize (lg_sl ([.ref (ad 0), .int w]) ++ List.replicate (2 - (lg_sl ([.ref (ad 0), .int w])).length) Slot.unset).toArray = ls at hl ⊢
  have hl : lv_has ls 2 [(0, .ref (ad 0)), (1, .int w)] := hl
  obtain ⟨wc_497, lf_497, es497, p0_497⟩ := get_A hI
  refine lv_iload_n hx hb dX11_hasWord_0 rfl (lv_at hl 1 rfl) ?_
  refine lv_iconst (v := 0) hx hb dX11_hasWord_1 (by decide) ?_
  refine lv_aload_n hx hb dX11_hasWord_2 rfl (lv_at hl 0 rfl) ?_
  refine hp_get hx hb hts ix11 hown hK hh (q := 0) rfl (hI.1 _ (by decide)) es497 rfl 6 (by decide) (hts _ tw_251) (fun _ h9 => h9) rfl dX11_hasWord_3 ?_
  refine lv_iconst (v := 1) hx hb dX11_hasWord_6 (by decide) ?_
  refine lv_isub hx hb dX11_hasWord_7 ?_
  refine hp_callRi (va_runS (As := [.int w, .int 0, .int ((nI wc_497) - 1)]) (rest := []) ⟨hx, hb, hml, hown, hts⟩ (c_X11_isWithin l D cy _ cs ad en w 0 ((nI wc_497) - 1)) (kw_X11_isWithin hts tw_274 ⟨by decide, by decide⟩) (preS_of hh hK) rfl rfl hl.1 rfl (lv_room (Nat.le_of_ble_eq_true rfl)) dX11_hasWord_8 ⟨Nat.le_of_ble_eq_true rfl, Nat.le_of_ble_eq_true rfl⟩) hh hA (fun r_498 H locs hw_498 hh => ?_)
  exact hp_iretR hx hb hr (nar_bit (by rw [hw_498]; rcases Decidable.em (wi w 0 ((nI wc_497) - 1)) with h | h; exact Or.inr (if_pos h); exact Or.inl (if_neg h))) hlocks hsz hh ((by rw [show rdI (en 0) 6 = (nI wc_497) from by rw [es497]; rfl]; exact hw_498)) dX11_hasWord_11
theorem kw_X11_hasWord {R : Room} {s : State} {args : Array Value} {own : String} {idx : Nat} (hts : ∀ w ∈ TB, w.before args s = true) (hl : Cond.methodLink own idx yX11_hasWord ∈ TB) (hR : 1 + 1 ≤ R.frames ∧ 8 + (2 + 11) + 40 * 1 ≤ R.locals) : CallW R s args own RX11 idx yX11_hasWord cX11_hasWord 2 (some .boolean) (Cond.code yX11_hasWord cX11_hasWord 2 (some .boolean) :: TB) (rmN 1) 0 0 1 := cwV 1 hts (TB_V hl tw_705 ts_26 tw_1 tw_706) rfl rfl rfl (by decide +kernel) hR
set_option maxHeartbeats 4000000 in
set_option maxRecDepth 100000 in
/-- finishWord -/
theorem c_X11_finishWord (l : Launch) (D : va_G) (cy : Nat → ClassId) (sz : Nat) (cs : List Nat) (ad : Nat → Nat) (en : Nat → va_E) (hI : SX cy cs ad en) (wc : Nat) (hwc : wc < 10) (h0 : rdI (en 0) 6 = nI wc) (hlc : 1 ≤ (rdI (en (77 + 3 * wc)) 2).toInt)   : Met l yX11_finishWord (Cond.code yX11_finishWord cX11_finishWord 2 (some .int) :: TB) (rmN 3) (va_Pc [.ref (ad 0)] (Pre D cy cs ad en sz)) (va_Qi (S := Nat → va_E) (fun r en1 => SX cy cs ad en1 ∧ (∀ c, (c ≠ 0 ∧ c ≠ 11 ∧ c ≠ 79 + 3 * wc) → en1 c = en c) ∧ r = nI wc ∧ rdI (en1 0) 6 = nI (wc + 1) ∧ PRW en en1 wc) (PostM D cs ad) (Af cs ad sz)) 0 0 (Af cs ad sz) := by
  refine Met.ofW (cc := cX11_finishWord) (maxL := 2) (ret := (some .int)) (by decide) rfl ?_
  intro p e s m args below meth c s₁ B hml hv
  obtain ⟨rfl, hsz, hP, hK, hD0⟩ := hv
  have hx := B.exec
  have hb := B.bytes
  have hr := B.returns
  have hts : ∀ w ∈ TB, w.before _ s = true := fun w h => atoms_spec (ws := _ :: TB) B.pre w (List.mem_cons_of_mem _ h)
  have hown : s.vm.findClass RX11 = some m.cls := findClass_of_methodNamed B.named
  have hlocks := B.notSynchronized
  have hh : Hp D (Af cs ad sz) (Af cs ad sz) s.heap s.heap [] cs ad en := ⟨hP, Af_self hD0, va_S.rf⟩
  have hA : ∀ q : Nat, s.heap.size ≤ q → Af cs ad sz q := fun q h => Or.inr (by rw [hsz] at h; exact h)
  have hl := lv_entry ([.ref (ad 0)]) (n := 2) (Nat.le_of_ble_eq_true rfl)
  rw [lg_entry_eq]
  generalize (lg_sl ([.ref (ad 0)]) ++ List.replicate (2 - (lg_sl ([.ref (ad 0)])).length) Slot.unset).toArray = ls at hl ⊢
  have hl : lv_has ls 2 [(0, .ref (ad 0))] := hl
  have hf0 : ∀ c, (c ≠ 0 ∧ c ≠ 11 ∧ c ≠ 79 + 3 * wc) → en c = en c := fun _ _ => rfl
  obtain ⟨wc_499, lf_499, es499, p0_499⟩ := get_A hI
  obtain ⟨cnt, d, mm, es500, hcnt, hd2, hd3, hmm⟩ := get_T hI
  have hwc9 : wc_499 = wc := n_eq (Eq.trans (show nI wc_499 = rdI (en 0) 6 from by rw [es499]; rfl) h0) (by omega) (by omega)
  rw [hwc9] at es499
  refine lv_aload_n hx hb dX11_finishWord_0 rfl (lv_at hl 0 rfl) ?_
  refine hp_get hx hb hts ix11 hown hK hh (q := 0) rfl (hI.1 _ (by decide)) es499 rfl 3 (by decide) (hts _ tw_248) (fun _ h9 => h9) rfl dX11_finishWord_1 ?_
  refine lv_aload_n hx hb dX11_finishWord_4 rfl (lv_at hl 0 rfl) ?_
  refine hp_get hx hb hts ix11 hown hK hh (q := 0) rfl (hI.1 _ (by decide)) es499 rfl 6 (by decide) (hts _ tw_251) (fun _ h9 => h9) rfl dX11_finishWord_5 ?_
  have es501 := get_wos hI
  unfold P_wos at es501
  refine hp_aald hx hb hK hh (q := 74) rfl (hI.1 _ (by decide)) 5 es501 rfl rfl (vp_in_nI (n := wc) (by omega) (by decide)) (v := .ref (ad (77 + 3 * wc))) (by rw [nI_clamp (n := wc) (by omega)]; exact rfB_v (by omega)) dX11_finishWord_8 ?_
  refine lv_astore_n (lv' := [(1, .ref (ad (77 + 3 * wc))), (0, .ref (ad 0))]) hx hb dX11_finishWord_9 rfl hl (by decide) rfl (fun ls hl => ?_)
  refine lv_aload_n hx hb dX11_finishWord_10 rfl (lv_at hl 1 rfl) ?_
  refine hp_get hx hb hts ix11 hown hK hh (q := 0) rfl (hI.1 _ (by decide)) es499 rfl 0 (by decide) (hts _ tw_245) (fun _ h9 => h9) rfl dX11_finishWord_11 ?_
  refine lv_aload_n hx hb dX11_finishWord_14 rfl (lv_at hl 0 rfl) ?_
  obtain ⟨lc_502, es502, p0_502⟩ := get_wo hI (j := wc) (by omega)
  refine hp_get hx hb hts ix10 hown hK hh (q := (77 + 3 * wc)) rfl (hI.1 _ (by omega)) es502 rfl 0 (by decide) (hts _ tw_212) (fun _ h9 => h9) rfl dX11_finishWord_15 ?_
  refine lv_aload_n hx hb dX11_finishWord_18 rfl (lv_at hl 0 rfl) ?_
  refine hp_get hx hb hts ix10 hown hK hh (q := (77 + 3 * wc)) rfl (hI.1 _ (by omega)) es502 rfl 2 (by decide) (hts _ tw_216) (fun _ h9 => h9) rfl dX11_finishWord_19 ?_
  refine lv_aload_n hx hb dX11_finishWord_22 rfl (lv_at hl 0 rfl) ?_
  refine hp_get hx hb hts ix10 hown hK hh (q := (77 + 3 * wc)) rfl (hI.1 _ (by omega)) es502 rfl 1 (by decide) (hts _ tw_214) (fun _ h9 => h9) rfl dX11_finishWord_23 ?_
  have hlc9 : 1 ≤ lc_502 := by rw [show rdI (en (77 + 3 * wc)) 2 = nI lc_502 from by rw [es502]; rfl, nI_toInt (by omega)] at hlc; omega
  obtain ⟨f_503, es503, p0_503⟩ := get_wol hI (j := wc) (by omega)
  obtain ⟨f_504, es504⟩ := get_wor hI (j := wc) (by omega)
  have es505 := get_rows hI
  unfold P_rows at es505
  obtain ⟨f_506, es506⟩ := get_scr hI
  refine hp_callMv (va_runV (As := [.ref (ad (78 + 3 * wc)), .int (nI lc_502), .ref (ad (79 + 3 * wc))]) (rest := []) ⟨hx, hb, hml, hown, hts⟩ (c_X8_multiplyAll l D cy _ cs ad en (hI.1 _ (by decide)) (hI.1 _ (by decide)) (hI.1 _ (by decide)) (fun j hj => hI.1 _ (by omega)) cnt d mm hcnt hd2 hd3 hmm (78 + 3 * wc) 12 lc_502 (hI.1 _ (by omega)) (by decide) f_503 p0_503 (by omega) (by omega) (79 + 3 * wc) (hI.1 _ (by omega)) (by omega) (by omega) (by omega) f_504 f_506 (fun j => rdL (en (4 + j))) es500 es505 es506 es503 es504 (rows_rd hI)) (kw_X8_multiplyAll hts tw_693 ⟨by decide, by decide⟩) (preV_of hh hK (hI.1 _ (by decide)) es500 rfl) rfl rfl hl.1 rfl (lv_room (Nat.le_of_ble_eq_true rfl)) dX11_finishWord_26 ⟨Nat.le_of_ble_eq_true rfl, Nat.le_of_ble_eq_true rfl⟩) hh hA (fun H locs en_507 hw_507 hh => ?_)
  obtain ⟨g_507, h_507, ea_507, eb_507, hu_507, hpr_507⟩ := hw_507
  have hI_507 : SX cy cs ad en_507 := SX_pt hI (fun c => c = (79 + 3 * wc) ∨ c = 11) (fun c hc => hu_507 c (fun q => hc (Or.inl q)) (fun q => hc (Or.inr q))) (fun c hc _ => by rcases hc with rfl | rfl; rw [ea_507]; exact mk_wor (by omega) ⟨_, rfl⟩; rw [eb_507]; exact mk_scr ⟨_, rfl⟩)
  have hf_507 : ∀ c, (c ≠ 0 ∧ c ≠ 11 ∧ c ≠ 79 + 3 * wc) → en_507 c = en c := fun c hc => (hu_507 c (by omega) (by omega)).trans (hf0 c hc)
  have es499_507 : en_507 0 = .inr (10, [.ref (ad 1), .ref (ad 12), .ref (ad 70), .ref (ad 74), .ref (ad 75), .ref (ad 76), .int (nI wc), .int lf_499]) := (hu_507 _ (by omega) (by omega)).trans es499
  have es500_507 : en_507 1 = .inr (7, [.ref (ad 2), .ref (ad 3), .ref (ad 10), .ref (ad 11), .int (nI cnt), .int (nI d), .int (nI mm)]) := (hu_507 _ (by omega) (by omega)).trans es500
  have es501_507 : en_507 74 = .inl (cy 5, 10, .inr (.inr (.inr (.inr (rfB ad 10 77 3))))) := (hu_507 _ (by omega) (by omega)).trans es501
  have es502_507 : en_507 (77 + 3 * wc) = .inr (9, [.ref (ad (78 + 3 * wc)), .ref (ad (79 + 3 * wc)), .int (nI lc_502)]) := (hu_507 _ (by omega) (by omega)).trans es502
  have es503_507 : en_507 (78 + 3 * wc) = .inl (cy 0, 12, .inl f_503) := (hu_507 _ (by omega) (by omega)).trans es503
  have es505_507 : en_507 3 = .inl (cy 8, 6, .inr (.inr (.inr (.inr (rfA ad 6 4))))) := (hu_507 _ (by omega) (by omega)).trans es505
  refine lv_aload_n hx hb dX11_finishWord_29 rfl (lv_at hl 1 rfl) ?_
  refine lv_dup hx hb dX11_finishWord_30 rfl ?_
  refine hp_get hx hb hts ix11 hown hK hh (q := 0) rfl (hI.1 _ (by decide)) es499_507 rfl 6 (by decide) (hts _ tw_251) (fun _ h9 => h9) rfl dX11_finishWord_31 ?_
  refine lv_iconst (v := 1) hx hb dX11_finishWord_34 (by decide) ?_
  refine lv_iadd hx hb dX11_finishWord_35 ?_
  rw [show (1 : Int32) = nI 1 from rfl, nI_add wc 1]
  refine hp_put hx hb hts ix11 tyX11 tyX11_ok nmX11 hown hK hh (q := 0) rfl (hI.1 _ (by decide)) es499_507 rfl 6 (by decide) (hts _ tw_251) (fun _ h9 => h9) rfl (ty := .int) (by decide +kernel) rfl rfl (Nat.le_of_ble_eq_true rfl) dX11_finishWord_36 (fun H locs en_508 hen_508 hh => ?_)
  have es500_508 : en_508 1 = .inr (7, [.ref (ad 2), .ref (ad 3), .ref (ad 10), .ref (ad 11), .int (nI cnt), .int (nI d), .int (nI mm)]) := by rw [hen_508, va_up_ne _ _ (by decide)]; exact es500_507
  have es501_508 : en_508 74 = .inl (cy 5, 10, .inr (.inr (.inr (.inr (rfB ad 10 77 3))))) := by rw [hen_508, va_up_ne _ _ (by decide)]; exact es501_507
  have es502_508 : en_508 (77 + 3 * wc) = .inr (9, [.ref (ad (78 + 3 * wc)), .ref (ad (79 + 3 * wc)), .int (nI lc_502)]) := by rw [hen_508, va_up_ne _ _ (by omega)]; exact es502_507
  have es503_508 : en_508 (78 + 3 * wc) = .inl (cy 0, 12, .inl f_503) := by rw [hen_508, va_up_ne _ _ (by omega)]; exact es503_507
  have es505_508 : en_508 3 = .inl (cy 8, 6, .inr (.inr (.inr (.inr (rfA ad 6 4))))) := by rw [hen_508, va_up_ne _ _ (by decide)]; exact es505_507
  have es499_508 : en_508 0 = .inr (10, [.ref (ad 1), .ref (ad 12), .ref (ad 70), .ref (ad 74), .ref (ad 75), .ref (ad 76), .int (nI (wc + 1)), .int lf_499]) := by rw [hen_508]; exact va_up_self _ _ _
  have hI_508 : SX cy cs ad en_508 := by rw [hen_508]; exact up_A hI_507 ⟨(wc + 1), lf_499, rfl, (by omega)⟩
  have hf_508 : ∀ c, (c ≠ 0 ∧ c ≠ 11 ∧ c ≠ 79 + 3 * wc) → en_508 c = en c := fun c hc => Eq.trans (show en_508 c = en_507 c from by rw [hen_508, va_up_ne _ _ (by omega)]) (hf_507 c hc)
  refine lv_aload_n hx hb dX11_finishWord_39 rfl (lv_at hl 1 rfl) ?_
  refine hp_get hx hb hts ix11 hown hK hh (q := 0) rfl (hI.1 _ (by decide)) es499_508 rfl 6 (by decide) (hts _ tw_251) (fun _ h9 => h9) rfl dX11_finishWord_40 ?_
  refine lv_iconst (v := 1) hx hb dX11_finishWord_43 (by decide) ?_
  refine lv_isub hx hb dX11_finishWord_44 ?_
  rw [show (1 : Int32) = nI 1 from rfl, pk_sub (a := (wc + 1)) (b := 1) (by omega)]
  have hq5 : (rdI (en 1) 5).toNatClampNeg = d := by rw [show rdI (en 1) 5 = nI d from by rw [es500]; rfl]; exact nI_clamp (by omega)
  have hq6 : (rdI (en 1) 6).toNatClampNeg = mm := by rw [show rdI (en 1) 6 = nI mm from by rw [es500]; rfl]; exact nI_clamp (by omega)
  have hq2 : (rdI (en (77 + 3 * wc)) 2).toNatClampNeg = lc_502 := by rw [show rdI (en (77 + 3 * wc)) 2 = nI lc_502 from by rw [es502]; rfl]; exact nI_clamp (by omega)
  have hq8 : rdF (en (78 + 3 * wc)) = f_503 := by rw [es503]; rfl
  exact hp_iretM hx hb hr rfl hlocks hh (⟨hI_508, hf_508, (congrArg nI (by omega)), (by rw [es499_508]; exact congrArg nI (by omega)), (fun i hi => by rw [hq5] at hi; rw [hq5, hq6, hq2, hq8, show en_508 (79 + 3 * wc) = en_507 (79 + 3 * wc) from by rw [hen_508, va_up_ne _ _ (by omega)], ea_507]; exact hpr_507 i hi)⟩) dX11_finishWord_45
theorem kw_X11_finishWord {R : Room} {s : State} {args : Array Value} {own : String} {idx : Nat} (hts : ∀ w ∈ TB, w.before args s = true) (hl : Cond.methodLink own idx yX11_finishWord ∈ TB) (hR : 3 + 1 ≤ R.frames ∧ 8 + (2 + 11) + 40 * 3 ≤ R.locals) : CallW R s args own RX11 idx yX11_finishWord cX11_finishWord 2 (some .int) (Cond.code yX11_finishWord cX11_finishWord 2 (some .int) :: TB) (rmN 3) 0 0 0 := cwV 0 hts (TB_V hl tw_691 ts_25 tw_1 tw_692) rfl rfl rfl (by decide +kernel) hR
