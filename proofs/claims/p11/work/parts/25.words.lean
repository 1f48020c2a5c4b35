set_option maxHeartbeats 4000000 in
set_option maxRecDepth 100000 in
/-- clear -/
theorem c_X10_clear (l : Launch) (D : va_G) (cy : Nat → ClassId) (sz : Nat) (cs : List Nat) (ad : Nat → Nat) (en : Nat → va_E) (hI : SX cy cs ad en) (w : Nat) (hw10 : w < 10)   : Met l yX10_clear (Cond.code yX10_clear cX10_clear 1 none :: TB) (rmN 0) (va_Pc [.ref (ad (77 + 3 * w))] (Pre D cy cs ad en sz)) (va_Qv (S := Nat → va_E) (fun en1 => SX cy cs ad en1 ∧ (∀ c, (c ≠ 77 + 3 * w) → en1 c = en c) ∧ rdI (en1 (77 + 3 * w)) 2 = nI 0) (PostM D cs ad) (Af cs ad sz)) 0 0 (Af cs ad sz) := by
  refine Met.ofW (cc := cX10_clear) (maxL := 1) (ret := none) (by decide) rfl ?_
  intro p e s m args below meth c s₁ B hml hv
  obtain ⟨rfl, hsz, hP, hK, hD0⟩ := hv
  have hx := B.exec
  have hb := B.bytes
  have hr := B.returns
  have hts : ∀ w ∈ TB, w.before _ s = true := fun w h => atoms_spec (ws := _ :: TB) B.pre w (List.mem_cons_of_mem _ h)
  have hown : s.vm.findClass RX10 = some m.cls := findClass_of_methodNamed B.named
  have hlocks := B.notSynchronized
  have hh : Hp D (Af cs ad sz) (Af cs ad sz) s.heap s.heap [] cs ad en := ⟨hP, Af_self hD0, va_S.rf⟩
  have hA : ∀ q : Nat, s.heap.size ≤ q → Af cs ad sz q := fun q h => Or.inr (by rw [hsz] at h; exact h)
  have hl := lv_entry ([.ref (ad (77 + 3 * w))]) (n := 1) (Nat.le_of_ble_eq_true rfl)
  rw [lg_entry_eq]
  generalize (lg_sl ([.ref (ad (77 + 3 * w))]) ++ List.replicate (1 - (lg_sl ([.ref (ad (77 + 3 * w))])).length) Slot.unset).toArray = ls at hl ⊢
  have hl : lv_has ls 1 [(0, .ref (ad (77 + 3 * w)))] := hl
  have hf0 : ∀ c, (c ≠ 77 + 3 * w) → en c = en c := fun _ _ => rfl
  refine lv_aload_n hx hb dX10_clear_0 rfl (lv_at hl 0 rfl) ?_
  refine lv_iconst (v := 0) hx hb dX10_clear_1 (by decide) ?_
  obtain ⟨lc_472, es472, p0_472⟩ := get_wo hI (j := w) (by omega)
  refine hp_put hx hb hts ix10 tyX10 tyX10_ok nmX10 hown hK hh (q := (77 + 3 * w)) rfl (hI.1 _ (by omega)) es472 rfl 2 (by decide) (hts _ tw_215) (fun _ h9 => h9) rfl (ty := .int) (by decide +kernel) rfl rfl (Nat.le_of_ble_eq_true rfl) dX10_clear_2 (fun H locs en_473 hen_473 hh => ?_)
  have es472_473 : en_473 (77 + 3 * w) = .inr (9, [.ref (ad (78 + 3 * w)), .ref (ad (79 + 3 * w)), .int 0]) := by rw [hen_473]; exact va_up_self _ _ _
  have hI_473 : SX cy cs ad en_473 := by rw [hen_473]; exact up_wo hI (j := w) (by omega) ⟨0, rfl, (by omega)⟩
  have hf_473 : ∀ c, (c ≠ 77 + 3 * w) → en_473 c = en c := fun c hc => Eq.trans (show en_473 c = en c from by rw [hen_473, va_up_ne _ _ (by omega)]) (hf0 c hc)
  exact hp_vretM hx hb hr hlocks hh (⟨hI_473, hf_473, (by rw [es472_473]; rfl)⟩) dX10_clear_5
theorem kw_X10_clear {R : Room} {s : State} {args : Array Value} {own : String} {idx : Nat} (hts : ∀ w ∈ TB, w.before args s = true) (hl : Cond.methodLink own idx yX10_clear ∈ TB) (hR : 0 + 1 ≤ R.frames ∧ 8 + (1 + 11) + 40 * 0 ≤ R.locals) : CallW R s args own RX10 idx yX10_clear cX10_clear 1 none (Cond.code yX10_clear cX10_clear 1 none :: TB) (rmN 0) 0 0 0 := cwV 0 hts (TB_V hl tw_682 tw_683 tw_7 tw_684) rfl rfl rfl (by decide +kernel) hR
set_option maxHeartbeats 4000000 in
set_option maxRecDepth 100000 in
/-- append -/
theorem c_X10_append (l : Launch) (D : va_G) (cy : Nat → ClassId) (sz : Nat) (cs : List Nat) (ad : Nat → Nat) (en : Nat → va_E) (hI : SX cy cs ad en) (w : Nat) (hw10 : w < 10) (le lc : Nat) (hle : le < 6) (hlc12 : lc < 12) (hlc : rdI (en (77 + 3 * w)) 2 = nI lc)   : Met l yX10_append (Cond.code yX10_append cX10_append 2 none :: TB) (rmN 0) (va_Pc [.ref (ad (77 + 3 * w)), .int (nI le)] (Pre D cy cs ad en sz)) (va_Qv (S := Nat → va_E) (fun en1 => SX cy cs ad en1 ∧ (∀ c, (c ≠ 77 + 3 * w ∧ c ≠ 78 + 3 * w) → en1 c = en c) ∧ rdI (en1 (77 + 3 * w)) 2 = nI (lc + 1) ∧ (∀ x, rdF (en1 (78 + 3 * w)) x = if x = lc then nI le else rdF (en (78 + 3 * w)) x)) (PostM D cs ad) (Af cs ad sz)) 0 0 (Af cs ad sz) := by
  refine Met.ofW (cc := cX10_append) (maxL := 2) (ret := none) (by decide) rfl ?_
  intro p e s m args below meth c s₁ B hml hv
  obtain ⟨rfl, hsz, hP, hK, hD0⟩ := hv
  have hx := B.exec
  have hb := B.bytes
  have hr := B.returns
  have hts : ∀ w ∈ TB, w.before _ s = true := fun w h => atoms_spec (ws := _ :: TB) B.pre w (List.mem_cons_of_mem _ h)
  have hown : s.vm.findClass RX10 = some m.cls := findClass_of_methodNamed B.named
  have hlocks := B.notSynchronized
  have hh : Hp D (Af cs ad sz) (Af cs ad sz) s.heap s.heap [] cs ad en := ⟨hP, Af_self hD0, va_S.rf⟩
  have hA : ∀ q : Nat, s.heap.size ≤ q → Af cs ad sz q := fun q h => Or.inr (by rw [hsz] at h; exact h)
  have hl := lv_entry ([.ref (ad (77 + 3 * w)), .int (nI le)]) (n := 2) (Nat.le_of_ble_eq_true rfl)
  rw [lg_entry_eq]
  generalize (lg_sl ([.ref (ad (77 + 3 * w)), .int (nI le)]) ++ List.replicate (2 - (lg_sl ([.ref (ad (77 + 3 * w)), .int (nI le)])).length) Slot.unset).toArray = ls at hl ⊢
  have hl : lv_has ls 2 [(0, .ref (ad (77 + 3 * w))), (1, .int (nI le))] := hl
  have hf0 : ∀ c, (c ≠ 77 + 3 * w ∧ c ≠ 78 + 3 * w) → en c = en c := fun _ _ => rfl
  obtain ⟨lc_474, es474, p0_474⟩ := get_wo hI (j := w) (by omega)
  obtain ⟨f_475, es475, p0_475⟩ := get_wol hI (j := w) (by omega)
  have hlc9 : lc_474 = lc := n_eq (Eq.trans (show nI lc_474 = rdI (en (77 + 3 * w)) 2 from by rw [es474]; rfl) hlc) (by omega) (by omega)
  subst hlc9
  refine lv_aload_n hx hb dX10_append_0 rfl (lv_at hl 0 rfl) ?_
  refine hp_get hx hb hts ix10 hown hK hh (q := (77 + 3 * w)) rfl (hI.1 _ (by omega)) es474 rfl 2 (by decide) (hts _ tw_215) (fun _ h9 => h9) rfl dX10_append_1 ?_
  refine lv_bipush (v := 12) hx hb dX10_append_4 (by decide) ?_
  refine lv_icmp_ge (tgt := 29) hx hb dX10_append_6 (by decide) (fun c_476 => ?_) (fun c_476 => ?_)
  · have n_476 : 12 ≤ lc_474 := n_le (a := 12) (b := lc_474) c_476 (by decide) (by omega)
    exact absurd n_476 (by omega)
  · have n_476 : lc_474 < 12 := n_nle (a := 12) (b := lc_474) c_476 (by decide) (by omega)
    refine lv_aload_n hx hb dX10_append_9 rfl (lv_at hl 0 rfl) ?_
    refine hp_get hx hb hts ix10 hown hK hh (q := (77 + 3 * w)) rfl (hI.1 _ (by omega)) es474 rfl 0 (by decide) (hts _ tw_211) (fun _ h9 => h9) rfl dX10_append_10 ?_
    refine lv_aload_n hx hb dX10_append_13 rfl (lv_at hl 0 rfl) ?_
    refine hp_get hx hb hts ix10 hown hK hh (q := (77 + 3 * w)) rfl (hI.1 _ (by omega)) es474 rfl 2 (by decide) (hts _ tw_215) (fun _ h9 => h9) rfl dX10_append_14 ?_
    refine lv_iload_n hx hb dX10_append_17 rfl (lv_at hl 1 rfl) ?_
    refine hp_iast hx hb hK hh (q := (78 + 3 * w)) rfl (hI.1 _ (by omega)) es475 (vp_in_nI (n := lc_474) (by omega) (by decide)) dX10_append_18 (fun H locs en_477 hen_477 hh => ?_)
    rw [nI_clamp (n := lc_474) (by omega)] at hen_477
    have es474_477 : en_477 (77 + 3 * w) = .inr (9, [.ref (ad (78 + 3 * w)), .ref (ad (79 + 3 * w)), .int (nI lc_474)]) := by rw [hen_477, va_up_ne _ _ (by omega)]; exact es474
    have es475_477 : en_477 (78 + 3 * w) = .inl (cy 0, 12, .inl (upd f_475 lc_474 (nI le))) := by rw [hen_477]; exact va_up_self _ _ _
    have hI_477 : SX cy cs ad en_477 := by rw [hen_477]; exact up_wol hI (j := w) (by omega) ⟨(upd f_475 lc_474 (nI le)), rfl, (vals_upd p0_475 hle)⟩
    have hf_477 : ∀ c, (c ≠ 77 + 3 * w ∧ c ≠ 78 + 3 * w) → en_477 c = en c := fun c hc => Eq.trans (show en_477 c = en c from by rw [hen_477, va_up_ne _ _ (by omega)]) (hf0 c hc)
    refine lv_aload_n hx hb dX10_append_19 rfl (lv_at hl 0 rfl) ?_
    refine lv_dup hx hb dX10_append_20 rfl ?_
    refine hp_get hx hb hts ix10 hown hK hh (q := (77 + 3 * w)) rfl (hI.1 _ (by omega)) es474_477 rfl 2 (by decide) (hts _ tw_215) (fun _ h9 => h9) rfl dX10_append_21 ?_
    refine lv_iconst (v := 1) hx hb dX10_append_24 (by decide) ?_
    refine lv_iadd hx hb dX10_append_25 ?_
    rw [show (1 : Int32) = nI 1 from rfl, nI_add lc_474 1]
    refine hp_put hx hb hts ix10 tyX10 tyX10_ok nmX10 hown hK hh (q := (77 + 3 * w)) rfl (hI.1 _ (by omega)) es474_477 rfl 2 (by decide) (hts _ tw_215) (fun _ h9 => h9) rfl (ty := .int) (by decide +kernel) rfl rfl (Nat.le_of_ble_eq_true rfl) dX10_append_26 (fun H locs en_478 hen_478 hh => ?_)
    have es475_478 : en_478 (78 + 3 * w) = .inl (cy 0, 12, .inl (upd f_475 lc_474 (nI le))) := by rw [hen_478, va_up_ne _ _ (by omega)]; exact es475_477
    have es474_478 : en_478 (77 + 3 * w) = .inr (9, [.ref (ad (78 + 3 * w)), .ref (ad (79 + 3 * w)), .int (nI (lc_474 + 1))]) := by rw [hen_478]; exact va_up_self _ _ _
    have hI_478 : SX cy cs ad en_478 := by rw [hen_478]; exact up_wo hI_477 (j := w) (by omega) ⟨(lc_474 + 1), rfl, (by omega)⟩
    have hf_478 : ∀ c, (c ≠ 77 + 3 * w ∧ c ≠ 78 + 3 * w) → en_478 c = en c := fun c hc => Eq.trans (show en_478 c = en_477 c from by rw [hen_478, va_up_ne _ _ (by omega)]) (hf_477 c hc)
    exact hp_vretM hx hb hr hlocks hh (⟨hI_478, hf_478, (by rw [es474_478]; rfl), (fun x => by rw [es475_478, show rdF (en (78 + 3 * w)) = f_475 from by rw [es475]; rfl]; show upd f_475 lc_474 (nI le) x = _; by_cases e : x = lc_474; rw [e, pk_us, if_pos rfl]; rw [pk_un e, if_neg e])⟩) dX10_append_29
theorem kw_X10_append {R : Room} {s : State} {args : Array Value} {own : String} {idx : Nat} (hts : ∀ w ∈ TB, w.before args s = true) (hl : Cond.methodLink own idx yX10_append ∈ TB) (hR : 0 + 1 ≤ R.frames ∧ 8 + (2 + 11) + 40 * 0 ≤ R.locals) : CallW R s args own RX10 idx yX10_append cX10_append 2 none (Cond.code yX10_append cX10_append 2 none :: TB) (rmN 0) 0 0 1 := cwV 1 hts (TB_V hl tw_686 tw_687 tw_7 tw_688) rfl rfl rfl (by decide +kernel) hR
set_option maxHeartbeats 4000000 in
set_option maxRecDepth 100000 in
/-- appendAll -/
theorem c_X10_appendAll (l : Launch) (D : va_G) (cy : Nat → ClassId) (sz : Nat) (cs : List Nat) (ad : Nat → Nat) (en : Nat → va_E) (hI : SX cy cs ad en) (w : Nat) (hw10 : w < 10) (v L0 L1 : Nat) (hv10 : v < 10) (hvw : v ≠ w) (hL : L0 + L1 ≤ 12) (hL0 : rdI (en (77 + 3 * w)) 2 = nI L0) (hL1 : rdI (en (77 + 3 * v)) 2 = nI L1)   : Met l yX10_appendAll (Cond.code yX10_appendAll cX10_appendAll 3 none :: TB) (rmN 1) (va_Pc [.ref (ad (77 + 3 * w)), .ref (ad (77 + 3 * v))] (Pre D cy cs ad en sz)) (va_Qv (S := Nat → va_E) (fun en1 => SX cy cs ad en1 ∧ (∀ c, (c ≠ 77 + 3 * w ∧ c ≠ 78 + 3 * w) → en1 c = en c) ∧ rdI (en1 (77 + 3 * w)) 2 = nI (L0 + L1) ∧ (∀ x, x < L0 → rdF (en1 (78 + 3 * w)) x = rdF (en (78 + 3 * w)) x) ∧ (∀ x, x < L1 → rdF (en1 (78 + 3 * w)) (L0 + x) = rdF (en (78 + 3 * v)) x)) (PostM D cs ad) (Af cs ad sz)) 0 0 (Af cs ad sz) := by
  refine Met.ofW (cc := cX10_appendAll) (maxL := 3) (ret := none) (by decide) rfl ?_
  intro p e s m args below meth c s₁ B hml hv
  obtain ⟨rfl, hsz, hP, hK, hD0⟩ := hv
  have hx := B.exec
  have hb := B.bytes
  have hr := B.returns
  have hts : ∀ w ∈ TB, w.before _ s = true := fun w h => atoms_spec (ws := _ :: TB) B.pre w (List.mem_cons_of_mem _ h)
  have hown : s.vm.findClass RX10 = some m.cls := findClass_of_methodNamed B.named
  have hlocks := B.notSynchronized
  have hh : Hp D (Af cs ad sz) (Af cs ad sz) s.heap s.heap [] cs ad en := ⟨hP, Af_self hD0, va_S.rf⟩
  have hA : ∀ q : Nat, s.heap.size ≤ q → Af cs ad sz q := fun q h => Or.inr (by rw [hsz] at h; exact h)
  have hl := lv_entry ([.ref (ad (77 + 3 * w)), .ref (ad (77 + 3 * v))]) (n := 3) (Nat.le_of_ble_eq_true rfl)
  rw [lg_entry_eq]
  generalize (lg_sl ([.ref (ad (77 + 3 * w)), .ref (ad (77 + 3 * v))]) ++ List.replicate (3 - (lg_sl ([.ref (ad (77 + 3 * w)), .ref (ad (77 + 3 * v))])).length) Slot.unset).toArray = ls at hl ⊢
  have hl : lv_has ls 3 [(0, .ref (ad (77 + 3 * w))), (1, .ref (ad (77 + 3 * v)))] := hl
  have hf0 : ∀ c, (c ≠ 77 + 3 * w ∧ c ≠ 78 + 3 * w) → en c = en c := fun _ _ => rfl
  obtain ⟨lc_479, es479, p0_479⟩ := get_wo hI (j := v) (by omega)
  obtain ⟨f_480, es480, p0_480⟩ := get_wol hI (j := v) (by omega)
  have hL9 : lc_479 = L1 := n_eq (Eq.trans (show nI lc_479 = rdI (en (77 + 3 * v)) 2 from by rw [es479]; rfl) hL1) (by omega) (by omega)
  refine lv_iconst (v := 0) hx hb dX10_appendAll_0 (by decide) ?_
  refine lv_istore_n (lv' := [(2, .int 0), (0, .ref (ad (77 + 3 * w))), (1, .ref (ad (77 + 3 * v)))]) hx hb dX10_appendAll_1 rfl hl (by decide) rfl (fun ls hl => ?_)
  have loop_481 : ∀ (fu j481 : Nat)  (en_481 : Nat → va_E) (ls : Array Slot) (H : Heap) (locs : List Loc), 0 ≤ j481 → j481 ≤ L1 → L1 < j481 + fu → SX cy cs ad en_481 → (∀ c, (c ≠ 77 + 3 * w ∧ c ≠ 78 + 3 * w) → en_481 c = en c) → (rdI (en_481 (77 + 3 * w)) 2 = nI (L0 + j481) ∧ (∀ x, x < L0 → rdF (en_481 (78 + 3 * w)) x = rdF (en (78 + 3 * w)) x) ∧ (∀ x, x < j481 → rdF (en_481 (78 + 3 * w)) (L0 + x) = rdF (en (78 + 3 * v)) x)) → lv_has ls 3 [(2, .int (nI j481)), (0, .ref (ad (77 + 3 * w))), (1, .ref (ad (77 + 3 * v)))] → Hp D (Af cs ad sz) (Af cs ad sz) s.heap H locs cs ad en_481 → W p l e (headSpec (Cond.code yX10_appendAll cX10_appendAll 3 none :: TB) (rmN 1)).room s m ([.ref (ad (77 + 3 * w)), .ref (ad (77 + 3 * v))] : List Value).toArray below meth c H locs 0 0 (MQ below (va_Qv (S := Nat → va_E) (fun en1 => SX cy cs ad en1 ∧ (∀ c, (c ≠ 77 + 3 * w ∧ c ≠ 78 + 3 * w) → en1 c = en c) ∧ rdI (en1 (77 + 3 * w)) 2 = nI (L0 + L1) ∧ (∀ x, x < L0 → rdF (en1 (78 + 3 * w)) x = rdF (en (78 + 3 * w)) x) ∧ (∀ x, x < L1 → rdF (en1 (78 + 3 * w)) (L0 + x) = rdF (en (78 + 3 * v)) x)) (PostM D cs ad) (Af cs ad sz)) ([.ref (ad (77 + 3 * w)), .ref (ad (77 + 3 * v))] : List Value).toArray s 0 0 (Af cs ad sz)) (F0 m 2 ls []) := by
    intro fu
    induction fu with
    | zero => intro j481  en_481 ls H locs h0 h1 h2; exact absurd h2 (by omega)
    | succ fu ih_481 =>
      intro j481  en_481 ls H locs hj0_481 hj_481 hfu_481 hI_481 hf_481 i0_481 hl hh
      have es479_482 : en_481 (77 + 3 * v) = .inr (9, [.ref (ad (78 + 3 * v)), .ref (ad (79 + 3 * v)), .int (nI lc_479)]) := (hf_481 (77 + 3 * v) (by omega)).trans es479
      have es480_483 : en_481 (78 + 3 * v) = .inl (cy 0, 12, .inl f_480) := (hf_481 (78 + 3 * v) (by omega)).trans es480
      refine lv_iload_n hx hb dX10_appendAll_2 rfl (lv_at hl 0 rfl) ?_
      refine lv_aload_n hx hb dX10_appendAll_3 rfl (lv_at hl 2 rfl) ?_
      refine hp_get hx hb hts ix10 hown hK hh (q := (77 + 3 * v)) rfl (hI.1 _ (by omega)) es479_482 rfl 2 (by decide) (hts _ tw_215) (fun _ h9 => h9) rfl dX10_appendAll_4 ?_
      refine lv_icmp_ge (tgt := 26) hx hb dX10_appendAll_7 (by decide) (fun c_484 => ?_) (fun c_484 => ?_)
      · have n_484 : lc_479 ≤ j481 := n_le (a := lc_479) (b := j481) c_484 (by omega) (by omega)
        exact hp_vretM hx hb hr hlocks hh (⟨hI_481, hf_481, (by have e : j481 = L1 := (by omega); subst e; exact i0_481)⟩) dX10_appendAll_26
      · have n_484 : j481 < lc_479 := n_nle (a := lc_479) (b := j481) c_484 (by omega) (by omega)
        refine lv_aload_n hx hb dX10_appendAll_10 rfl (lv_at hl 1 rfl) ?_
        refine lv_aload_n hx hb dX10_appendAll_11 rfl (lv_at hl 2 rfl) ?_
        refine hp_get hx hb hts ix10 hown hK hh (q := (77 + 3 * v)) rfl (hI.1 _ (by omega)) es479_482 rfl 0 (by decide) (hts _ tw_211) (fun _ h9 => h9) rfl dX10_appendAll_12 ?_
        refine lv_iload_n hx hb dX10_appendAll_15 rfl (lv_at hl 0 rfl) ?_
        refine hp_iald hx hb hK hh (q := (78 + 3 * v)) rfl (hI.1 _ (by omega)) es480_483 (vp_in_nI (n := j481) (by omega) (by decide)) dX10_appendAll_16 ?_
        rw [nI_clamp (n := j481) (by omega)]
        obtain ⟨v_485, hv_485, hfv_485⟩ := p0_480 j481 (by omega)
        rw [hfv_485]
        obtain ⟨lc_486, es486, p0_486⟩ := get_wo hI_481 (j := w) (by omega)
        refine hp_callMv (va_runV (As := [.int (nI v_485)]) (rest := []) ⟨hx, hb, hml, hown, hts⟩ (c_X10_append l D cy _ cs ad en_481 hI_481 w (by omega) v_485 (L0 + j481) (by omega) (by omega) i0_481.1) (kw_X10_append hts tw_711 ⟨by decide, by decide⟩) (preV_of hh hK (hI.1 _ (by omega)) es486 rfl) rfl rfl hl.1 rfl (lv_room (Nat.le_of_ble_eq_true rfl)) dX10_appendAll_17 ⟨Nat.le_of_ble_eq_true rfl, Nat.le_of_ble_eq_true rfl⟩) hh hA (fun H locs en_487 hw_487 hh => ?_)
        obtain ⟨hI_487, hu_487, hx_487⟩ := hw_487
        have hf_487 : ∀ c, (c ≠ 77 + 3 * w ∧ c ≠ 78 + 3 * w) → en_487 c = en c := fun c hc => (hu_487 c (by omega)).trans (hf_481 c hc)
        refine lv_iinc (v := (nI (j481 + 1))) (lv' := [(2, .int (nI (j481 + 1))), (0, .ref (ad (77 + 3 * w))), (1, .ref (ad (77 + 3 * v)))]) hx hb dX10_appendAll_20 hl (k := 0) rfl (nI_1 _) (by decide) rfl (fun ls hl => ?_)
        refine lv_goto (tgt := 2) hx hb dX10_appendAll_23 (by decide) ?_
        exact ih_481 ((j481 + 1))  en_487 ls H locs (by omega) (by omega) (by omega) hI_487 hf_487 (⟨hx_487.1, fun x hx9 => by rw [hx_487.2, if_neg (by omega)]; exact i0_481.2.1 x hx9, fun x hx9 => by rw [hx_487.2]; by_cases e : x = j481; rw [e, if_pos rfl, show rdF (en (78 + 3 * v)) = f_480 from by rw [es480]; rfl, hfv_485]; rw [if_neg (by omega)]; exact i0_481.2.2 x (by omega)⟩) (lv_sub hl [0, 1, 2] rfl) hh
  exact loop_481 (L1 + 1) 0  en ls _ _ (Nat.le_refl _) (by omega) (by omega) hI hf0 (⟨hL0, fun _ _ => rfl, fun x h => absurd h (Nat.not_lt_zero x)⟩) (lv_sub hl [0, 1, 2] rfl) hh
theorem kw_X10_appendAll {R : Room} {s : State} {args : Array Value} {own : String} {idx : Nat} (hts : ∀ w ∈ TB, w.before args s = true) (hl : Cond.methodLink own idx yX10_appendAll ∈ TB) (hR : 1 + 1 ≤ R.frames ∧ 8 + (3 + 11) + 40 * 1 ≤ R.locals) : CallW R s args own RX10 idx yX10_appendAll cX10_appendAll 3 none (Cond.code yX10_appendAll cX10_appendAll 3 none :: TB) (rmN 1) 0 0 1 := cwV 1 hts (TB_V hl tw_708 tw_709 tw_7 tw_710) rfl rfl rfl (by decide +kernel) hR
set_option maxHeartbeats 4000000 in
set_option maxRecDepth 100000 in
/-- hasWord -/
theorem c_X11_hasWord (l : Launch) (D : va_G) (cy : Nat → ClassId) (sz : Nat) (cs : List Nat) (ad : Nat → Nat) (en : Nat → va_E) (hI : SX cy cs ad en) (w : Int32)   : Met l yX11_hasWord (Cond.code yX11_hasWord cX11_hasWord 2 (some .boolean) :: TB) (rmN 1) (va_Pc [.ref (ad 0), .int w] (Pre D cy cs ad en sz)) (va_Qi (S := Unit) (fun r _ => r = if wi w 0 (rdI (en 0) 6 - 1) then 1 else 0) (fun _ _ => True) (Nf sz)) 0 0 (Nf sz) := by
  refine Met.ofW (cc := cX11_hasWord) (maxL := 2) (ret := (some .boolean)) (by decide) rfl ?_
  intro p e s m args below meth c s₁ B hml hv
  obtain ⟨rfl, hsz, hP, hK, hD0⟩ := hv
  have hx := B.exec
  have hb := B.bytes
  have hr := B.returns
  have hts : ∀ w ∈ TB, w.before _ s = true := fun w h => atoms_spec (ws := _ :: TB) B.pre w (List.mem_cons_of_mem _ h)
  have hown : s.vm.findClass RX11 = some m.cls := findClass_of_methodNamed B.named
  have hlocks := B.notSynchronized
  have hh : Hp D (Nf sz) (fun _ => True) s.heap s.heap [] cs ad en := ⟨hP, hD0, va_S.rf⟩
  have hA : ∀ q : Nat, s.heap.size ≤ q → Nf sz q := fun q h => by rw [hsz] at h; exact h
  have hl := lv_entry ([.ref (ad 0), .int w]) (n := 2) (Nat.le_of_ble_eq_true rfl)
  rw [lg_entry_eq]
  generalize (lg_sl ([.ref (ad 0), .int w]) ++ List.replicate (2 - (lg_sl ([.ref (ad 0), .int w])).length) Slot.unset).toArray = ls at hl ⊢
  have hl : lv_has ls 2 [(0, .ref (ad 0)), (1, .int w)] := hl
  obtain ⟨wc_488, lf_488, es488, p0_488⟩ := get_A hI
  refine lv_iload_n hx hb dX11_hasWord_0 rfl (lv_at hl 1 rfl) ?_
  refine lv_iconst (v := 0) hx hb dX11_hasWord_1 (by decide) ?_
  refine lv_aload_n hx hb dX11_hasWord_2 rfl (lv_at hl 0 rfl) ?_
  refine hp_get hx hb hts ix11 hown hK hh (q := 0) rfl (hI.1 _ (by decide)) es488 rfl 6 (by decide) (hts _ tw_251) (fun _ h9 => h9) rfl dX11_hasWord_3 ?_
  refine lv_iconst (v := 1) hx hb dX11_hasWord_6 (by decide) ?_
  refine lv_isub hx hb dX11_hasWord_7 ?_
  refine hp_callRi (va_runS (As := [.int w, .int 0, .int ((nI wc_488) - 1)]) (rest := []) ⟨hx, hb, hml, hown, hts⟩ (c_X11_isWithin l D cy _ cs ad en w 0 ((nI wc_488) - 1)) (kw_X11_isWithin hts tw_274 ⟨by decide, by decide⟩) (preS_of hh hK) rfl rfl hl.1 rfl (lv_room (Nat.le_of_ble_eq_true rfl)) dX11_hasWord_8 ⟨Nat.le_of_ble_eq_true rfl, Nat.le_of_ble_eq_true rfl⟩) hh hA (fun r_489 H locs hw_489 hh => ?_)
  exact hp_iretR hx hb hr (nar_bit (by rw [hw_489]; rcases Decidable.em (wi w 0 ((nI wc_488) - 1)) with h | h; exact Or.inr (if_pos h); exact Or.inl (if_neg h))) hlocks hsz hh ((by rw [show rdI (en 0) 6 = (nI wc_488) from by rw [es488]; rfl]; exact hw_489)) dX11_hasWord_11
theorem kw_X11_hasWord {R : Room} {s : State} {args : Array Value} {own : String} {idx : Nat} (hts : ∀ w ∈ TB, w.before args s = true) (hl : Cond.methodLink own idx yX11_hasWord ∈ TB) (hR : 1 + 1 ≤ R.frames ∧ 8 + (2 + 11) + 40 * 1 ≤ R.locals) : CallW R s args own RX11 idx yX11_hasWord cX11_hasWord 2 (some .boolean) (Cond.code yX11_hasWord cX11_hasWord 2 (some .boolean) :: TB) (rmN 1) 0 0 1 := cwV 1 hts (TB_V hl tw_705 ts_26 tw_1 tw_706) rfl rfl rfl (by decide +kernel) hR
set_option maxHeartbeats 4000000 in
set_option maxRecDepth 100000 in
/-- finishWord -/
theorem c_X11_finishWord (l : Launch) (D : va_G) (cy : Nat → ClassId) (sz : Nat) (cs : List Nat) (ad : Nat → Nat) (en : Nat → va_E) (hI : SX cy cs ad en) (wc : Nat) (hwc : wc < 10) (h0 : rdI (en 0) 6 = nI wc) (hlc : 1 ≤ (rdI (en (77 + 3 * wc)) 2).toInt)   : Met l yX11_finishWord (Cond.code yX11_finishWord cX11_finishWord 2 (some .int) :: TB) (rmN 3) (va_Pc [.ref (ad 0)] (Pre D cy cs ad en sz)) (va_Qi (S := Nat → va_E) (fun r en1 => SX cy cs ad en1 ∧ (∀ c, (c ≠ 0 ∧ c ≠ 11 ∧ c ≠ 79 + 3 * wc) → en1 c = en c) ∧ r = nI wc ∧ rdI (en1 0) 6 = nI (wc + 1) ∧ PRW en en1 wc) (PostM D cs ad) (Af cs ad sz)) 0 0 (Af cs ad sz) := by
  refine Met.ofW (cc := cX11_finishWord) (maxL := 2) (ret := (some .int)) (by decide) rfl ?_
  intro p e s m args below meth c s₁ B hml hv
  obtain ⟨rfl, hsz, hP, hK, hD0⟩ := hv
  have hx := B.exec
  have hb := B.bytes
  have hr := B.returns
  have hts : ∀ w ∈ TB, w.before _ s = true := fun w h => atoms_spec (ws := _ :: TB) B.pre w (List.mem_cons_of_mem _ h)
  have hown : s.vm.findClass RX11 = some m.cls := findClass_of_methodNamed B.named
  have hlocks := B.notSynchronized
  have hh : Hp D (Af cs ad sz) (Af cs ad sz) s.heap s.heap [] cs ad en := ⟨hP, Af_self hD0, va_S.rf⟩
  have hA : ∀ q : Nat, s.heap.size ≤ q → Af cs ad sz q := fun q h => Or.inr (by rw [hsz] at h; exact h)
  have hl := lv_entry ([.ref (ad 0)]) (n := 2) (Nat.le_of_ble_eq_true rfl)
  rw [lg_entry_eq]
  generalize (lg_sl ([.ref (ad 0)]) ++ List.replicate (2 - (lg_sl ([.ref (ad 0)])).length) Slot.unset).toArray = ls at hl ⊢
  have hl : lv_has ls 2 [(0, .ref (ad 0))] := hl
  have hf0 : ∀ c, (c ≠ 0 ∧ c ≠ 11 ∧ c ≠ 79 + 3 * wc) → en c = en c := fun _ _ => rfl
  obtain ⟨wc_490, lf_490, es490, p0_490⟩ := get_A hI
  obtain ⟨cnt, d, mm, es491, hcnt, hd2, hd3, hmm⟩ := get_T hI
  have hwc9 : wc_490 = wc := n_eq (Eq.trans (show nI wc_490 = rdI (en 0) 6 from by rw [es490]; rfl) h0) (by omega) (by omega)
  rw [hwc9] at es490
  refine lv_aload_n hx hb dX11_finishWord_0 rfl (lv_at hl 0 rfl) ?_
  refine hp_get hx hb hts ix11 hown hK hh (q := 0) rfl (hI.1 _ (by decide)) es490 rfl 3 (by decide) (hts _ tw_248) (fun _ h9 => h9) rfl dX11_finishWord_1 ?_
  refine lv_aload_n hx hb dX11_finishWord_4 rfl (lv_at hl 0 rfl) ?_
  refine hp_get hx hb hts ix11 hown hK hh (q := 0) rfl (hI.1 _ (by decide)) es490 rfl 6 (by decide) (hts _ tw_251) (fun _ h9 => h9) rfl dX11_finishWord_5 ?_
  have es492 := get_wos hI
  unfold P_wos at es492
  refine hp_aald hx hb hK hh (q := 74) rfl (hI.1 _ (by decide)) 5 es492 rfl rfl (vp_in_nI (n := wc) (by omega) (by decide)) (v := .ref (ad (77 + 3 * wc))) (by rw [nI_clamp (n := wc) (by omega)]; exact rfB_v (by omega)) dX11_finishWord_8 ?_
  refine lv_astore_n (lv' := [(1, .ref (ad (77 + 3 * wc))), (0, .ref (ad 0))]) hx hb dX11_finishWord_9 rfl hl (by decide) rfl (fun ls hl => ?_)
  refine lv_aload_n hx hb dX11_finishWord_10 rfl (lv_at hl 1 rfl) ?_
  refine hp_get hx hb hts ix11 hown hK hh (q := 0) rfl (hI.1 _ (by decide)) es490 rfl 0 (by decide) (hts _ tw_245) (fun _ h9 => h9) rfl dX11_finishWord_11 ?_
  refine lv_aload_n hx hb dX11_finishWord_14 rfl (lv_at hl 0 rfl) ?_
  obtain ⟨lc_493, es493, p0_493⟩ := get_wo hI (j := wc) (by omega)
  refine hp_get hx hb hts ix10 hown hK hh (q := (77 + 3 * wc)) rfl (hI.1 _ (by omega)) es493 rfl 0 (by decide) (hts _ tw_212) (fun _ h9 => h9) rfl dX11_finishWord_15 ?_
  refine lv_aload_n hx hb dX11_finishWord_18 rfl (lv_at hl 0 rfl) ?_
  refine hp_get hx hb hts ix10 hown hK hh (q := (77 + 3 * wc)) rfl (hI.1 _ (by omega)) es493 rfl 2 (by decide) (hts _ tw_216) (fun _ h9 => h9) rfl dX11_finishWord_19 ?_
  refine lv_aload_n hx hb dX11_finishWord_22 rfl (lv_at hl 0 rfl) ?_
  refine hp_get hx hb hts ix10 hown hK hh (q := (77 + 3 * wc)) rfl (hI.1 _ (by omega)) es493 rfl 1 (by decide) (hts _ tw_214) (fun _ h9 => h9) rfl dX11_finishWord_23 ?_
  have hlc9 : 1 ≤ lc_493 := by rw [show rdI (en (77 + 3 * wc)) 2 = nI lc_493 from by rw [es493]; rfl, nI_toInt (by omega)] at hlc; omega
  obtain ⟨f_494, es494, p0_494⟩ := get_wol hI (j := wc) (by omega)
  obtain ⟨f_495, es495⟩ := get_wor hI (j := wc) (by omega)
  have es496 := get_rows hI
  unfold P_rows at es496
  obtain ⟨f_497, es497⟩ := get_scr hI
  refine hp_callMv (va_runV (As := [.ref (ad (78 + 3 * wc)), .int (nI lc_493), .ref (ad (79 + 3 * wc))]) (rest := []) ⟨hx, hb, hml, hown, hts⟩ (c_X8_multiplyAll l D cy _ cs ad en (hI.1 _ (by decide)) (hI.1 _ (by decide)) (hI.1 _ (by decide)) (fun j hj => hI.1 _ (by omega)) cnt d mm hcnt hd2 hd3 hmm (78 + 3 * wc) 12 lc_493 (hI.1 _ (by omega)) (by decide) f_494 p0_494 (by omega) (by omega) (79 + 3 * wc) (hI.1 _ (by omega)) (by omega) (by omega) (by omega) f_495 f_497 (fun j => rdL (en (4 + j))) es491 es496 es497 es494 es495 (rows_rd hI)) (kw_X8_multiplyAll hts tw_693 ⟨by decide, by decide⟩) (preV_of hh hK (hI.1 _ (by decide)) es491 rfl) rfl rfl hl.1 rfl (lv_room (Nat.le_of_ble_eq_true rfl)) dX11_finishWord_26 ⟨Nat.le_of_ble_eq_true rfl, Nat.le_of_ble_eq_true rfl⟩) hh hA (fun H locs en_498 hw_498 hh => ?_)
  obtain ⟨g_498, h_498, ea_498, eb_498, hu_498, hpr_498⟩ := hw_498
  have hI_498 : SX cy cs ad en_498 := SX_pt hI (fun c => c = (79 + 3 * wc) ∨ c = 11) (fun c hc => hu_498 c (fun q => hc (Or.inl q)) (fun q => hc (Or.inr q))) (fun c hc _ => by rcases hc with rfl | rfl; rw [ea_498]; exact mk_wor (by omega) ⟨_, rfl⟩; rw [eb_498]; exact mk_scr ⟨_, rfl⟩)
  have hf_498 : ∀ c, (c ≠ 0 ∧ c ≠ 11 ∧ c ≠ 79 + 3 * wc) → en_498 c = en c := fun c hc => (hu_498 c (by omega) (by omega)).trans (hf0 c hc)
  have es490_498 : en_498 0 = .inr (10, [.ref (ad 1), .ref (ad 12), .ref (ad 70), .ref (ad 74), .ref (ad 75), .ref (ad 76), .int (nI wc), .int lf_490]) := (hu_498 _ (by omega) (by omega)).trans es490
  have es491_498 : en_498 1 = .inr (7, [.ref (ad 2), .ref (ad 3), .ref (ad 10), .ref (ad 11), .int (nI cnt), .int (nI d), .int (nI mm)]) := (hu_498 _ (by omega) (by omega)).trans es491
  have es492_498 : en_498 74 = .inl (cy 5, 10, .inr (.inr (.inr (.inr (rfB ad 10 77 3))))) := (hu_498 _ (by omega) (by omega)).trans es492
  have es493_498 : en_498 (77 + 3 * wc) = .inr (9, [.ref (ad (78 + 3 * wc)), .ref (ad (79 + 3 * wc)), .int (nI lc_493)]) := (hu_498 _ (by omega) (by omega)).trans es493
  have es494_498 : en_498 (78 + 3 * wc) = .inl (cy 0, 12, .inl f_494) := (hu_498 _ (by omega) (by omega)).trans es494
  have es496_498 : en_498 3 = .inl (cy 8, 6, .inr (.inr (.inr (.inr (rfA ad 6 4))))) := (hu_498 _ (by omega) (by omega)).trans es496
  refine lv_aload_n hx hb dX11_finishWord_29 rfl (lv_at hl 1 rfl) ?_
  refine lv_dup hx hb dX11_finishWord_30 rfl ?_
  refine hp_get hx hb hts ix11 hown hK hh (q := 0) rfl (hI.1 _ (by decide)) es490_498 rfl 6 (by decide) (hts _ tw_251) (fun _ h9 => h9) rfl dX11_finishWord_31 ?_
  refine lv_iconst (v := 1) hx hb dX11_finishWord_34 (by decide) ?_
  refine lv_iadd hx hb dX11_finishWord_35 ?_
  rw [show (1 : Int32) = nI 1 from rfl, nI_add wc 1]
  refine hp_put hx hb hts ix11 tyX11 tyX11_ok nmX11 hown hK hh (q := 0) rfl (hI.1 _ (by decide)) es490_498 rfl 6 (by decide) (hts _ tw_251) (fun _ h9 => h9) rfl (ty := .int) (by decide +kernel) rfl rfl (Nat.le_of_ble_eq_true rfl) dX11_finishWord_36 (fun H locs en_499 hen_499 hh => ?_)
  have es491_499 : en_499 1 = .inr (7, [.ref (ad 2), .ref (ad 3), .ref (ad 10), .ref (ad 11), .int (nI cnt), .int (nI d), .int (nI mm)]) := by rw [hen_499, va_up_ne _ _ (by decide)]; exact es491_498
  have es492_499 : en_499 74 = .inl (cy 5, 10, .inr (.inr (.inr (.inr (rfB ad 10 77 3))))) := by rw [hen_499, va_up_ne _ _ (by decide)]; exact es492_498
  have es493_499 : en_499 (77 + 3 * wc) = .inr (9, [.ref (ad (78 + 3 * wc)), .ref (ad (79 + 3 * wc)), .int (nI lc_493)]) := by rw [hen_499, va_up_ne _ _ (by omega)]; exact es493_498
  have es494_499 : en_499 (78 + 3 * wc) = .inl (cy 0, 12, .inl f_494) := by rw [hen_499, va_up_ne _ _ (by omega)]; exact es494_498
  have es496_499 : en_499 3 = .inl (cy 8, 6, .inr (.inr (.inr (.inr (rfA ad 6 4))))) := by rw [hen_499, va_up_ne _ _ (by decide)]; exact es496_498
  have es490_499 : en_499 0 = .inr (10, [.ref (ad 1), .ref (ad 12), .ref (ad 70), .ref (ad 74), .ref (ad 75), .ref (ad 76), .int (nI (wc + 1)), .int lf_490]) := by rw [hen_499]; exact va_up_self _ _ _
  have hI_499 : SX cy cs ad en_499 := by rw [hen_499]; exact up_A hI_498 ⟨(wc + 1), lf_490, rfl, (by omega)⟩
  have hf_499 : ∀ c, (c ≠ 0 ∧ c ≠ 11 ∧ c ≠ 79 + 3 * wc) → en_499 c = en c := fun c hc => Eq.trans (show en_499 c = en_498 c from by rw [hen_499, va_up_ne _ _ (by omega)]) (hf_498 c hc)
  refine lv_aload_n hx hb dX11_finishWord_39 rfl (lv_at hl 1 rfl) ?_
  refine hp_get hx hb hts ix11 hown hK hh (q := 0) rfl (hI.1 _ (by decide)) es490_499 rfl 6 (by decide) (hts _ tw_251) (fun _ h9 => h9) rfl dX11_finishWord_40 ?_
  refine lv_iconst (v := 1) hx hb dX11_finishWord_43 (by decide) ?_
  refine lv_isub hx hb dX11_finishWord_44 ?_
  rw [show (1 : Int32) = nI 1 from rfl, pk_sub (a := (wc + 1)) (b := 1) (by omega)]
  have hq5 : (rdI (en 1) 5).toNatClampNeg = d := by rw [show rdI (en 1) 5 = nI d from by rw [es491]; rfl]; exact nI_clamp (by omega)
  have hq6 : (rdI (en 1) 6).toNatClampNeg = mm := by rw [show rdI (en 1) 6 = nI mm from by rw [es491]; rfl]; exact nI_clamp (by omega)
  have hq2 : (rdI (en (77 + 3 * wc)) 2).toNatClampNeg = lc_493 := by rw [show rdI (en (77 + 3 * wc)) 2 = nI lc_493 from by rw [es493]; rfl]; exact nI_clamp (by omega)
  have hq8 : rdF (en (78 + 3 * wc)) = f_494 := by rw [es494]; rfl
  exact hp_iretM hx hb hr rfl hlocks hh (⟨hI_499, hf_499, (congrArg nI (by omega)), (by rw [es490_499]; exact congrArg nI (by omega)), (fun i hi => by rw [hq5] at hi; rw [hq5, hq6, hq2, hq8, show en_499 (79 + 3 * wc) = en_498 (79 + 3 * wc) from by rw [hen_499, va_up_ne _ _ (by omega)], ea_498]; exact hpr_498 i hi)⟩) dX11_finishWord_45
theorem kw_X11_finishWord {R : Room} {s : State} {args : Array Value} {own : String} {idx : Nat} (hts : ∀ w ∈ TB, w.before args s = true) (hl : Cond.methodLink own idx yX11_finishWord ∈ TB) (hR : 3 + 1 ≤ R.frames ∧ 8 + (2 + 11) + 40 * 3 ≤ R.locals) : CallW R s args own RX11 idx yX11_finishWord cX11_finishWord 2 (some .int) (Cond.code yX11_finishWord cX11_finishWord 2 (some .int) :: TB) (rmN 3) 0 0 0 := cwV 0 hts (TB_V hl tw_691 ts_25 tw_1 tw_692) rfl rfl rfl (by decide +kernel) hR
