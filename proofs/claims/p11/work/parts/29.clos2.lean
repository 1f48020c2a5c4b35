set_option maxHeartbeats 4000000 in
set_option maxRecDepth 100000 in
/-- take -/
theorem c_X0_take (l : Launch) (D : va_G) (cy : Nat → ClassId) (sz : Nat) (cs : List Nat) (ad : Nat → Nat) (en : Nat → va_E) {ka kb kc : Nat} (hI : SC cy cs ad ka kb kc en) (q : Nat) (hq : q ∈ cs) (hq9 : q < 70 ∨ (70 < q ∧ q < 115)) (fa : Nat → Int64) (wl : Int32) (eq : en q = .inl (cy 1, 9, .inr (.inl fa)))  : Met l yX0_take (Cond.code yX0_take cX0_take 4 (some .boolean) :: TB) (rmN 2) (va_Pc [.ref (ad 70), .ref (ad q), .int wl] (Pre D cy cs ad en sz)) (va_Qi (S := Nat → va_E) (fun r en1 => SC cy cs ad ka kb kc en1 ∧ (∀ c, (c ≠ 70 ∧ c ≠ ka ∧ c ≠ kb ∧ c ≠ kc) → en1 c = en c) ∧ (r = 0 ∨ r = 1)) (PostM D cs ad) (Af cs ad sz)) 0 0 (Af cs ad sz) := by
  refine Met.ofW (cc := cX0_take) (maxL := 4) (ret := (some .boolean)) (by decide) rfl ?_
  intro p e s m args below meth c s₁ B hml hv
  obtain ⟨rfl, hsz, hP, hK, hD0⟩ := hv
  have hx := B.exec
  have hb := B.bytes
  have hr := B.returns
  have hts : ∀ w ∈ TB, w.before _ s = true := fun w h => atoms_spec (ws := _ :: TB) B.pre w (List.mem_cons_of_mem _ h)
  have hown : s.vm.findClass RX0 = some m.cls := findClass_of_methodNamed B.named
  have hlocks := B.notSynchronized
  have hh : Hp D (Af cs ad sz) (Af cs ad sz) s.heap s.heap [] cs ad en := ⟨hP, Af_self hD0, va_S.rf⟩
  have hA : ∀ q : Nat, s.heap.size ≤ q → Af cs ad sz q := fun q h => Or.inr (by rw [hsz] at h; exact h)
  have hl := lv_entry ([.ref (ad 70), .ref (ad q), .int wl]) (n := 4) (Nat.le_of_ble_eq_true rfl)
  rw [lg_entry_eq]
  generalize (lg_sl ([.ref (ad 70), .ref (ad q), .int wl]) ++ List.replicate (4 - (lg_sl ([.ref (ad 70), .ref (ad q), .int wl])).length) Slot.unset).toArray = ls at hl ⊢
  have hl : lv_has ls 4 [(0, .ref (ad 70)), (1, .ref (ad q)), (2, .int wl)] := hl
  have hka1 : 115 ≤ ka := hI.2.1.2.2.2.1
  have hka2 : ka < kb := hI.2.1.2.2.2.2.1
  have hka3 : kb < kc := hI.2.1.2.2.2.2.2
  have hf0 : ∀ c, (c ≠ 70 ∧ c ≠ ka ∧ c ≠ kb ∧ c ≠ kc) → en c = en c := fun _ _ => rfl
  obtain ⟨sta_656, cc_656, ct_656, un_656, ow_656, hn_656, es656, p0_656, p1_656, p2_656, p3_656⟩ := get2_C hI
  refine lv_aload_n hx hb dX0_take_0 rfl (lv_at hl 0 rfl) ?_
  refine lv_aload_n hx hb dX0_take_1 rfl (lv_at hl 1 rfl) ?_
  refine hp_callRi (va_runV (As := [.ref (ad q)]) (rest := []) ⟨hx, hb, hml, hown, hts⟩ (c_X0_isBeyond l D cy _ cs ad en hI  q hq (by omega) fa  eq) (kw_X0_isBeyond hts tw_598 ⟨by decide, by decide⟩) (preV_of hh hK (hI.1.1 _ (by decide)) es656 rfl) rfl rfl hl.1 rfl (lv_room (Nat.le_of_ble_eq_true rfl)) dX0_take_2 ⟨Nat.le_of_ble_eq_true rfl, Nat.le_of_ble_eq_true rfl⟩) hh hA (fun r_657 H locs hw_657 hh => ?_)
  rcases hw_657 with hb_657 | hb_657
  · obtain rfl : r_657 = 0 := hb_657
    refine lv_if_eq (tgt := 10) hx hb dX0_take_5 (by decide) (fun _ => ?_) (fun c_0 => absurd c_0 (by decide))
    refine lv_aload_n hx hb dX0_take_10 rfl (lv_at hl 0 rfl) ?_
    refine lv_aload_n hx hb dX0_take_11 rfl (lv_at hl 1 rfl) ?_
    refine hp_callRi (va_runV (As := [.ref (ad q)]) (rest := []) ⟨hx, hb, hml, hown, hts⟩ (c_X0_slotOf l D cy _ cs ad en hI  q hq (by omega) fa  eq) (kw_X0_slotOf hts tw_604 ⟨by decide, by decide⟩) (preV_of hh hK (hI.1.1 _ (by decide)) es656 rfl) rfl rfl hl.1 rfl (lv_room (Nat.le_of_ble_eq_true rfl)) dX0_take_12 ⟨Nat.le_of_ble_eq_true rfl, Nat.le_of_ble_eq_true rfl⟩) hh hA (fun r_658 H locs hw_658 hh => ?_)
    obtain ⟨S_658, hS_658, rfl⟩ := hw_658
    refine lv_istore_n (lv' := [(3, .int (nI S_658)), (0, .ref (ad 70)), (1, .ref (ad q)), (2, .int wl)]) hx hb dX0_take_15 rfl hl (by decide) rfl (fun ls hl => ?_)
    refine lv_aload_n hx hb dX0_take_16 rfl (lv_at hl 1 rfl) ?_
    refine hp_get hx hb hts ix0 hown hK hh (q := 70) rfl (hI.1.1 _ (by decide)) es656 rfl 6 (by decide) (hts _ tw_153) (fun _ h9 => h9) rfl dX0_take_17 ?_
    refine lv_iload_n hx hb dX0_take_20 rfl (lv_at hl 0 rfl) ?_
    obtain ⟨f_659, es659, p0_659⟩ := get2_ec hI
    refine hp_iald hx hb hK hh (q := kc) rfl hI.2.1.2.2.1 es659 (vp_in_nI (n := S_658) (by omega) (by decide)) dX0_take_21 ?_
    rw [nI_clamp (n := S_658) (by omega)]
    obtain ⟨v_660, hv_660, hfv_660⟩ := p0_659 S_658 (by omega)
    rw [hfv_660]
    refine lv_if_eq (tgt := 27) hx hb dX0_take_22 (by decide) (fun c_661 => ?_) (fun c_661 => ?_)
    · have n_661 : v_660 = 0 := n_eq (a := v_660) (b := 0) c_661 (by omega) (by decide)
      refine lv_aload_n hx hb dX0_take_27 rfl (lv_at hl 1 rfl) ?_
      refine hp_get hx hb hts ix0 hown hK hh (q := 70) rfl (hI.1.1 _ (by decide)) es656 rfl 9 (by decide) (hts _ tw_156) (fun _ h9 => h9) rfl dX0_take_28 ?_
      refine lv_sipush (v := 2000) hx hb dX0_take_31 (by decide) ?_
      refine lv_icmp_lt (tgt := 39) hx hb dX0_take_34 (by decide) (fun c_662 => ?_) (fun c_662 => ?_)
      · have n_662 : ct_656 < 2000 := n_lt (a := ct_656) (b := 2000) c_662 (by omega) (by decide)
        refine lv_aload_n hx hb dX0_take_39 rfl (lv_at hl 2 rfl) ?_
        refine lv_iconst (v := 0) hx hb dX0_take_40 (by decide) ?_
        refine lv_aload_n hx hb dX0_take_41 rfl (lv_at hl 1 rfl) ?_
        refine hp_get hx hb hts ix0 hown hK hh (q := 70) rfl (hI.1.1 _ (by decide)) es656 rfl 4 (by decide) (hts _ tw_151) (fun _ h9 => h9) rfl dX0_take_42 ?_
        refine lv_aload_n hx hb dX0_take_45 rfl (lv_at hl 1 rfl) ?_
        refine hp_get hx hb hts ix0 hown hK hh (q := 70) rfl (hI.1.1 _ (by decide)) es656 rfl 9 (by decide) (hts _ tw_156) (fun _ h9 => h9) rfl dX0_take_46 ?_
        refine lv_bipush (v := 9) hx hb dX0_take_49 (by decide) ?_
        refine lv_imul hx hb dX0_take_51 ?_
        rw [show (9 : Int32) = nI 9 from rfl, pk_mul ct_656 9]
        refine lv_aload_n hx hb dX0_take_52 rfl (lv_at hl 1 rfl) ?_
        refine hp_get hx hb hts ix0 hown hK hh (q := 70) rfl (hI.1.1 _ (by decide)) es656 rfl 8 (by decide) (hts _ tw_155) (fun _ h9 => h9) rfl dX0_take_53 ?_
        obtain ⟨f_663, es663⟩ := get2_ea hI
        refine W.eq (g2 := F0 m 56 ls [.int (nI cc_656), .int (nI (ct_656 * 9)), .ref (ad ka), .int (nI 0), .ref (ad q)]) rfl ?_
        refine hp_copyl hx hb (hml.trans hl.1.symm) hown (hts _ tw_617) (hts _ tw_340) (hts _ tw_339) (hts _ tw_12) hK hh hq hI.2.1.1 eq es663 0 (ct_656 * 9) cc_656 (by decide) (by omega) (by omega) (by omega) (by omega) (Nat.le_of_ble_eq_true rfl) (Nat.le_of_ble_eq_true rfl) dX0_take_56 (fun H locs en_664 hen_664 hh => ?_)
        have eq_664 : en_664 q = .inl (cy 1, 9, .inr (.inl fa)) := by rw [hen_664, va_up_ne _ _ (by omega)]; exact eq
        have es656_664 : en_664 70 = .inr (0, [.ref (ad 1), .ref (ad 71), .ref (ad 72), .ref (ad 73), .ref (ad ka), .ref (ad kb), .ref (ad kc), .int (nI sta_656), .int (nI cc_656), .int (nI ct_656), .int un_656, .int ow_656, .int (nI hn_656)]) := by rw [hen_664, va_up_ne _ _ (by omega)]; exact es656
        have es659_664 : en_664 kc = .inl (cy 0, 4096, .inl f_659) := by rw [hen_664, va_up_ne _ _ (by omega)]; exact es659
        have es663_664 : en_664 ka = .inl (cy 1, 18000, .inr (.inl (va_cpy fa f_663 0 (ct_656 * 9) cc_656))) := by rw [hen_664]; exact va_up_self _ _ _
        have hI_664 : SC cy cs ad ka kb kc en_664 := by rw [hen_664]; exact up2_ea hI ⟨(va_cpy fa f_663 0 (ct_656 * 9) cc_656), rfl⟩
        have hf_664 : ∀ c, (c ≠ 70 ∧ c ≠ ka ∧ c ≠ kb ∧ c ≠ kc) → en_664 c = en c := fun c hc => Eq.trans (show en_664 c = en c from by rw [hen_664, va_up_ne _ _ (by omega)]) (hf0 c hc)
        refine lv_aload_n hx hb dX0_take_59 rfl (lv_at hl 1 rfl) ?_
        refine hp_get hx hb hts ix0 hown hK hh (q := 70) rfl (hI.1.1 _ (by decide)) es656_664 rfl 5 (by decide) (hts _ tw_152) (fun _ h9 => h9) rfl dX0_take_60 ?_
        refine lv_aload_n hx hb dX0_take_63 rfl (lv_at hl 1 rfl) ?_
        refine hp_get hx hb hts ix0 hown hK hh (q := 70) rfl (hI.1.1 _ (by decide)) es656_664 rfl 9 (by decide) (hts _ tw_156) (fun _ h9 => h9) rfl dX0_take_64 ?_
        refine lv_iload_n hx hb dX0_take_67 rfl (lv_at hl 3 rfl) ?_
        obtain ⟨f_665, es665⟩ := get2_eb hI_664
        refine hp_iast hx hb hK hh (q := kb) rfl hI.2.1.2.1 es665 (vp_in_nI (n := ct_656) (by omega) (by decide)) dX0_take_68 (fun H locs en_666 hen_666 hh => ?_)
        rw [nI_clamp (n := ct_656) (by omega)] at hen_666
        have eq_666 : en_666 q = .inl (cy 1, 9, .inr (.inl fa)) := by rw [hen_666, va_up_ne _ _ (by omega)]; exact eq_664
        have es656_666 : en_666 70 = .inr (0, [.ref (ad 1), .ref (ad 71), .ref (ad 72), .ref (ad 73), .ref (ad ka), .ref (ad kb), .ref (ad kc), .int (nI sta_656), .int (nI cc_656), .int (nI ct_656), .int un_656, .int ow_656, .int (nI hn_656)]) := by rw [hen_666, va_up_ne _ _ (by omega)]; exact es656_664
        have es659_666 : en_666 kc = .inl (cy 0, 4096, .inl f_659) := by rw [hen_666, va_up_ne _ _ (by omega)]; exact es659_664
        have es663_666 : en_666 ka = .inl (cy 1, 18000, .inr (.inl (va_cpy fa f_663 0 (ct_656 * 9) cc_656))) := by rw [hen_666, va_up_ne _ _ (by omega)]; exact es663_664
        have es665_666 : en_666 kb = .inl (cy 0, 2000, .inl (upd f_665 ct_656 wl)) := by rw [hen_666]; exact va_up_self _ _ _
        have hI_666 : SC cy cs ad ka kb kc en_666 := by rw [hen_666]; exact up2_eb hI_664 ⟨(upd f_665 ct_656 wl), rfl⟩
        have hf_666 : ∀ c, (c ≠ 70 ∧ c ≠ ka ∧ c ≠ kb ∧ c ≠ kc) → en_666 c = en c := fun c hc => Eq.trans (show en_666 c = en_664 c from by rw [hen_666, va_up_ne _ _ (by omega)]) (hf_664 c hc)
        refine lv_aload_n hx hb dX0_take_69 rfl (lv_at hl 1 rfl) ?_
        refine lv_dup hx hb dX0_take_70 rfl ?_
        refine hp_get hx hb hts ix0 hown hK hh (q := 70) rfl (hI.1.1 _ (by decide)) es656_666 rfl 9 (by decide) (hts _ tw_156) (fun _ h9 => h9) rfl dX0_take_71 ?_
        refine lv_iconst (v := 1) hx hb dX0_take_74 (by decide) ?_
        refine lv_iadd hx hb dX0_take_75 ?_
        rw [show (1 : Int32) = nI 1 from rfl, nI_add ct_656 1]
        refine hp_put hx hb hts ix0 tyX0 tyX0_ok nmX0 hown hK hh (q := 70) rfl (hI.1.1 _ (by decide)) es656_666 rfl 9 (by decide) (hts _ tw_156) (fun _ h9 => h9) rfl (ty := .int) (by decide +kernel) rfl rfl (Nat.le_of_ble_eq_true rfl) dX0_take_76 (fun H locs en_667 hen_667 hh => ?_)
        have eq_667 : en_667 q = .inl (cy 1, 9, .inr (.inl fa)) := by rw [hen_667, va_up_ne _ _ (by omega)]; exact eq_666
        have es659_667 : en_667 kc = .inl (cy 0, 4096, .inl f_659) := by rw [hen_667, va_up_ne _ _ (by omega)]; exact es659_666
        have es663_667 : en_667 ka = .inl (cy 1, 18000, .inr (.inl (va_cpy fa f_663 0 (ct_656 * 9) cc_656))) := by rw [hen_667, va_up_ne _ _ (by omega)]; exact es663_666
        have es665_667 : en_667 kb = .inl (cy 0, 2000, .inl (upd f_665 ct_656 wl)) := by rw [hen_667, va_up_ne _ _ (by omega)]; exact es665_666
        have es656_667 : en_667 70 = .inr (0, [.ref (ad 1), .ref (ad 71), .ref (ad 72), .ref (ad 73), .ref (ad ka), .ref (ad kb), .ref (ad kc), .int (nI sta_656), .int (nI cc_656), .int (nI (ct_656 + 1)), .int un_656, .int ow_656, .int (nI hn_656)]) := by rw [hen_667]; exact va_up_self _ _ _
        have hI_667 : SC cy cs ad ka kb kc en_667 := by rw [hen_667]; exact up2_C hI_666 ⟨sta_656, cc_656, (ct_656 + 1), un_656, ow_656, hn_656, rfl, p0_656, p1_656, (by omega), p3_656⟩
        have hf_667 : ∀ c, (c ≠ 70 ∧ c ≠ ka ∧ c ≠ kb ∧ c ≠ kc) → en_667 c = en c := fun c hc => Eq.trans (show en_667 c = en_666 c from by rw [hen_667, va_up_ne _ _ (by omega)]) (hf_666 c hc)
        refine lv_aload_n hx hb dX0_take_79 rfl (lv_at hl 1 rfl) ?_
        refine hp_get hx hb hts ix0 hown hK hh (q := 70) rfl (hI.1.1 _ (by decide)) es656_667 rfl 6 (by decide) (hts _ tw_153) (fun _ h9 => h9) rfl dX0_take_80 ?_
        refine lv_iload_n hx hb dX0_take_83 rfl (lv_at hl 0 rfl) ?_
        refine lv_aload_n hx hb dX0_take_84 rfl (lv_at hl 1 rfl) ?_
        refine hp_get hx hb hts ix0 hown hK hh (q := 70) rfl (hI.1.1 _ (by decide)) es656_667 rfl 9 (by decide) (hts _ tw_156) (fun _ h9 => h9) rfl dX0_take_85 ?_
        refine hp_iast hx hb hK hh (q := kc) rfl hI.2.1.2.2.1 es659_667 (vp_in_nI (n := S_658) (by omega) (by decide)) dX0_take_88 (fun H locs en_668 hen_668 hh => ?_)
        rw [nI_clamp (n := S_658) (by omega)] at hen_668
        have eq_668 : en_668 q = .inl (cy 1, 9, .inr (.inl fa)) := by rw [hen_668, va_up_ne _ _ (by omega)]; exact eq_667
        have es663_668 : en_668 ka = .inl (cy 1, 18000, .inr (.inl (va_cpy fa f_663 0 (ct_656 * 9) cc_656))) := by rw [hen_668, va_up_ne _ _ (by omega)]; exact es663_667
        have es665_668 : en_668 kb = .inl (cy 0, 2000, .inl (upd f_665 ct_656 wl)) := by rw [hen_668, va_up_ne _ _ (by omega)]; exact es665_667
        have es656_668 : en_668 70 = .inr (0, [.ref (ad 1), .ref (ad 71), .ref (ad 72), .ref (ad 73), .ref (ad ka), .ref (ad kb), .ref (ad kc), .int (nI sta_656), .int (nI cc_656), .int (nI (ct_656 + 1)), .int un_656, .int ow_656, .int (nI hn_656)]) := by rw [hen_668, va_up_ne _ _ (by omega)]; exact es656_667
        have es659_668 : en_668 kc = .inl (cy 0, 4096, .inl (upd f_659 S_658 (nI (ct_656 + 1)))) := by rw [hen_668]; exact va_up_self _ _ _
        have hI_668 : SC cy cs ad ka kb kc en_668 := by rw [hen_668]; exact up2_ec hI_667 ⟨(upd f_659 S_658 (nI (ct_656 + 1))), rfl, (vals_updB p0_659 (by omega))⟩
        have hf_668 : ∀ c, (c ≠ 70 ∧ c ≠ ka ∧ c ≠ kb ∧ c ≠ kc) → en_668 c = en c := fun c hc => Eq.trans (show en_668 c = en_667 c from by rw [hen_668, va_up_ne _ _ (by omega)]) (hf_667 c hc)
        refine lv_iconst (v := 1) hx hb dX0_take_89 (by decide) ?_
        exact hp_iretM hx hb hr rfl hlocks hh (⟨hI_668, hf_668, Or.inr rfl⟩) dX0_take_90
      · have n_662 : 2000 ≤ ct_656 := n_nlt (a := ct_656) (b := 2000) c_662 (by omega) (by decide)
        refine lv_iconst (v := 0) hx hb dX0_take_37 (by decide) ?_
        exact hp_iretM hx hb hr rfl hlocks hh (⟨hI, hf0, Or.inl rfl⟩) dX0_take_38
    · have n_661 : v_660 ≠ 0 := n_neq (a := v_660) (b := 0) c_661 (by omega) (by decide)
      refine lv_iconst (v := 1) hx hb dX0_take_25 (by decide) ?_
      exact hp_iretM hx hb hr rfl hlocks hh (⟨hI, hf0, Or.inr rfl⟩) dX0_take_26
  · obtain rfl : r_657 = 1 := hb_657
    refine lv_if_eq (tgt := 10) hx hb dX0_take_5 (by decide) (fun c_0 => absurd c_0 (by decide)) (fun _ => ?_)
    refine lv_iconst (v := 0) hx hb dX0_take_8 (by decide) ?_
    exact hp_iretM hx hb hr rfl hlocks hh (⟨hI, hf0, Or.inl rfl⟩) dX0_take_9
theorem kw_X0_take {R : Room} {s : State} {args : Array Value} {own : String} {idx : Nat} (hts : ∀ w ∈ TB, w.before args s = true) (hl : Cond.methodLink own idx yX0_take ∈ TB) (hR : 2 + 1 ≤ R.frames ∧ 8 + (4 + 11) + 40 * 2 ≤ R.locals) : CallW R s args own RX0 idx yX0_take cX0_take 4 (some .boolean) (Cond.code yX0_take cX0_take 4 (some .boolean) :: TB) (rmN 2) 0 0 2 := cwV 2 hts (TB_V hl tw_596 ts_15 tw_5 tw_597) rfl rfl rfl (by decide +kernel) hR
set_option maxHeartbeats 4000000 in
set_option maxRecDepth 100000 in
/-- extendByLetters -/
theorem c_X0_extendByLetters (l : Launch) (D : va_G) (cy : Nat → ClassId) (sz : Nat) (cs : List Nat) (ad : Nat → Nat) (en : Nat → va_E) {ka kb kc : Nat} (hI : SC cy cs ad ka kb kc en) (k : Nat) (hk : k < 2000)   : Met l yX0_extendByLetters (Cond.code yX0_extendByLetters cX0_extendByLetters 3 (some .boolean) :: TB) (rmN 3) (va_Pc [.ref (ad 70), .int (nI k)] (Pre D cy cs ad en sz)) (va_Qi (S := Nat → va_E) (fun r en1 => SC cy cs ad ka kb kc en1 ∧ (∀ c, ((c < 70 ∨ 74 ≤ c) ∧ c ≠ ka ∧ c ≠ kb ∧ c ≠ kc) → en1 c = en c) ∧ (r = 0 ∨ r = 1)) (PostM D cs ad) (Af cs ad sz)) 0 0 (Af cs ad sz) := by
  refine Met.ofW (cc := cX0_extendByLetters) (maxL := 3) (ret := (some .boolean)) (by decide) rfl ?_
  intro p e s m args below meth c s₁ B hml hv
  obtain ⟨rfl, hsz, hP, hK, hD0⟩ := hv
  have hx := B.exec
  have hb := B.bytes
  have hr := B.returns
  have hts : ∀ w ∈ TB, w.before _ s = true := fun w h => atoms_spec (ws := _ :: TB) B.pre w (List.mem_cons_of_mem _ h)
  have hown : s.vm.findClass RX0 = some m.cls := findClass_of_methodNamed B.named
  have hlocks := B.notSynchronized
  have hh : Hp D (Af cs ad sz) (Af cs ad sz) s.heap s.heap [] cs ad en := ⟨hP, Af_self hD0, va_S.rf⟩
  have hA : ∀ q : Nat, s.heap.size ≤ q → Af cs ad sz q := fun q h => Or.inr (by rw [hsz] at h; exact h)
  have hl := lv_entry ([.ref (ad 70), .int (nI k)]) (n := 3) (Nat.le_of_ble_eq_true rfl)
  rw [lg_entry_eq]
  generalize (lg_sl ([.ref (ad 70), .int (nI k)]) ++ List.replicate (3 - (lg_sl ([.ref (ad 70), .int (nI k)])).length) Slot.unset).toArray = ls at hl ⊢
  have hl : lv_has ls 3 [(0, .ref (ad 70)), (1, .int (nI k))] := hl
  have hka1 : 115 ≤ ka := hI.2.1.2.2.2.1
  have hka2 : ka < kb := hI.2.1.2.2.2.2.1
  have hka3 : kb < kc := hI.2.1.2.2.2.2.2
  have hf0 : ∀ c, ((c < 70 ∨ 74 ≤ c) ∧ c ≠ ka ∧ c ≠ kb ∧ c ≠ kc) → en c = en c := fun _ _ => rfl
  obtain ⟨cnt, d, mm, es669, hcnt, hd2, hd3, hmm⟩ := get2_T hI
  obtain ⟨sta_670, cc_670, ct_670, un_670, ow_670, hn_670, es670, p0_670, p1_670, p2_670, p3_670⟩ := get2_C hI
  refine lv_aload_n hx hb dX0_extendByLetters_0 rfl (lv_at hl 0 rfl) ?_
  refine lv_iload_n hx hb dX0_extendByLetters_1 rfl (lv_at hl 1 rfl) ?_
  refine lv_aload_n hx hb dX0_extendByLetters_2 rfl (lv_at hl 0 rfl) ?_
  refine hp_get hx hb hts ix0 hown hK hh (q := 70) rfl (hI.1.1 _ (by decide)) es670 rfl 1 (by decide) (hts _ tw_148) (fun _ h9 => h9) rfl dX0_extendByLetters_3 ?_
  obtain ⟨f_671, es671⟩ := get2_cl hI
  obtain ⟨f_673, es673⟩ := get2_ea hI
  refine hp_callMv (va_runV (As := [.int (nI k), .ref (ad 71)]) (rest := []) ⟨hx, hb, hml, hown, hts⟩ (c_X0_load l D cy _ cs ad en ka kb kc k (by omega) (hI.1.1 _ (by decide)) hI.2.1.1 71 (hI.1.1 _ (by decide)) (by omega) (by omega) sta_670 cc_670 ct_670 un_670 ow_670 hn_670 f_673 f_671 es670 es673 es671   ) (kw_X0_load hts tw_622 ⟨by decide, by decide⟩) (preV_of hh hK (hI.1.1 _ (by decide)) es670 rfl) rfl rfl hl.1 rfl (lv_room (Nat.le_of_ble_eq_true rfl)) dX0_extendByLetters_6 ⟨Nat.le_of_ble_eq_true rfl, Nat.le_of_ble_eq_true rfl⟩) hh hA (fun H locs en_672 hw_672 hh => ?_)
  have hen_672 := hw_672
  have es669_672 : en_672 1 = .inr (7, [.ref (ad 2), .ref (ad 3), .ref (ad 10), .ref (ad 11), .int (nI cnt), .int (nI d), .int (nI mm)]) := by rw [hen_672, va_up_ne _ _ (by decide)]; exact es669
  have es670_672 : en_672 70 = .inr (0, [.ref (ad 1), .ref (ad 71), .ref (ad 72), .ref (ad 73), .ref (ad ka), .ref (ad kb), .ref (ad kc), .int (nI sta_670), .int (nI cc_670), .int (nI ct_670), .int un_670, .int ow_670, .int (nI hn_670)]) := by rw [hen_672, va_up_ne _ _ (by decide)]; exact es670
  have es673_672 : en_672 ka = .inl (cy 1, 18000, .inr (.inl f_673)) := by rw [hen_672, va_up_ne _ _ (by omega)]; exact es673
  have es671_672 : en_672 71 = .inl (cy 1, 9, .inr (.inl (va_cpy f_673 f_671 (k * 9) 0 9))) := by rw [hen_672]; exact va_up_self _ _ _
  have hI_672 : SC cy cs ad ka kb kc en_672 := by rw [hen_672]; exact up2_cl hI ⟨(va_cpy f_673 f_671 (k * 9) 0 9), rfl⟩
  have hf_672 : ∀ c, ((c < 70 ∨ 74 ≤ c) ∧ c ≠ ka ∧ c ≠ kb ∧ c ≠ kc) → en_672 c = en c := fun c hc => Eq.trans (show en_672 c = en c from by rw [hen_672, va_up_ne _ _ (by omega)]) (hf0 c hc)
  refine lv_iconst (v := 0) hx hb dX0_extendByLetters_9 (by decide) ?_
  refine lv_istore_n (lv' := [(2, .int 0), (0, .ref (ad 70)), (1, .int (nI k))]) hx hb dX0_extendByLetters_10 rfl hl (by decide) rfl (fun ls hl => ?_)
  have loop_674 : ∀ (fu j674 : Nat)  (en_674 : Nat → va_E) (ls : Array Slot) (H : Heap) (locs : List Loc), 0 ≤ j674 → j674 ≤ cnt → cnt < j674 + fu → SC cy cs ad ka kb kc en_674 → (∀ c, ((c < 70 ∨ 74 ≤ c) ∧ c ≠ ka ∧ c ≠ kb ∧ c ≠ kc) → en_674 c = en c) →  lv_has ls 3 [(2, .int (nI j674)), (0, .ref (ad 70)), (1, .int (nI k))] → Hp D (Af cs ad sz) (Af cs ad sz) s.heap H locs cs ad en_674 → W p l e (headSpec (Cond.code yX0_extendByLetters cX0_extendByLetters 3 (some .boolean) :: TB) (rmN 3)).room s m ([.ref (ad 70), .int (nI k)] : List Value).toArray below meth c H locs 0 0 (MQ below (va_Qi (S := Nat → va_E) (fun r en1 => SC cy cs ad ka kb kc en1 ∧ (∀ c, ((c < 70 ∨ 74 ≤ c) ∧ c ≠ ka ∧ c ≠ kb ∧ c ≠ kc) → en1 c = en c) ∧ (r = 0 ∨ r = 1)) (PostM D cs ad) (Af cs ad sz)) ([.ref (ad 70), .int (nI k)] : List Value).toArray s 0 0 (Af cs ad sz)) (F0 m 11 ls []) := by
    intro fu
    induction fu with
    | zero => intro j674  en_674 ls H locs h0 h1 h2; exact absurd h2 (by omega)
    | succ fu ih_674 =>
      intro j674  en_674 ls H locs hj0_674 hj_674 hfu_674 hI_674 hf_674  hl hh
      refine lv_iload_n hx hb dX0_extendByLetters_11 rfl (lv_at hl 0 rfl) ?_
      refine lv_aload_n hx hb dX0_extendByLetters_12 rfl (lv_at hl 1 rfl) ?_
      obtain ⟨sta_675, cc_675, ct_675, un_675, ow_675, hn_675, es675, p0_675, p1_675, p2_675, p3_675⟩ := get2_C hI_674
      refine hp_get hx hb hts ix0 hown hK hh (q := 70) rfl (hI.1.1 _ (by decide)) es675 rfl 0 (by decide) (hts _ tw_147) (fun _ h9 => h9) rfl dX0_extendByLetters_13 ?_
      have es669_676 : en_674 1 = .inr (7, [.ref (ad 2), .ref (ad 3), .ref (ad 10), .ref (ad 11), .int (nI cnt), .int (nI d), .int (nI mm)]) := (hf_674 1 (by omega)).trans es669
      refine hp_callRi (va_runV (As := []) (rest := [.int (nI j674)]) ⟨hx, hb, hml, hown, hts⟩ (c_X8_count l D cy _ cs ad en_674 (hI.1.1 _ (by decide)) cnt d mm hcnt hd2 hd3 hmm  es669_676) (kw_X8_count hts tw_592 ⟨by decide, by decide⟩) (preV_of hh hK (hI.1.1 _ (by decide)) es669_676 rfl) rfl rfl hl.1 rfl (lv_room (Nat.le_of_ble_eq_true rfl)) dX0_extendByLetters_16 ⟨Nat.le_of_ble_eq_true rfl, Nat.le_of_ble_eq_true rfl⟩) hh hA (fun r_677 H locs hw_677 hh => ?_)
      obtain rfl : r_677 = (nI cnt) := hw_677
      refine lv_icmp_ge (tgt := 72) hx hb dX0_extendByLetters_19 (by decide) (fun c_678 => ?_) (fun c_678 => ?_)
      · have n_678 : cnt ≤ j674 := n_le (a := cnt) (b := j674) c_678 (by omega) (by omega)
        refine lv_iconst (v := 1) hx hb dX0_extendByLetters_72 (by decide) ?_
        exact hp_iretM hx hb hr rfl hlocks hh (⟨hI_674, hf_674, Or.inr rfl⟩) dX0_extendByLetters_73
      · have n_678 : j674 < cnt := n_nle (a := cnt) (b := j674) c_678 (by omega) (by omega)
        refine lv_aload_n hx hb dX0_extendByLetters_22 rfl (lv_at hl 1 rfl) ?_
        refine hp_get hx hb hts ix0 hown hK hh (q := 70) rfl (hI.1.1 _ (by decide)) es675 rfl 0 (by decide) (hts _ tw_147) (fun _ h9 => h9) rfl dX0_extendByLetters_23 ?_
        refine lv_aload_n hx hb dX0_extendByLetters_26 rfl (lv_at hl 1 rfl) ?_
        refine hp_get hx hb hts ix0 hown hK hh (q := 70) rfl (hI.1.1 _ (by decide)) es675 rfl 1 (by decide) (hts _ tw_148) (fun _ h9 => h9) rfl dX0_extendByLetters_27 ?_
        refine lv_aload_n hx hb dX0_extendByLetters_30 rfl (lv_at hl 1 rfl) ?_
        refine hp_get hx hb hts ix0 hown hK hh (q := 70) rfl (hI.1.1 _ (by decide)) es675 rfl 0 (by decide) (hts _ tw_147) (fun _ h9 => h9) rfl dX0_extendByLetters_31 ?_
        refine lv_iload_n hx hb dX0_extendByLetters_34 rfl (lv_at hl 0 rfl) ?_
        have es679 := get2_rows hI_674
        unfold P_rows at es679
        refine hp_callRq (va_runV (As := [.int (nI j674)]) (rest := [.ref (ad 71), .ref (ad 1)]) ⟨hx, hb, hml, hown, hts⟩ (c_X8_rowOf l D cy _ cs ad en_674 (hI.1.1 _ (by decide)) (hI.1.1 _ (by decide)) cnt d mm hcnt hd2 hd3 hmm j674 (by omega) es669_676 es679) (kw_X8_rowOf hts tw_593 ⟨by decide, by decide⟩) (preV_of hh hK (hI.1.1 _ (by decide)) es669_676 rfl) rfl rfl hl.1 rfl (lv_room (Nat.le_of_ble_eq_true rfl)) dX0_extendByLetters_35 ⟨Nat.le_of_ble_eq_true rfl, Nat.le_of_ble_eq_true rfl⟩) hh hA (fun r_680 H locs hw_680 hh => ?_)
        obtain rfl : r_680 = some (ad (4 + j674)) := hw_680
        refine W.eq (g2 := F0 m 38 ls [.ref (ad (4 + j674)), .ref (ad 71), .ref (ad 1)]) rfl ?_
        refine lv_aload_n hx hb dX0_extendByLetters_38 rfl (lv_at hl 1 rfl) ?_
        refine hp_get hx hb hts ix0 hown hK hh (q := 70) rfl (hI.1.1 _ (by decide)) es675 rfl 3 (by decide) (hts _ tw_150) (fun _ h9 => h9) rfl dX0_extendByLetters_39 ?_
        obtain ⟨f_681, es681⟩ := get2_cd hI_674
        obtain ⟨f_682, es682⟩ := get2_row hI_674 (j := j674) (by omega)
        obtain ⟨f_683, es683⟩ := get2_cl hI_674
        refine hp_callMv (va_runV (As := [.ref (ad 71), .ref (ad (4 + j674)), .ref (ad 73)]) (rest := []) ⟨hx, hb, hml, hown, hts⟩ (c_X8_multiply l D cy _ cs ad en_674 (hI.1.1 _ (by decide)) cnt d mm hcnt hd2 hd3 hmm 71 (4 + j674) 73 (hI.1.1 _ (by decide)) (hI.1.1 _ (by omega)) (hI.1.1 _ (by decide)) (by omega) (by omega) (by omega) f_683 f_682 f_681 es669_676 es683 es682 es681) (kw_X8_multiply hts tw_626 ⟨by decide, by decide⟩) (preV_of hh hK (hI.1.1 _ (by decide)) es669_676 rfl) rfl rfl hl.1 rfl (lv_room (Nat.le_of_ble_eq_true rfl)) dX0_extendByLetters_42 ⟨Nat.le_of_ble_eq_true rfl, Nat.le_of_ble_eq_true rfl⟩) hh hA (fun H locs en_684 hw_684 hh => ?_)
        obtain ⟨g_684, hen_684, hg_684⟩ := hw_684
        have es675_684 : en_684 70 = .inr (0, [.ref (ad 1), .ref (ad 71), .ref (ad 72), .ref (ad 73), .ref (ad ka), .ref (ad kb), .ref (ad kc), .int (nI sta_675), .int (nI cc_675), .int (nI ct_675), .int un_675, .int ow_675, .int (nI hn_675)]) := by rw [hen_684, va_up_ne _ _ (by decide)]; exact es675
        have es669_684 : en_684 1 = .inr (7, [.ref (ad 2), .ref (ad 3), .ref (ad 10), .ref (ad 11), .int (nI cnt), .int (nI d), .int (nI mm)]) := by rw [hen_684, va_up_ne _ _ (by decide)]; exact es669_676
        have es679_684 : en_684 3 = .inl (cy 8, 6, .inr (.inr (.inr (.inr (rfA ad 6 4))))) := by rw [hen_684, va_up_ne _ _ (by decide)]; exact es679
        have es682_684 : en_684 (4 + j674) = .inl (cy 1, 9, .inr (.inl f_682)) := by rw [hen_684, va_up_ne _ _ (by omega)]; exact es682
        have es683_684 : en_684 71 = .inl (cy 1, 9, .inr (.inl f_683)) := by rw [hen_684, va_up_ne _ _ (by decide)]; exact es683
        have es681_684 : en_684 73 = .inl (cy 1, 9, .inr (.inl g_684)) := by rw [hen_684]; exact va_up_self _ _ _
        have hI_684 : SC cy cs ad ka kb kc en_684 := by rw [hen_684]; exact up2_cd hI_674 ⟨g_684, rfl⟩
        have hf_684 : ∀ c, ((c < 70 ∨ 74 ≤ c) ∧ c ≠ ka ∧ c ≠ kb ∧ c ≠ kc) → en_684 c = en c := fun c hc => Eq.trans (show en_684 c = en_674 c from by rw [hen_684, va_up_ne _ _ (by omega)]) (hf_674 c hc)
        refine lv_aload_n hx hb dX0_extendByLetters_45 rfl (lv_at hl 1 rfl) ?_
        refine lv_aload_n hx hb dX0_extendByLetters_46 rfl (lv_at hl 1 rfl) ?_
        refine hp_get hx hb hts ix0 hown hK hh (q := 70) rfl (hI.1.1 _ (by decide)) es675_684 rfl 3 (by decide) (hts _ tw_150) (fun _ h9 => h9) rfl dX0_extendByLetters_47 ?_
        refine lv_aload_n hx hb dX0_extendByLetters_50 rfl (lv_at hl 1 rfl) ?_
        refine hp_get hx hb hts ix0 hown hK hh (q := 70) rfl (hI.1.1 _ (by decide)) es675_684 rfl 5 (by decide) (hts _ tw_152) (fun _ h9 => h9) rfl dX0_extendByLetters_51 ?_
        refine lv_iload_n hx hb dX0_extendByLetters_54 rfl (lv_at hl 2 rfl) ?_
        obtain ⟨f_685, es685⟩ := get2_eb hI_684
        refine hp_iald hx hb hK hh (q := kb) rfl hI.2.1.2.1 es685 (vp_in_nI (n := k) (by omega) (by decide)) dX0_extendByLetters_55 ?_
        rw [nI_clamp (n := k) (by omega)]
        refine lv_iconst (v := 1) hx hb dX0_extendByLetters_56 (by decide) ?_
        refine lv_iadd hx hb dX0_extendByLetters_57 ?_
        refine hp_callMi (va_runV (As := [.ref (ad 73), .int ((f_685 k) + 1)]) (rest := []) ⟨hx, hb, hml, hown, hts⟩ (c_X0_take l D cy _ cs ad en_684 hI_684 73 (hI.1.1 _ (by decide)) (by omega) g_684 ((f_685 k) + 1) es681_684) (kw_X0_take hts tw_594 ⟨by decide, by decide⟩) (preV_of hh hK (hI.1.1 _ (by decide)) es675_684 rfl) rfl rfl hl.1 rfl (lv_room (Nat.le_of_ble_eq_true rfl)) dX0_extendByLetters_58 ⟨Nat.le_of_ble_eq_true rfl, Nat.le_of_ble_eq_true rfl⟩) hh hA (fun r_686 H locs en_686 hw_686 hh => ?_)
        obtain ⟨hI_686, hu_686, hx_686⟩ := hw_686
        have hf_686 : ∀ c, ((c < 70 ∨ 74 ≤ c) ∧ c ≠ ka ∧ c ≠ kb ∧ c ≠ kc) → en_686 c = en c := fun c hc => (hu_686 c (by omega)).trans (hf_684 c hc)
        have hw_686 := hx_686
        rcases hw_686 with hb_686 | hb_686
        · obtain rfl : r_686 = 0 := hb_686
          refine lv_if_ne (tgt := 66) hx hb dX0_extendByLetters_61 (by decide) (fun c_0 => absurd c_0 (by decide)) (fun _ => ?_)
          refine lv_iconst (v := 0) hx hb dX0_extendByLetters_64 (by decide) ?_
          exact hp_iretM hx hb hr rfl hlocks hh (⟨hI_686, hf_686, Or.inl rfl⟩) dX0_extendByLetters_65
        · obtain rfl : r_686 = 1 := hb_686
          refine lv_if_ne (tgt := 66) hx hb dX0_extendByLetters_61 (by decide) (fun _ => ?_) (fun c_0 => absurd c_0 (by decide))
          refine lv_iinc (v := (nI (j674 + 1))) (lv' := [(2, .int (nI (j674 + 1))), (0, .ref (ad 70)), (1, .int (nI k))]) hx hb dX0_extendByLetters_66 hl (k := 0) rfl (nI_1 _) (by decide) rfl (fun ls hl => ?_)
          refine lv_goto (tgt := 11) hx hb dX0_extendByLetters_69 (by decide) ?_
          exact ih_674 ((j674 + 1))  en_686 ls H locs (by omega) (by omega) (by omega) hI_686 hf_686  (lv_sub hl [0, 1, 2] rfl) hh
  exact loop_674 (cnt + 1) 0  en_672 ls _ _ (Nat.le_refl _) (by omega) (by omega) hI_672 hf_672  (lv_sub hl [0, 1, 2] rfl) hh
theorem kw_X0_extendByLetters {R : Room} {s : State} {args : Array Value} {own : String} {idx : Nat} (hts : ∀ w ∈ TB, w.before args s = true) (hl : Cond.methodLink own idx yX0_extendByLetters ∈ TB) (hR : 3 + 1 ≤ R.frames ∧ 8 + (3 + 11) + 40 * 3 ≤ R.locals) : CallW R s args own RX0 idx yX0_extendByLetters cX0_extendByLetters 3 (some .boolean) (Cond.code yX0_extendByLetters cX0_extendByLetters 3 (some .boolean) :: TB) (rmN 3) 0 0 1 := cwV 1 hts (TB_V hl tw_620 ts_20 tw_5 tw_621) rfl rfl rfl (by decide +kernel) hR
set_option maxHeartbeats 4000000 in
set_option maxRecDepth 100000 in
/-- sumUp -/
theorem c_X0_sumUp (l : Launch) (D : va_G) (cy : Nat → ClassId) (sz : Nat) (cs : List Nat) (ad : Nat → Nat) (en : Nat → va_E) {ka kb kc : Nat} (hI : SC cy cs ad ka kb kc en)    : Met l yX0_sumUp (Cond.code yX0_sumUp cX0_sumUp 2 none :: TB) (rmN 3) (va_Pc [.ref (ad 70)] (Pre D cy cs ad en sz)) (va_Qv (S := Nat → va_E) (fun en1 => SC cy cs ad ka kb kc en1 ∧ (∀ c, ((c < 70 ∨ 74 ≤ c) ∧ c ≠ ka ∧ c ≠ kb ∧ c ≠ kc) → en1 c = en c)) (PostM D cs ad) (Af cs ad sz)) 0 0 (Af cs ad sz) := by
  refine Met.ofW (cc := cX0_sumUp) (maxL := 2) (ret := none) (by decide) rfl ?_
  intro p e s m args below meth c s₁ B hml hv
  obtain ⟨rfl, hsz, hP, hK, hD0⟩ := hv
  have hx := B.exec
  have hb := B.bytes
  have hr := B.returns
  have hts : ∀ w ∈ TB, w.before _ s = true := fun w h => atoms_spec (ws := _ :: TB) B.pre w (List.mem_cons_of_mem _ h)
  have hown : s.vm.findClass RX0 = some m.cls := findClass_of_methodNamed B.named
  have hlocks := B.notSynchronized
  have hh : Hp D (Af cs ad sz) (Af cs ad sz) s.heap s.heap [] cs ad en := ⟨hP, Af_self hD0, va_S.rf⟩
  have hA : ∀ q : Nat, s.heap.size ≤ q → Af cs ad sz q := fun q h => Or.inr (by rw [hsz] at h; exact h)
  have hl := lv_entry ([.ref (ad 70)]) (n := 2) (Nat.le_of_ble_eq_true rfl)
  rw [lg_entry_eq]
  generalize (lg_sl ([.ref (ad 70)]) ++ List.replicate (2 - (lg_sl ([.ref (ad 70)])).length) Slot.unset).toArray = ls at hl ⊢
  have hl : lv_has ls 2 [(0, .ref (ad 70))] := hl
  have hka1 : 115 ≤ ka := hI.2.1.2.2.2.1
  have hka2 : ka < kb := hI.2.1.2.2.2.2.1
  have hka3 : kb < kc := hI.2.1.2.2.2.2.2
  have hf0 : ∀ c, ((c < 70 ∨ 74 ≤ c) ∧ c ≠ ka ∧ c ≠ kb ∧ c ≠ kc) → en c = en c := fun _ _ => rfl
  obtain ⟨cnt, d, mm, es687, hcnt, hd2, hd3, hmm⟩ := get2_T hI
  obtain ⟨sta_688, cc_688, ct_688, un_688, ow_688, hn_688, es688, p0_688, p1_688, p2_688, p3_688⟩ := get2_C hI
  refine lv_aload_n hx hb dX0_sumUp_0 rfl (lv_at hl 0 rfl) ?_
  refine lv_iconst (v := 0) hx hb dX0_sumUp_1 (by decide) ?_
  refine hp_put hx hb hts ix0 tyX0 tyX0_ok nmX0 hown hK hh (q := 70) rfl (hI.1.1 _ (by decide)) es688 rfl 12 (by decide) (hts _ tw_163) (fun _ h9 => h9) rfl (ty := .boolean) (by decide +kernel) rfl rfl (Nat.le_of_ble_eq_true rfl) dX0_sumUp_2 (fun H locs en_689 hen_689 hh => ?_)
  have es687_689 : en_689 1 = .inr (7, [.ref (ad 2), .ref (ad 3), .ref (ad 10), .ref (ad 11), .int (nI cnt), .int (nI d), .int (nI mm)]) := by rw [hen_689, va_up_ne _ _ (by decide)]; exact es687
  have es688_689 : en_689 70 = .inr (0, [.ref (ad 1), .ref (ad 71), .ref (ad 72), .ref (ad 73), .ref (ad ka), .ref (ad kb), .ref (ad kc), .int (nI sta_688), .int (nI cc_688), .int (nI ct_688), .int un_688, .int ow_688, .int 0]) := by rw [hen_689]; exact va_up_self _ _ _
  have hI_689 : SC cy cs ad ka kb kc en_689 := by rw [hen_689]; exact up2_C hI ⟨sta_688, cc_688, ct_688, un_688, ow_688, 0, rfl, p0_688, p1_688, p2_688, (by omega)⟩
  have hf_689 : ∀ c, ((c < 70 ∨ 74 ≤ c) ∧ c ≠ ka ∧ c ≠ kb ∧ c ≠ kc) → en_689 c = en c := fun c hc => Eq.trans (show en_689 c = en c from by rw [hen_689, va_up_ne _ _ (by omega)]) (hf0 c hc)
  refine lv_aload_n hx hb dX0_sumUp_5 rfl (lv_at hl 0 rfl) ?_
  refine lv_bipush (v := (-9)) hx hb dX0_sumUp_6 (by decide) ?_
  refine hp_put hx hb hts ix0 tyX0 tyX0_ok nmX0 hown hK hh (q := 70) rfl (hI.1.1 _ (by decide)) es688_689 rfl 10 (by decide) (hts _ tw_159) (fun _ h9 => h9) rfl (ty := .int) (by decide +kernel) rfl rfl (Nat.le_of_ble_eq_true rfl) dX0_sumUp_8 (fun H locs en_690 hen_690 hh => ?_)
  have es687_690 : en_690 1 = .inr (7, [.ref (ad 2), .ref (ad 3), .ref (ad 10), .ref (ad 11), .int (nI cnt), .int (nI d), .int (nI mm)]) := by rw [hen_690, va_up_ne _ _ (by decide)]; exact es687_689
  have es688_690 : en_690 70 = .inr (0, [.ref (ad 1), .ref (ad 71), .ref (ad 72), .ref (ad 73), .ref (ad ka), .ref (ad kb), .ref (ad kc), .int (nI sta_688), .int (nI cc_688), .int (nI ct_688), .int (-9), .int ow_688, .int 0]) := by rw [hen_690]; exact va_up_self _ _ _
  have hI_690 : SC cy cs ad ka kb kc en_690 := by rw [hen_690]; exact up2_C hI_689 ⟨sta_688, cc_688, ct_688, (-9), ow_688, 0, rfl, p0_688, p1_688, p2_688, (by omega)⟩
  have hf_690 : ∀ c, ((c < 70 ∨ 74 ≤ c) ∧ c ≠ ka ∧ c ≠ kb ∧ c ≠ kc) → en_690 c = en c := fun c hc => Eq.trans (show en_690 c = en_689 c from by rw [hen_690, va_up_ne _ _ (by omega)]) (hf_689 c hc)
  refine lv_aload_n hx hb dX0_sumUp_11 rfl (lv_at hl 0 rfl) ?_
  refine lv_iconst (v := 0) hx hb dX0_sumUp_12 (by decide) ?_
  refine hp_put hx hb hts ix0 tyX0 tyX0_ok nmX0 hown hK hh (q := 70) rfl (hI.1.1 _ (by decide)) es688_690 rfl 11 (by decide) (hts _ tw_161) (fun _ h9 => h9) rfl (ty := .int) (by decide +kernel) rfl rfl (Nat.le_of_ble_eq_true rfl) dX0_sumUp_13 (fun H locs en_691 hen_691 hh => ?_)
  have es687_691 : en_691 1 = .inr (7, [.ref (ad 2), .ref (ad 3), .ref (ad 10), .ref (ad 11), .int (nI cnt), .int (nI d), .int (nI mm)]) := by rw [hen_691, va_up_ne _ _ (by decide)]; exact es687_690
  have es688_691 : en_691 70 = .inr (0, [.ref (ad 1), .ref (ad 71), .ref (ad 72), .ref (ad 73), .ref (ad ka), .ref (ad kb), .ref (ad kc), .int (nI sta_688), .int (nI cc_688), .int (nI ct_688), .int (-9), .int 0, .int 0]) := by rw [hen_691]; exact va_up_self _ _ _
  have hI_691 : SC cy cs ad ka kb kc en_691 := by rw [hen_691]; exact up2_C hI_690 ⟨sta_688, cc_688, ct_688, (-9), 0, 0, rfl, p0_688, p1_688, p2_688, (by omega)⟩
  have hf_691 : ∀ c, ((c < 70 ∨ 74 ≤ c) ∧ c ≠ ka ∧ c ≠ kb ∧ c ≠ kc) → en_691 c = en c := fun c hc => Eq.trans (show en_691 c = en_690 c from by rw [hen_691, va_up_ne _ _ (by omega)]) (hf_690 c hc)
  refine lv_iconst (v := 0) hx hb dX0_sumUp_16 (by decide) ?_
  refine lv_istore_n (lv' := [(1, .int 0), (0, .ref (ad 70))]) hx hb dX0_sumUp_17 rfl hl (by decide) rfl (fun ls hl => ?_)
  have loop_692 : ∀ (fu j692 : Nat)  (en_692 : Nat → va_E) (ls : Array Slot) (H : Heap) (locs : List Loc), 0 ≤ j692 → j692 ≤ 2000 → 2000 < j692 + fu → SC cy cs ad ka kb kc en_692 → (∀ c, ((c < 70 ∨ 74 ≤ c) ∧ c ≠ ka ∧ c ≠ kb ∧ c ≠ kc) → en_692 c = en c) →  lv_has ls 2 [(1, .int (nI j692)), (0, .ref (ad 70))] → Hp D (Af cs ad sz) (Af cs ad sz) s.heap H locs cs ad en_692 → W p l e (headSpec (Cond.code yX0_sumUp cX0_sumUp 2 none :: TB) (rmN 3)).room s m ([.ref (ad 70)] : List Value).toArray below meth c H locs 0 0 (MQ below (va_Qv (S := Nat → va_E) (fun en1 => SC cy cs ad ka kb kc en1 ∧ (∀ c, ((c < 70 ∨ 74 ≤ c) ∧ c ≠ ka ∧ c ≠ kb ∧ c ≠ kc) → en1 c = en c)) (PostM D cs ad) (Af cs ad sz)) ([.ref (ad 70)] : List Value).toArray s 0 0 (Af cs ad sz)) (F0 m 18 ls []) := by
    intro fu
    induction fu with
    | zero => intro j692  en_692 ls H locs h0 h1 h2; exact absurd h2 (by omega)
    | succ fu ih_692 =>
      intro j692  en_692 ls H locs hj0_692 hj_692 hfu_692 hI_692 hf_692  hl hh
      refine lv_iload_n hx hb dX0_sumUp_18 rfl (lv_at hl 0 rfl) ?_
      refine lv_aload_n hx hb dX0_sumUp_19 rfl (lv_at hl 1 rfl) ?_
      obtain ⟨sta_693, cc_693, ct_693, un_693, ow_693, hn_693, es693, p0_693, p1_693, p2_693, p3_693⟩ := get2_C hI_692
      refine hp_get hx hb hts ix0 hown hK hh (q := 70) rfl (hI.1.1 _ (by decide)) es693 rfl 9 (by decide) (hts _ tw_156) (fun _ h9 => h9) rfl dX0_sumUp_20 ?_
      refine lv_icmp_ge (tgt := 100) hx hb dX0_sumUp_23 (by decide) (fun c_694 => ?_) (fun c_694 => ?_)
      · have n_694 : ct_693 ≤ j692 := n_le (a := ct_693) (b := j692) c_694 (by omega) (by omega)
        exact hp_vretM hx hb hr hlocks hh (⟨hI_692, hf_692⟩) dX0_sumUp_100
      · have n_694 : j692 < ct_693 := n_nle (a := ct_693) (b := j692) c_694 (by omega) (by omega)
        refine lv_aload_n hx hb dX0_sumUp_26 rfl (lv_at hl 1 rfl) ?_
        refine lv_iload_n hx hb dX0_sumUp_27 rfl (lv_at hl 0 rfl) ?_
        refine lv_iload_n hx hb dX0_sumUp_28 rfl (lv_at hl 0 rfl) ?_
        refine hp_callMv (va_runV (As := [.int (nI j692), .int (nI j692)]) (rest := []) ⟨hx, hb, hml, hown, hts⟩ (c_X0_multiplyNumbered l D cy _ cs ad en_692 hI_692 j692 j692 (by omega) (by omega)) (kw_X0_multiplyNumbered hts tw_631 ⟨by decide, by decide⟩) (preV_of hh hK (hI.1.1 _ (by decide)) es693 rfl) rfl rfl hl.1 rfl (lv_room (Nat.le_of_ble_eq_true rfl)) dX0_sumUp_29 ⟨Nat.le_of_ble_eq_true rfl, Nat.le_of_ble_eq_true rfl⟩) hh hA (fun H locs en_695 hw_695 hh => ?_)
        obtain ⟨hI_695, hu_695⟩ := hw_695
        have hf_695 : ∀ c, ((c < 70 ∨ 74 ≤ c) ∧ c ≠ ka ∧ c ≠ kb ∧ c ≠ kc) → en_695 c = en c := fun c hc => (hu_695 c (by omega)).trans (hf_692 c hc)
        refine lv_aload_n hx hb dX0_sumUp_32 rfl (lv_at hl 1 rfl) ?_
        refine lv_iload_n hx hb dX0_sumUp_33 rfl (lv_at hl 0 rfl) ?_
        refine lv_aload_n hx hb dX0_sumUp_34 rfl (lv_at hl 1 rfl) ?_
        obtain ⟨sta_696, cc_696, ct_696, un_696, ow_696, hn_696, es696, p0_696, p1_696, p2_696, p3_696⟩ := get2_C hI_695
        refine hp_get hx hb hts ix0 hown hK hh (q := 70) rfl (hI.1.1 _ (by decide)) es696 rfl 3 (by decide) (hts _ tw_150) (fun _ h9 => h9) rfl dX0_sumUp_35 ?_
        obtain ⟨f_697, es697⟩ := get2_cd hI_695
        refine hp_callRi (va_runV (As := [.int (nI j692), .ref (ad 73)]) (rest := []) ⟨hx, hb, hml, hown, hts⟩ (c_X0_isSame l D cy _ cs ad en_695 hI_695 j692 (by omega) 73 (hI.1.1 _ (by decide)) (by omega) f_697  es697) (kw_X0_isSame hts tw_613 ⟨by decide, by decide⟩) (preV_of hh hK (hI.1.1 _ (by decide)) es696 rfl) rfl rfl hl.1 rfl (lv_room (Nat.le_of_ble_eq_true rfl)) dX0_sumUp_38 ⟨Nat.le_of_ble_eq_true rfl, Nat.le_of_ble_eq_true rfl⟩) hh hA (fun r_698 H locs hw_698 hh => ?_)
        rcases hw_698 with hb_698 | hb_698
        · obtain rfl : r_698 = 0 := hb_698
          refine lv_if_eq (tgt := 54) hx hb dX0_sumUp_41 (by decide) (fun _ => ?_) (fun c_0 => absurd c_0 (by decide))
          refine lv_aload_n hx hb dX0_sumUp_54 rfl (lv_at hl 1 rfl) ?_
          refine hp_get hx hb hts ix0 hown hK hh (q := 70) rfl (hI.1.1 _ (by decide)) es696 rfl 0 (by decide) (hts _ tw_147) (fun _ h9 => h9) rfl dX0_sumUp_55 ?_
          refine lv_aload_n hx hb dX0_sumUp_58 rfl (lv_at hl 1 rfl) ?_
          refine hp_get hx hb hts ix0 hown hK hh (q := 70) rfl (hI.1.1 _ (by decide)) es696 rfl 1 (by decide) (hts _ tw_148) (fun _ h9 => h9) rfl dX0_sumUp_59 ?_
          obtain ⟨f_699, es699⟩ := get2_cl hI_695
          have es687_700 : en_695 1 = .inr (7, [.ref (ad 2), .ref (ad 3), .ref (ad 10), .ref (ad 11), .int (nI cnt), .int (nI d), .int (nI mm)]) := (hf_695 1 (by omega)).trans es687
          refine hp_callRi (va_runV (As := [.ref (ad 71)]) (rest := []) ⟨hx, hb, hml, hown, hts⟩ (c_X8_isUnit l D cy _ cs ad en_695 (hI.1.1 _ (by decide)) cnt d mm hcnt hd2 hd3 hmm 71 (hI.1.1 _ (by decide)) f_699 es687_700 es699) (kw_X8_isUnit hts tw_635 ⟨by decide, by decide⟩) (preV_of hh hK (hI.1.1 _ (by decide)) es687_700 rfl) rfl rfl hl.1 rfl (lv_room (Nat.le_of_ble_eq_true rfl)) dX0_sumUp_62 ⟨Nat.le_of_ble_eq_true rfl, Nat.le_of_ble_eq_true rfl⟩) hh hA (fun r_701 H locs hw_701 hh => ?_)
          rcases hw_701 with hb_701 | hb_701
          · obtain rfl : r_701 = 0 := hb_701
            refine lv_if_eq (tgt := 73) hx hb dX0_sumUp_65 (by decide) (fun _ => ?_) (fun c_0 => absurd c_0 (by decide))
            refine lv_aload_n hx hb dX0_sumUp_73 rfl (lv_at hl 1 rfl) ?_
            refine hp_get hx hb hts ix0 hown hK hh (q := 70) rfl (hI.1.1 _ (by decide)) es696 rfl 0 (by decide) (hts _ tw_147) (fun _ h9 => h9) rfl dX0_sumUp_74 ?_
            refine lv_aload_n hx hb dX0_sumUp_77 rfl (lv_at hl 1 rfl) ?_
            refine hp_get hx hb hts ix0 hown hK hh (q := 70) rfl (hI.1.1 _ (by decide)) es696 rfl 1 (by decide) (hts _ tw_148) (fun _ h9 => h9) rfl dX0_sumUp_78 ?_
            refine hp_callRl (va_runV (As := [.ref (ad 71)]) (rest := []) ⟨hx, hb, hml, hown, hts⟩ (c_X8_norm l D cy _ cs ad en_695 (hI.1.1 _ (by decide)) cnt d mm hcnt hd2 hd3 hmm 71 (hI.1.1 _ (by decide)) f_699 es687_700 es699) (kw_X8_norm hts tw_639 ⟨by decide, by decide⟩) (preV_of hh hK (hI.1.1 _ (by decide)) es687_700 rfl) rfl rfl hl.1 rfl (lv_room (Nat.le_of_ble_eq_true rfl)) dX0_sumUp_81 ⟨Nat.le_of_ble_eq_true rfl, Nat.le_of_ble_eq_true rfl⟩) hh hA (fun r_702 H locs hw_702 hh => ?_)
            obtain rfl : r_702 = (normT d f_699 d) := hw_702
            refine lv_lconst (v := 0) hx hb dX0_sumUp_84 (by decide) ?_
            refine W.lcmp hx hb dX0_sumUp_85 ?_
            refine lv_if_ne (tgt := 94) hx hb dX0_sumUp_86 (by decide) (fun c_703 => ?_) (fun c_703 => ?_)
            · refine lv_iinc (v := (nI (j692 + 1))) (lv' := [(1, .int (nI (j692 + 1))), (0, .ref (ad 70))]) hx hb dX0_sumUp_94 hl (k := 0) rfl (nI_1 _) (by decide) rfl (fun ls hl => ?_)
              refine lv_goto (tgt := 18) hx hb dX0_sumUp_97 (by decide) ?_
              exact ih_692 ((j692 + 1))  en_695 ls H locs (by omega) (by omega) (by omega) hI_695 hf_695  (lv_sub hl [0, 1] rfl) hh
            · refine lv_aload_n hx hb dX0_sumUp_89 rfl (lv_at hl 1 rfl) ?_
              refine lv_iconst (v := 1) hx hb dX0_sumUp_90 (by decide) ?_
              refine hp_put hx hb hts ix0 tyX0 tyX0_ok nmX0 hown hK hh (q := 70) rfl (hI.1.1 _ (by decide)) es696 rfl 12 (by decide) (hts _ tw_163) (fun _ h9 => h9) rfl (ty := .boolean) (by decide +kernel) rfl rfl (Nat.le_of_ble_eq_true rfl) dX0_sumUp_91 (fun H locs en_704 hen_704 hh => ?_)
              have es697_704 : en_704 73 = .inl (cy 1, 9, .inr (.inl f_697)) := by rw [hen_704, va_up_ne _ _ (by decide)]; exact es697
              have es699_704 : en_704 71 = .inl (cy 1, 9, .inr (.inl f_699)) := by rw [hen_704, va_up_ne _ _ (by decide)]; exact es699
              have es687_704 : en_704 1 = .inr (7, [.ref (ad 2), .ref (ad 3), .ref (ad 10), .ref (ad 11), .int (nI cnt), .int (nI d), .int (nI mm)]) := by rw [hen_704, va_up_ne _ _ (by decide)]; exact es687_700
              have es696_704 : en_704 70 = .inr (0, [.ref (ad 1), .ref (ad 71), .ref (ad 72), .ref (ad 73), .ref (ad ka), .ref (ad kb), .ref (ad kc), .int (nI sta_696), .int (nI cc_696), .int (nI ct_696), .int un_696, .int ow_696, .int 1]) := by rw [hen_704]; exact va_up_self _ _ _
              have hI_704 : SC cy cs ad ka kb kc en_704 := by rw [hen_704]; exact up2_C hI_695 ⟨sta_696, cc_696, ct_696, un_696, ow_696, 1, rfl, p0_696, p1_696, p2_696, (by omega)⟩
              have hf_704 : ∀ c, ((c < 70 ∨ 74 ≤ c) ∧ c ≠ ka ∧ c ≠ kb ∧ c ≠ kc) → en_704 c = en c := fun c hc => Eq.trans (show en_704 c = en_695 c from by rw [hen_704, va_up_ne _ _ (by omega)]) (hf_695 c hc)
              refine lv_iinc (v := (nI (j692 + 1))) (lv' := [(1, .int (nI (j692 + 1))), (0, .ref (ad 70))]) hx hb dX0_sumUp_94 hl (k := 0) rfl (nI_1 _) (by decide) rfl (fun ls hl => ?_)
              refine lv_goto (tgt := 18) hx hb dX0_sumUp_97 (by decide) ?_
              exact ih_692 ((j692 + 1))  en_704 ls H locs (by omega) (by omega) (by omega) hI_704 hf_704  (lv_sub hl [0, 1] rfl) hh
          · obtain rfl : r_701 = 1 := hb_701
            refine lv_if_eq (tgt := 73) hx hb dX0_sumUp_65 (by decide) (fun c_0 => absurd c_0 (by decide)) (fun _ => ?_)
            refine lv_aload_n hx hb dX0_sumUp_68 rfl (lv_at hl 1 rfl) ?_
            refine lv_iload_n hx hb dX0_sumUp_69 rfl (lv_at hl 0 rfl) ?_
            refine hp_put hx hb hts ix0 tyX0 tyX0_ok nmX0 hown hK hh (q := 70) rfl (hI.1.1 _ (by decide)) es696 rfl 10 (by decide) (hts _ tw_159) (fun _ h9 => h9) rfl (ty := .int) (by decide +kernel) rfl rfl (Nat.le_of_ble_eq_true rfl) dX0_sumUp_70 (fun H locs en_705 hen_705 hh => ?_)
            have es697_705 : en_705 73 = .inl (cy 1, 9, .inr (.inl f_697)) := by rw [hen_705, va_up_ne _ _ (by decide)]; exact es697
            have es699_705 : en_705 71 = .inl (cy 1, 9, .inr (.inl f_699)) := by rw [hen_705, va_up_ne _ _ (by decide)]; exact es699
            have es687_705 : en_705 1 = .inr (7, [.ref (ad 2), .ref (ad 3), .ref (ad 10), .ref (ad 11), .int (nI cnt), .int (nI d), .int (nI mm)]) := by rw [hen_705, va_up_ne _ _ (by decide)]; exact es687_700
            have es696_705 : en_705 70 = .inr (0, [.ref (ad 1), .ref (ad 71), .ref (ad 72), .ref (ad 73), .ref (ad ka), .ref (ad kb), .ref (ad kc), .int (nI sta_696), .int (nI cc_696), .int (nI ct_696), .int (nI j692), .int ow_696, .int (nI hn_696)]) := by rw [hen_705]; exact va_up_self _ _ _
            have hI_705 : SC cy cs ad ka kb kc en_705 := by rw [hen_705]; exact up2_C hI_695 ⟨sta_696, cc_696, ct_696, (nI j692), ow_696, hn_696, rfl, p0_696, p1_696, p2_696, p3_696⟩
            have hf_705 : ∀ c, ((c < 70 ∨ 74 ≤ c) ∧ c ≠ ka ∧ c ≠ kb ∧ c ≠ kc) → en_705 c = en c := fun c hc => Eq.trans (show en_705 c = en_695 c from by rw [hen_705, va_up_ne _ _ (by omega)]) (hf_695 c hc)
            refine lv_aload_n hx hb dX0_sumUp_73 rfl (lv_at hl 1 rfl) ?_
            refine hp_get hx hb hts ix0 hown hK hh (q := 70) rfl (hI.1.1 _ (by decide)) es696_705 rfl 0 (by decide) (hts _ tw_147) (fun _ h9 => h9) rfl dX0_sumUp_74 ?_
            refine lv_aload_n hx hb dX0_sumUp_77 rfl (lv_at hl 1 rfl) ?_
            refine hp_get hx hb hts ix0 hown hK hh (q := 70) rfl (hI.1.1 _ (by decide)) es696_705 rfl 1 (by decide) (hts _ tw_148) (fun _ h9 => h9) rfl dX0_sumUp_78 ?_
            refine hp_callRl (va_runV (As := [.ref (ad 71)]) (rest := []) ⟨hx, hb, hml, hown, hts⟩ (c_X8_norm l D cy _ cs ad en_705 (hI.1.1 _ (by decide)) cnt d mm hcnt hd2 hd3 hmm 71 (hI.1.1 _ (by decide)) f_699 es687_705 es699_705) (kw_X8_norm hts tw_639 ⟨by decide, by decide⟩) (preV_of hh hK (hI.1.1 _ (by decide)) es687_705 rfl) rfl rfl hl.1 rfl (lv_room (Nat.le_of_ble_eq_true rfl)) dX0_sumUp_81 ⟨Nat.le_of_ble_eq_true rfl, Nat.le_of_ble_eq_true rfl⟩) hh hA (fun r_706 H locs hw_706 hh => ?_)
            obtain rfl : r_706 = (normT d f_699 d) := hw_706
            refine lv_lconst (v := 0) hx hb dX0_sumUp_84 (by decide) ?_
            refine W.lcmp hx hb dX0_sumUp_85 ?_
            refine lv_if_ne (tgt := 94) hx hb dX0_sumUp_86 (by decide) (fun c_707 => ?_) (fun c_707 => ?_)
            · refine lv_iinc (v := (nI (j692 + 1))) (lv' := [(1, .int (nI (j692 + 1))), (0, .ref (ad 70))]) hx hb dX0_sumUp_94 hl (k := 0) rfl (nI_1 _) (by decide) rfl (fun ls hl => ?_)
              refine lv_goto (tgt := 18) hx hb dX0_sumUp_97 (by decide) ?_
              exact ih_692 ((j692 + 1))  en_705 ls H locs (by omega) (by omega) (by omega) hI_705 hf_705  (lv_sub hl [0, 1] rfl) hh
            · refine lv_aload_n hx hb dX0_sumUp_89 rfl (lv_at hl 1 rfl) ?_
              refine lv_iconst (v := 1) hx hb dX0_sumUp_90 (by decide) ?_
              refine hp_put hx hb hts ix0 tyX0 tyX0_ok nmX0 hown hK hh (q := 70) rfl (hI.1.1 _ (by decide)) es696_705 rfl 12 (by decide) (hts _ tw_163) (fun _ h9 => h9) rfl (ty := .boolean) (by decide +kernel) rfl rfl (Nat.le_of_ble_eq_true rfl) dX0_sumUp_91 (fun H locs en_708 hen_708 hh => ?_)
              have es697_708 : en_708 73 = .inl (cy 1, 9, .inr (.inl f_697)) := by rw [hen_708, va_up_ne _ _ (by decide)]; exact es697_705
              have es699_708 : en_708 71 = .inl (cy 1, 9, .inr (.inl f_699)) := by rw [hen_708, va_up_ne _ _ (by decide)]; exact es699_705
              have es687_708 : en_708 1 = .inr (7, [.ref (ad 2), .ref (ad 3), .ref (ad 10), .ref (ad 11), .int (nI cnt), .int (nI d), .int (nI mm)]) := by rw [hen_708, va_up_ne _ _ (by decide)]; exact es687_705
              have es696_708 : en_708 70 = .inr (0, [.ref (ad 1), .ref (ad 71), .ref (ad 72), .ref (ad 73), .ref (ad ka), .ref (ad kb), .ref (ad kc), .int (nI sta_696), .int (nI cc_696), .int (nI ct_696), .int (nI j692), .int ow_696, .int 1]) := by rw [hen_708]; exact va_up_self _ _ _
              have hI_708 : SC cy cs ad ka kb kc en_708 := by rw [hen_708]; exact up2_C hI_705 ⟨sta_696, cc_696, ct_696, (nI j692), ow_696, 1, rfl, p0_696, p1_696, p2_696, (by omega)⟩
              have hf_708 : ∀ c, ((c < 70 ∨ 74 ≤ c) ∧ c ≠ ka ∧ c ≠ kb ∧ c ≠ kc) → en_708 c = en c := fun c hc => Eq.trans (show en_708 c = en_705 c from by rw [hen_708, va_up_ne _ _ (by omega)]) (hf_705 c hc)
              refine lv_iinc (v := (nI (j692 + 1))) (lv' := [(1, .int (nI (j692 + 1))), (0, .ref (ad 70))]) hx hb dX0_sumUp_94 hl (k := 0) rfl (nI_1 _) (by decide) rfl (fun ls hl => ?_)
              refine lv_goto (tgt := 18) hx hb dX0_sumUp_97 (by decide) ?_
              exact ih_692 ((j692 + 1))  en_708 ls H locs (by omega) (by omega) (by omega) hI_708 hf_708  (lv_sub hl [0, 1] rfl) hh
        · obtain rfl : r_698 = 1 := hb_698
          refine lv_if_eq (tgt := 54) hx hb dX0_sumUp_41 (by decide) (fun c_0 => absurd c_0 (by decide)) (fun _ => ?_)
          refine lv_aload_n hx hb dX0_sumUp_44 rfl (lv_at hl 1 rfl) ?_
          refine lv_dup hx hb dX0_sumUp_45 rfl ?_
          refine hp_get hx hb hts ix0 hown hK hh (q := 70) rfl (hI.1.1 _ (by decide)) es696 rfl 11 (by decide) (hts _ tw_161) (fun _ h9 => h9) rfl dX0_sumUp_46 ?_
          refine lv_iconst (v := 1) hx hb dX0_sumUp_49 (by decide) ?_
          refine lv_iadd hx hb dX0_sumUp_50 ?_
          refine hp_put hx hb hts ix0 tyX0 tyX0_ok nmX0 hown hK hh (q := 70) rfl (hI.1.1 _ (by decide)) es696 rfl 11 (by decide) (hts _ tw_161) (fun _ h9 => h9) rfl (ty := .int) (by decide +kernel) rfl rfl (Nat.le_of_ble_eq_true rfl) dX0_sumUp_51 (fun H locs en_709 hen_709 hh => ?_)
          have es697_709 : en_709 73 = .inl (cy 1, 9, .inr (.inl f_697)) := by rw [hen_709, va_up_ne _ _ (by decide)]; exact es697
          have es696_709 : en_709 70 = .inr (0, [.ref (ad 1), .ref (ad 71), .ref (ad 72), .ref (ad 73), .ref (ad ka), .ref (ad kb), .ref (ad kc), .int (nI sta_696), .int (nI cc_696), .int (nI ct_696), .int un_696, .int (ow_696 + 1), .int (nI hn_696)]) := by rw [hen_709]; exact va_up_self _ _ _
          have hI_709 : SC cy cs ad ka kb kc en_709 := by rw [hen_709]; exact up2_C hI_695 ⟨sta_696, cc_696, ct_696, un_696, (ow_696 + 1), hn_696, rfl, p0_696, p1_696, p2_696, p3_696⟩
          have hf_709 : ∀ c, ((c < 70 ∨ 74 ≤ c) ∧ c ≠ ka ∧ c ≠ kb ∧ c ≠ kc) → en_709 c = en c := fun c hc => Eq.trans (show en_709 c = en_695 c from by rw [hen_709, va_up_ne _ _ (by omega)]) (hf_695 c hc)
          refine lv_aload_n hx hb dX0_sumUp_54 rfl (lv_at hl 1 rfl) ?_
          refine hp_get hx hb hts ix0 hown hK hh (q := 70) rfl (hI.1.1 _ (by decide)) es696_709 rfl 0 (by decide) (hts _ tw_147) (fun _ h9 => h9) rfl dX0_sumUp_55 ?_
          refine lv_aload_n hx hb dX0_sumUp_58 rfl (lv_at hl 1 rfl) ?_
          refine hp_get hx hb hts ix0 hown hK hh (q := 70) rfl (hI.1.1 _ (by decide)) es696_709 rfl 1 (by decide) (hts _ tw_148) (fun _ h9 => h9) rfl dX0_sumUp_59 ?_
          obtain ⟨f_710, es710⟩ := get2_cl hI_709
          have es687_711 : en_709 1 = .inr (7, [.ref (ad 2), .ref (ad 3), .ref (ad 10), .ref (ad 11), .int (nI cnt), .int (nI d), .int (nI mm)]) := (hf_709 1 (by omega)).trans es687
          refine hp_callRi (va_runV (As := [.ref (ad 71)]) (rest := []) ⟨hx, hb, hml, hown, hts⟩ (c_X8_isUnit l D cy _ cs ad en_709 (hI.1.1 _ (by decide)) cnt d mm hcnt hd2 hd3 hmm 71 (hI.1.1 _ (by decide)) f_710 es687_711 es710) (kw_X8_isUnit hts tw_635 ⟨by decide, by decide⟩) (preV_of hh hK (hI.1.1 _ (by decide)) es687_711 rfl) rfl rfl hl.1 rfl (lv_room (Nat.le_of_ble_eq_true rfl)) dX0_sumUp_62 ⟨Nat.le_of_ble_eq_true rfl, Nat.le_of_ble_eq_true rfl⟩) hh hA (fun r_712 H locs hw_712 hh => ?_)
          rcases hw_712 with hb_712 | hb_712
          · obtain rfl : r_712 = 0 := hb_712
            refine lv_if_eq (tgt := 73) hx hb dX0_sumUp_65 (by decide) (fun _ => ?_) (fun c_0 => absurd c_0 (by decide))
            refine lv_aload_n hx hb dX0_sumUp_73 rfl (lv_at hl 1 rfl) ?_
            refine hp_get hx hb hts ix0 hown hK hh (q := 70) rfl (hI.1.1 _ (by decide)) es696_709 rfl 0 (by decide) (hts _ tw_147) (fun _ h9 => h9) rfl dX0_sumUp_74 ?_
            refine lv_aload_n hx hb dX0_sumUp_77 rfl (lv_at hl 1 rfl) ?_
            refine hp_get hx hb hts ix0 hown hK hh (q := 70) rfl (hI.1.1 _ (by decide)) es696_709 rfl 1 (by decide) (hts _ tw_148) (fun _ h9 => h9) rfl dX0_sumUp_78 ?_
            refine hp_callRl (va_runV (As := [.ref (ad 71)]) (rest := []) ⟨hx, hb, hml, hown, hts⟩ (c_X8_norm l D cy _ cs ad en_709 (hI.1.1 _ (by decide)) cnt d mm hcnt hd2 hd3 hmm 71 (hI.1.1 _ (by decide)) f_710 es687_711 es710) (kw_X8_norm hts tw_639 ⟨by decide, by decide⟩) (preV_of hh hK (hI.1.1 _ (by decide)) es687_711 rfl) rfl rfl hl.1 rfl (lv_room (Nat.le_of_ble_eq_true rfl)) dX0_sumUp_81 ⟨Nat.le_of_ble_eq_true rfl, Nat.le_of_ble_eq_true rfl⟩) hh hA (fun r_713 H locs hw_713 hh => ?_)
            obtain rfl : r_713 = (normT d f_710 d) := hw_713
            refine lv_lconst (v := 0) hx hb dX0_sumUp_84 (by decide) ?_
            refine W.lcmp hx hb dX0_sumUp_85 ?_
            refine lv_if_ne (tgt := 94) hx hb dX0_sumUp_86 (by decide) (fun c_714 => ?_) (fun c_714 => ?_)
            · refine lv_iinc (v := (nI (j692 + 1))) (lv' := [(1, .int (nI (j692 + 1))), (0, .ref (ad 70))]) hx hb dX0_sumUp_94 hl (k := 0) rfl (nI_1 _) (by decide) rfl (fun ls hl => ?_)
              refine lv_goto (tgt := 18) hx hb dX0_sumUp_97 (by decide) ?_
              exact ih_692 ((j692 + 1))  en_709 ls H locs (by omega) (by omega) (by omega) hI_709 hf_709  (lv_sub hl [0, 1] rfl) hh
            · refine lv_aload_n hx hb dX0_sumUp_89 rfl (lv_at hl 1 rfl) ?_
              refine lv_iconst (v := 1) hx hb dX0_sumUp_90 (by decide) ?_
              refine hp_put hx hb hts ix0 tyX0 tyX0_ok nmX0 hown hK hh (q := 70) rfl (hI.1.1 _ (by decide)) es696_709 rfl 12 (by decide) (hts _ tw_163) (fun _ h9 => h9) rfl (ty := .boolean) (by decide +kernel) rfl rfl (Nat.le_of_ble_eq_true rfl) dX0_sumUp_91 (fun H locs en_715 hen_715 hh => ?_)
              have es697_715 : en_715 73 = .inl (cy 1, 9, .inr (.inl f_697)) := by rw [hen_715, va_up_ne _ _ (by decide)]; exact es697_709
              have es710_715 : en_715 71 = .inl (cy 1, 9, .inr (.inl f_710)) := by rw [hen_715, va_up_ne _ _ (by decide)]; exact es710
              have es687_715 : en_715 1 = .inr (7, [.ref (ad 2), .ref (ad 3), .ref (ad 10), .ref (ad 11), .int (nI cnt), .int (nI d), .int (nI mm)]) := by rw [hen_715, va_up_ne _ _ (by decide)]; exact es687_711
              have es696_715 : en_715 70 = .inr (0, [.ref (ad 1), .ref (ad 71), .ref (ad 72), .ref (ad 73), .ref (ad ka), .ref (ad kb), .ref (ad kc), .int (nI sta_696), .int (nI cc_696), .int (nI ct_696), .int un_696, .int (ow_696 + 1), .int 1]) := by rw [hen_715]; exact va_up_self _ _ _
              have hI_715 : SC cy cs ad ka kb kc en_715 := by rw [hen_715]; exact up2_C hI_709 ⟨sta_696, cc_696, ct_696, un_696, (ow_696 + 1), 1, rfl, p0_696, p1_696, p2_696, (by omega)⟩
              have hf_715 : ∀ c, ((c < 70 ∨ 74 ≤ c) ∧ c ≠ ka ∧ c ≠ kb ∧ c ≠ kc) → en_715 c = en c := fun c hc => Eq.trans (show en_715 c = en_709 c from by rw [hen_715, va_up_ne _ _ (by omega)]) (hf_709 c hc)
              refine lv_iinc (v := (nI (j692 + 1))) (lv' := [(1, .int (nI (j692 + 1))), (0, .ref (ad 70))]) hx hb dX0_sumUp_94 hl (k := 0) rfl (nI_1 _) (by decide) rfl (fun ls hl => ?_)
              refine lv_goto (tgt := 18) hx hb dX0_sumUp_97 (by decide) ?_
              exact ih_692 ((j692 + 1))  en_715 ls H locs (by omega) (by omega) (by omega) hI_715 hf_715  (lv_sub hl [0, 1] rfl) hh
          · obtain rfl : r_712 = 1 := hb_712
            refine lv_if_eq (tgt := 73) hx hb dX0_sumUp_65 (by decide) (fun c_0 => absurd c_0 (by decide)) (fun _ => ?_)
            refine lv_aload_n hx hb dX0_sumUp_68 rfl (lv_at hl 1 rfl) ?_
            refine lv_iload_n hx hb dX0_sumUp_69 rfl (lv_at hl 0 rfl) ?_
            refine hp_put hx hb hts ix0 tyX0 tyX0_ok nmX0 hown hK hh (q := 70) rfl (hI.1.1 _ (by decide)) es696_709 rfl 10 (by decide) (hts _ tw_159) (fun _ h9 => h9) rfl (ty := .int) (by decide +kernel) rfl rfl (Nat.le_of_ble_eq_true rfl) dX0_sumUp_70 (fun H locs en_716 hen_716 hh => ?_)
            have es697_716 : en_716 73 = .inl (cy 1, 9, .inr (.inl f_697)) := by rw [hen_716, va_up_ne _ _ (by decide)]; exact es697_709
            have es710_716 : en_716 71 = .inl (cy 1, 9, .inr (.inl f_710)) := by rw [hen_716, va_up_ne _ _ (by decide)]; exact es710
            have es687_716 : en_716 1 = .inr (7, [.ref (ad 2), .ref (ad 3), .ref (ad 10), .ref (ad 11), .int (nI cnt), .int (nI d), .int (nI mm)]) := by rw [hen_716, va_up_ne _ _ (by decide)]; exact es687_711
            have es696_716 : en_716 70 = .inr (0, [.ref (ad 1), .ref (ad 71), .ref (ad 72), .ref (ad 73), .ref (ad ka), .ref (ad kb), .ref (ad kc), .int (nI sta_696), .int (nI cc_696), .int (nI ct_696), .int (nI j692), .int (ow_696 + 1), .int (nI hn_696)]) := by rw [hen_716]; exact va_up_self _ _ _
            have hI_716 : SC cy cs ad ka kb kc en_716 := by rw [hen_716]; exact up2_C hI_709 ⟨sta_696, cc_696, ct_696, (nI j692), (ow_696 + 1), hn_696, rfl, p0_696, p1_696, p2_696, p3_696⟩
            have hf_716 : ∀ c, ((c < 70 ∨ 74 ≤ c) ∧ c ≠ ka ∧ c ≠ kb ∧ c ≠ kc) → en_716 c = en c := fun c hc => Eq.trans (show en_716 c = en_709 c from by rw [hen_716, va_up_ne _ _ (by omega)]) (hf_709 c hc)
            refine lv_aload_n hx hb dX0_sumUp_73 rfl (lv_at hl 1 rfl) ?_
            refine hp_get hx hb hts ix0 hown hK hh (q := 70) rfl (hI.1.1 _ (by decide)) es696_716 rfl 0 (by decide) (hts _ tw_147) (fun _ h9 => h9) rfl dX0_sumUp_74 ?_
            refine lv_aload_n hx hb dX0_sumUp_77 rfl (lv_at hl 1 rfl) ?_
            refine hp_get hx hb hts ix0 hown hK hh (q := 70) rfl (hI.1.1 _ (by decide)) es696_716 rfl 1 (by decide) (hts _ tw_148) (fun _ h9 => h9) rfl dX0_sumUp_78 ?_
            refine hp_callRl (va_runV (As := [.ref (ad 71)]) (rest := []) ⟨hx, hb, hml, hown, hts⟩ (c_X8_norm l D cy _ cs ad en_716 (hI.1.1 _ (by decide)) cnt d mm hcnt hd2 hd3 hmm 71 (hI.1.1 _ (by decide)) f_710 es687_716 es710_716) (kw_X8_norm hts tw_639 ⟨by decide, by decide⟩) (preV_of hh hK (hI.1.1 _ (by decide)) es687_716 rfl) rfl rfl hl.1 rfl (lv_room (Nat.le_of_ble_eq_true rfl)) dX0_sumUp_81 ⟨Nat.le_of_ble_eq_true rfl, Nat.le_of_ble_eq_true rfl⟩) hh hA (fun r_717 H locs hw_717 hh => ?_)
            obtain rfl : r_717 = (normT d f_710 d) := hw_717
            refine lv_lconst (v := 0) hx hb dX0_sumUp_84 (by decide) ?_
            refine W.lcmp hx hb dX0_sumUp_85 ?_
            refine lv_if_ne (tgt := 94) hx hb dX0_sumUp_86 (by decide) (fun c_718 => ?_) (fun c_718 => ?_)
            · refine lv_iinc (v := (nI (j692 + 1))) (lv' := [(1, .int (nI (j692 + 1))), (0, .ref (ad 70))]) hx hb dX0_sumUp_94 hl (k := 0) rfl (nI_1 _) (by decide) rfl (fun ls hl => ?_)
              refine lv_goto (tgt := 18) hx hb dX0_sumUp_97 (by decide) ?_
              exact ih_692 ((j692 + 1))  en_716 ls H locs (by omega) (by omega) (by omega) hI_716 hf_716  (lv_sub hl [0, 1] rfl) hh
            · refine lv_aload_n hx hb dX0_sumUp_89 rfl (lv_at hl 1 rfl) ?_
              refine lv_iconst (v := 1) hx hb dX0_sumUp_90 (by decide) ?_
              refine hp_put hx hb hts ix0 tyX0 tyX0_ok nmX0 hown hK hh (q := 70) rfl (hI.1.1 _ (by decide)) es696_716 rfl 12 (by decide) (hts _ tw_163) (fun _ h9 => h9) rfl (ty := .boolean) (by decide +kernel) rfl rfl (Nat.le_of_ble_eq_true rfl) dX0_sumUp_91 (fun H locs en_719 hen_719 hh => ?_)
              have es697_719 : en_719 73 = .inl (cy 1, 9, .inr (.inl f_697)) := by rw [hen_719, va_up_ne _ _ (by decide)]; exact es697_716
              have es710_719 : en_719 71 = .inl (cy 1, 9, .inr (.inl f_710)) := by rw [hen_719, va_up_ne _ _ (by decide)]; exact es710_716
              have es687_719 : en_719 1 = .inr (7, [.ref (ad 2), .ref (ad 3), .ref (ad 10), .ref (ad 11), .int (nI cnt), .int (nI d), .int (nI mm)]) := by rw [hen_719, va_up_ne _ _ (by decide)]; exact es687_716
              have es696_719 : en_719 70 = .inr (0, [.ref (ad 1), .ref (ad 71), .ref (ad 72), .ref (ad 73), .ref (ad ka), .ref (ad kb), .ref (ad kc), .int (nI sta_696), .int (nI cc_696), .int (nI ct_696), .int (nI j692), .int (ow_696 + 1), .int 1]) := by rw [hen_719]; exact va_up_self _ _ _
              have hI_719 : SC cy cs ad ka kb kc en_719 := by rw [hen_719]; exact up2_C hI_716 ⟨sta_696, cc_696, ct_696, (nI j692), (ow_696 + 1), 1, rfl, p0_696, p1_696, p2_696, (by omega)⟩
              have hf_719 : ∀ c, ((c < 70 ∨ 74 ≤ c) ∧ c ≠ ka ∧ c ≠ kb ∧ c ≠ kc) → en_719 c = en c := fun c hc => Eq.trans (show en_719 c = en_716 c from by rw [hen_719, va_up_ne _ _ (by omega)]) (hf_716 c hc)
              refine lv_iinc (v := (nI (j692 + 1))) (lv' := [(1, .int (nI (j692 + 1))), (0, .ref (ad 70))]) hx hb dX0_sumUp_94 hl (k := 0) rfl (nI_1 _) (by decide) rfl (fun ls hl => ?_)
              refine lv_goto (tgt := 18) hx hb dX0_sumUp_97 (by decide) ?_
              exact ih_692 ((j692 + 1))  en_719 ls H locs (by omega) (by omega) (by omega) hI_719 hf_719  (lv_sub hl [0, 1] rfl) hh
  exact loop_692 (2000 + 1) 0  en_691 ls _ _ (Nat.le_refl _) (by omega) (by omega) hI_691 hf_691  (lv_sub hl [0, 1] rfl) hh
theorem kw_X0_sumUp {R : Room} {s : State} {args : Array Value} {own : String} {idx : Nat} (hts : ∀ w ∈ TB, w.before args s = true) (hl : Cond.methodLink own idx yX0_sumUp ∈ TB) (hR : 3 + 1 ≤ R.frames ∧ 8 + (2 + 11) + 40 * 3 ≤ R.locals) : CallW R s args own RX0 idx yX0_sumUp cX0_sumUp 2 none (Cond.code yX0_sumUp cX0_sumUp 2 none :: TB) (rmN 3) 0 0 0 := cwV 0 hts (TB_V hl tw_629 ts_22 tw_5 tw_630) rfl rfl rfl (by decide +kernel) hR
set_option maxHeartbeats 4000000 in
set_option maxRecDepth 100000 in
/-- prepareRows -/
theorem c_X0_prepareRows (l : Launch) (D : va_G) (cy : Nat → ClassId) (sz : Nat) (cs : List Nat) (ad : Nat → Nat) (en : Nat → va_E) {ka kb kc : Nat} (hI : SC cy cs ad ka kb kc en)    : Met l yX0_prepareRows (Cond.code yX0_prepareRows cX0_prepareRows 1 none :: TB) (rmN 1) (va_Pc [.ref (ad 70)] (Pre D cy cs ad en sz)) (va_Qv (S := Nat → va_E) (fun en1 => SC cy cs ad ka kb kc en1 ∧ (∀ c, ((c < 70 ∨ 74 ≤ c) ∧ c ≠ ka ∧ c ≠ kb ∧ c ≠ kc) → en1 c = en c)) (PostM D cs ad) (Af cs ad sz)) 0 0 (Af cs ad sz) := by
  refine Met.ofW (cc := cX0_prepareRows) (maxL := 1) (ret := none) (by decide) rfl ?_
  intro p e s m args below meth c s₁ B hml hv
  obtain ⟨rfl, hsz, hP, hK, hD0⟩ := hv
  have hx := B.exec
  have hb := B.bytes
  have hr := B.returns
  have hts : ∀ w ∈ TB, w.before _ s = true := fun w h => atoms_spec (ws := _ :: TB) B.pre w (List.mem_cons_of_mem _ h)
  have hown : s.vm.findClass RX0 = some m.cls := findClass_of_methodNamed B.named
  have hlocks := B.notSynchronized
  have hh : Hp D (Af cs ad sz) (Af cs ad sz) s.heap s.heap [] cs ad en := ⟨hP, Af_self hD0, va_S.rf⟩
  have hA : ∀ q : Nat, s.heap.size ≤ q → Af cs ad sz q := fun q h => Or.inr (by rw [hsz] at h; exact h)
  have hl := lv_entry ([.ref (ad 70)]) (n := 1) (Nat.le_of_ble_eq_true rfl)
  rw [lg_entry_eq]
  generalize (lg_sl ([.ref (ad 70)]) ++ List.replicate (1 - (lg_sl ([.ref (ad 70)])).length) Slot.unset).toArray = ls at hl ⊢
  have hl : lv_has ls 1 [(0, .ref (ad 70))] := hl
  have hka1 : 115 ≤ ka := hI.2.1.2.2.2.1
  have hka2 : ka < kb := hI.2.1.2.2.2.2.1
  have hka3 : kb < kc := hI.2.1.2.2.2.2.2
  have hf0 : ∀ c, ((c < 70 ∨ 74 ≤ c) ∧ c ≠ ka ∧ c ≠ kb ∧ c ≠ kc) → en c = en c := fun _ _ => rfl
  obtain ⟨cnt, d, mm, es720, hcnt, hd2, hd3, hmm⟩ := get2_T hI
  obtain ⟨sta_721, cc_721, ct_721, un_721, ow_721, hn_721, es721, p0_721, p1_721, p2_721, p3_721⟩ := get2_C hI
  have hdd : d * d ≤ 9 := Nat.mul_le_mul hd3 hd3
  refine lv_aload_n hx hb dX0_prepareRows_0 rfl (lv_at hl 0 rfl) ?_
  refine hp_get hx hb hts ix0 hown hK hh (q := 70) rfl (hI.1.1 _ (by decide)) es721 rfl 4 (by decide) (hts _ tw_151) (fun _ h9 => h9) rfl dX0_prepareRows_1 ?_
  refine lv_ifnull hx hb dX0_prepareRows_4 ?_
  refine lv_aload_n hx hb dX0_prepareRows_7 rfl (lv_at hl 0 rfl) ?_
  refine hp_get hx hb hts ix0 hown hK hh (q := 70) rfl (hI.1.1 _ (by decide)) es721 rfl 5 (by decide) (hts _ tw_152) (fun _ h9 => h9) rfl dX0_prepareRows_8 ?_
  refine lv_ifnull hx hb dX0_prepareRows_11 ?_
  refine lv_aload_n hx hb dX0_prepareRows_14 rfl (lv_at hl 0 rfl) ?_
  refine hp_get hx hb hts ix0 hown hK hh (q := 70) rfl (hI.1.1 _ (by decide)) es721 rfl 6 (by decide) (hts _ tw_153) (fun _ h9 => h9) rfl dX0_prepareRows_15 ?_
  refine lv_ifnonnull (tgt := 48) hx hb dX0_prepareRows_18 (by decide) ?_
  refine lv_aload_n hx hb dX0_prepareRows_48 rfl (lv_at hl 0 rfl) ?_
  refine hp_get hx hb hts ix0 hown hK hh (q := 70) rfl (hI.1.1 _ (by decide)) es721 rfl 6 (by decide) (hts _ tw_153) (fun _ h9 => h9) rfl dX0_prepareRows_49 ?_
  refine lv_iconst (v := 0) hx hb dX0_prepareRows_52 (by decide) ?_
  obtain ⟨f_722, es722, p0_722⟩ := get2_ec hI
  refine hp_callMv (va_runS (As := [.ref (ad kc), .int 0]) (rest := []) ⟨hx, hb, hml, hown, hts⟩ (c_J7_fill_53178 l D cy _ cs ad en kc 4096 hI.2.1.2.2.1 (by decide) f_722 0 es722) (kw_J7_fill_53178 hts tw_590 ⟨by decide, by decide⟩) (preS_of hh hK) rfl rfl hl.1 rfl (lv_room (Nat.le_of_ble_eq_true rfl)) dX0_prepareRows_53 ⟨Nat.le_of_ble_eq_true rfl, Nat.le_of_ble_eq_true rfl⟩) hh hA (fun H locs en_723 hw_723 hh => ?_)
  obtain ⟨f_723, hen_723, hf9_723⟩ := hw_723
  have es720_723 : en_723 1 = .inr (7, [.ref (ad 2), .ref (ad 3), .ref (ad 10), .ref (ad 11), .int (nI cnt), .int (nI d), .int (nI mm)]) := by rw [hen_723, va_up_ne _ _ (by omega)]; exact es720
  have es721_723 : en_723 70 = .inr (0, [.ref (ad 1), .ref (ad 71), .ref (ad 72), .ref (ad 73), .ref (ad ka), .ref (ad kb), .ref (ad kc), .int (nI sta_721), .int (nI cc_721), .int (nI ct_721), .int un_721, .int ow_721, .int (nI hn_721)]) := by rw [hen_723, va_up_ne _ _ (by omega)]; exact es721
  have es722_723 : en_723 kc = .inl (cy 0, 4096, .inl f_723) := by rw [hen_723]; exact va_up_self _ _ _
  have hI_723 : SC cy cs ad ka kb kc en_723 := by rw [hen_723]; exact up2_ec hI ⟨f_723, rfl, (fun i hi => ⟨0, by decide, hf9_723 i hi⟩)⟩
  have hf_723 : ∀ c, ((c < 70 ∨ 74 ≤ c) ∧ c ≠ ka ∧ c ≠ kb ∧ c ≠ kc) → en_723 c = en c := fun c hc => Eq.trans (show en_723 c = en c from by rw [hen_723, va_up_ne _ _ (by omega)]) (hf0 c hc)
  refine lv_aload_n hx hb dX0_prepareRows_56 rfl (lv_at hl 0 rfl) ?_
  refine lv_aload_n hx hb dX0_prepareRows_57 rfl (lv_at hl 0 rfl) ?_
  refine hp_get hx hb hts ix0 hown hK hh (q := 70) rfl (hI.1.1 _ (by decide)) es721_723 rfl 0 (by decide) (hts _ tw_147) (fun _ h9 => h9) rfl dX0_prepareRows_58 ?_
  refine hp_callRi (va_runV (As := []) (rest := [.ref (ad 70)]) ⟨hx, hb, hml, hown, hts⟩ (c_X8_cellCount l D cy _ cs ad en_723 (hI.1.1 _ (by decide)) cnt d mm hcnt hd2 hd3 hmm  es720_723) (kw_X8_cellCount hts tw_591 ⟨by decide, by decide⟩) (preV_of hh hK (hI.1.1 _ (by decide)) es720_723 rfl) rfl rfl hl.1 rfl (lv_room (Nat.le_of_ble_eq_true rfl)) dX0_prepareRows_61 ⟨Nat.le_of_ble_eq_true rfl, Nat.le_of_ble_eq_true rfl⟩) hh hA (fun r_724 H locs hw_724 hh => ?_)
  obtain rfl : r_724 = nI (d * d) := hw_724
  refine hp_put hx hb hts ix0 tyX0 tyX0_ok nmX0 hown hK hh (q := 70) rfl (hI.1.1 _ (by decide)) es721_723 rfl 8 (by decide) (hts _ tw_155) (fun _ h9 => h9) rfl (ty := .int) (by decide +kernel) rfl rfl (Nat.le_of_ble_eq_true rfl) dX0_prepareRows_64 (fun H locs en_725 hen_725 hh => ?_)
  have es720_725 : en_725 1 = .inr (7, [.ref (ad 2), .ref (ad 3), .ref (ad 10), .ref (ad 11), .int (nI cnt), .int (nI d), .int (nI mm)]) := by rw [hen_725, va_up_ne _ _ (by decide)]; exact es720_723
  have es722_725 : en_725 kc = .inl (cy 0, 4096, .inl f_723) := by rw [hen_725, va_up_ne _ _ (by omega)]; exact es722_723
  have es721_725 : en_725 70 = .inr (0, [.ref (ad 1), .ref (ad 71), .ref (ad 72), .ref (ad 73), .ref (ad ka), .ref (ad kb), .ref (ad kc), .int (nI sta_721), .int (nI (d * d)), .int (nI ct_721), .int un_721, .int ow_721, .int (nI hn_721)]) := by rw [hen_725]; exact va_up_self _ _ _
  have hI_725 : SC cy cs ad ka kb kc en_725 := by rw [hen_725]; exact up2_C hI_723 ⟨sta_721, (d * d), ct_721, un_721, ow_721, hn_721, rfl, p0_721, (by omega), p2_721, p3_721⟩
  have hf_725 : ∀ c, ((c < 70 ∨ 74 ≤ c) ∧ c ≠ ka ∧ c ≠ kb ∧ c ≠ kc) → en_725 c = en c := fun c hc => Eq.trans (show en_725 c = en_723 c from by rw [hen_725, va_up_ne _ _ (by omega)]) (hf_723 c hc)
  refine lv_aload_n hx hb dX0_prepareRows_67 rfl (lv_at hl 0 rfl) ?_
  refine lv_iconst (v := 0) hx hb dX0_prepareRows_68 (by decide) ?_
  refine hp_put hx hb hts ix0 tyX0 tyX0_ok nmX0 hown hK hh (q := 70) rfl (hI.1.1 _ (by decide)) es721_725 rfl 9 (by decide) (hts _ tw_156) (fun _ h9 => h9) rfl (ty := .int) (by decide +kernel) rfl rfl (Nat.le_of_ble_eq_true rfl) dX0_prepareRows_69 (fun H locs en_726 hen_726 hh => ?_)
  have es720_726 : en_726 1 = .inr (7, [.ref (ad 2), .ref (ad 3), .ref (ad 10), .ref (ad 11), .int (nI cnt), .int (nI d), .int (nI mm)]) := by rw [hen_726, va_up_ne _ _ (by decide)]; exact es720_725
  have es722_726 : en_726 kc = .inl (cy 0, 4096, .inl f_723) := by rw [hen_726, va_up_ne _ _ (by omega)]; exact es722_725
  have es721_726 : en_726 70 = .inr (0, [.ref (ad 1), .ref (ad 71), .ref (ad 72), .ref (ad 73), .ref (ad ka), .ref (ad kb), .ref (ad kc), .int (nI sta_721), .int (nI (d * d)), .int 0, .int un_721, .int ow_721, .int (nI hn_721)]) := by rw [hen_726]; exact va_up_self _ _ _
  have hI_726 : SC cy cs ad ka kb kc en_726 := by rw [hen_726]; exact up2_C hI_725 ⟨sta_721, (d * d), 0, un_721, ow_721, hn_721, rfl, p0_721, (by omega), (by omega), p3_721⟩
  have hf_726 : ∀ c, ((c < 70 ∨ 74 ≤ c) ∧ c ≠ ka ∧ c ≠ kb ∧ c ≠ kc) → en_726 c = en c := fun c hc => Eq.trans (show en_726 c = en_725 c from by rw [hen_726, va_up_ne _ _ (by omega)]) (hf_725 c hc)
  exact hp_vretM hx hb hr hlocks hh (⟨hI_726, hf_726⟩) dX0_prepareRows_72
theorem kw_X0_prepareRows {R : Room} {s : State} {args : Array Value} {own : String} {idx : Nat} (hts : ∀ w ∈ TB, w.before args s = true) (hl : Cond.methodLink own idx yX0_prepareRows ∈ TB) (hR : 1 + 1 ≤ R.frames ∧ 8 + (1 + 11) + 40 * 1 ≤ R.locals) : CallW R s args own RX0 idx yX0_prepareRows cX0_prepareRows 1 none (Cond.code yX0_prepareRows cX0_prepareRows 1 none :: TB) (rmN 1) 0 0 0 := cwV 0 hts (TB_V hl tw_588 ts_14 tw_5 tw_589) rfl rfl rfl (by decide +kernel) hR
set_option maxHeartbeats 4000000 in
set_option maxRecDepth 100000 in
/-- findAll -/
theorem c_X0_findAll (l : Launch) (D : va_G) (cy : Nat → ClassId) (sz : Nat) (cs : List Nat) (ad : Nat → Nat) (en : Nat → va_E) {ka kb kc : Nat} (hI : SC cy cs ad ka kb kc en)    : Met l yX0_findAll (Cond.code yX0_findAll cX0_findAll 2 (some .boolean) :: TB) (rmN 4) (va_Pc [.ref (ad 70)] (Pre D cy cs ad en sz)) (va_Qi (S := Nat → va_E) (fun r en1 => SC cy cs ad ka kb kc en1 ∧ (∀ c, ((c < 70 ∨ 74 ≤ c) ∧ c ≠ ka ∧ c ≠ kb ∧ c ≠ kc) → en1 c = en c) ∧ (r = 0 ∨ r = 1)) (PostM D cs ad) (Af cs ad sz)) 0 0 (Af cs ad sz) := by
  refine Met.ofW (cc := cX0_findAll) (maxL := 2) (ret := (some .boolean)) (by decide) rfl ?_
  intro p e s m args below meth c s₁ B hml hv
  obtain ⟨rfl, hsz, hP, hK, hD0⟩ := hv
  have hx := B.exec
  have hb := B.bytes
  have hr := B.returns
  have hts : ∀ w ∈ TB, w.before _ s = true := fun w h => atoms_spec (ws := _ :: TB) B.pre w (List.mem_cons_of_mem _ h)
  have hown : s.vm.findClass RX0 = some m.cls := findClass_of_methodNamed B.named
  have hlocks := B.notSynchronized
  have hh : Hp D (Af cs ad sz) (Af cs ad sz) s.heap s.heap [] cs ad en := ⟨hP, Af_self hD0, va_S.rf⟩
  have hA : ∀ q : Nat, s.heap.size ≤ q → Af cs ad sz q := fun q h => Or.inr (by rw [hsz] at h; exact h)
  have hl := lv_entry ([.ref (ad 70)]) (n := 2) (Nat.le_of_ble_eq_true rfl)
  rw [lg_entry_eq]
  generalize (lg_sl ([.ref (ad 70)]) ++ List.replicate (2 - (lg_sl ([.ref (ad 70)])).length) Slot.unset).toArray = ls at hl ⊢
  have hl : lv_has ls 2 [(0, .ref (ad 70))] := hl
  have hka1 : 115 ≤ ka := hI.2.1.2.2.2.1
  have hka2 : ka < kb := hI.2.1.2.2.2.2.1
  have hka3 : kb < kc := hI.2.1.2.2.2.2.2
  have hf0 : ∀ c, ((c < 70 ∨ 74 ≤ c) ∧ c ≠ ka ∧ c ≠ kb ∧ c ≠ kc) → en c = en c := fun _ _ => rfl
  obtain ⟨cnt, d, mm, es727, hcnt, hd2, hd3, hmm⟩ := get2_T hI
  obtain ⟨sta_728, cc_728, ct_728, un_728, ow_728, hn_728, es728, p0_728, p1_728, p2_728, p3_728⟩ := get2_C hI
  refine lv_aload_n hx hb dX0_findAll_0 rfl (lv_at hl 0 rfl) ?_
  refine hp_callMv (va_runV (As := []) (rest := []) ⟨hx, hb, hml, hown, hts⟩ (c_X0_prepareRows l D cy _ cs ad en hI  ) (kw_X0_prepareRows hts tw_586 ⟨by decide, by decide⟩) (preV_of hh hK (hI.1.1 _ (by decide)) es728 rfl) rfl rfl hl.1 rfl (lv_room (Nat.le_of_ble_eq_true rfl)) dX0_findAll_1 ⟨Nat.le_of_ble_eq_true rfl, Nat.le_of_ble_eq_true rfl⟩) hh hA (fun H locs en_729 hw_729 hh => ?_)
  obtain ⟨hI_729, hu_729⟩ := hw_729
  have hf_729 : ∀ c, ((c < 70 ∨ 74 ≤ c) ∧ c ≠ ka ∧ c ≠ kb ∧ c ≠ kc) → en_729 c = en c := fun c hc => (hu_729 c (by omega)).trans (hf0 c hc)
  refine lv_iconst (v := 0) hx hb dX0_findAll_4 (by decide) ?_
  refine lv_istore_n (lv' := [(1, .int 0), (0, .ref (ad 70))]) hx hb dX0_findAll_5 rfl hl (by decide) rfl (fun ls hl => ?_)
  have loop_730 : ∀ (fu j730 : Nat)  (en_730 : Nat → va_E) (ls : Array Slot) (H : Heap) (locs : List Loc), 0 ≤ j730 → j730 ≤ cnt → cnt < j730 + fu → SC cy cs ad ka kb kc en_730 → (∀ c, ((c < 70 ∨ 74 ≤ c) ∧ c ≠ ka ∧ c ≠ kb ∧ c ≠ kc) → en_730 c = en c) →  lv_has ls 2 [(1, .int (nI j730)), (0, .ref (ad 70))] → Hp D (Af cs ad sz) (Af cs ad sz) s.heap H locs cs ad en_730 → W p l e (headSpec (Cond.code yX0_findAll cX0_findAll 2 (some .boolean) :: TB) (rmN 4)).room s m ([.ref (ad 70)] : List Value).toArray below meth c H locs 0 0 (MQ below (va_Qi (S := Nat → va_E) (fun r en1 => SC cy cs ad ka kb kc en1 ∧ (∀ c, ((c < 70 ∨ 74 ≤ c) ∧ c ≠ ka ∧ c ≠ kb ∧ c ≠ kc) → en1 c = en c) ∧ (r = 0 ∨ r = 1)) (PostM D cs ad) (Af cs ad sz)) ([.ref (ad 70)] : List Value).toArray s 0 0 (Af cs ad sz)) (F0 m 6 ls []) := by
    intro fu
    induction fu with
    | zero => intro j730  en_730 ls H locs h0 h1 h2; exact absurd h2 (by omega)
    | succ fu ih_730 =>
      intro j730  en_730 ls H locs hj0_730 hj_730 hfu_730 hI_730 hf_730  hl hh
      refine lv_iload_n hx hb dX0_findAll_6 rfl (lv_at hl 0 rfl) ?_
      refine lv_aload_n hx hb dX0_findAll_7 rfl (lv_at hl 1 rfl) ?_
      obtain ⟨sta_731, cc_731, ct_731, un_731, ow_731, hn_731, es731, p0_731, p1_731, p2_731, p3_731⟩ := get2_C hI_730
      refine hp_get hx hb hts ix0 hown hK hh (q := 70) rfl (hI.1.1 _ (by decide)) es731 rfl 0 (by decide) (hts _ tw_147) (fun _ h9 => h9) rfl dX0_findAll_8 ?_
      have es727_732 : en_730 1 = .inr (7, [.ref (ad 2), .ref (ad 3), .ref (ad 10), .ref (ad 11), .int (nI cnt), .int (nI d), .int (nI mm)]) := (hf_730 1 (by omega)).trans es727
      refine hp_callRi (va_runV (As := []) (rest := [.int (nI j730)]) ⟨hx, hb, hml, hown, hts⟩ (c_X8_count l D cy _ cs ad en_730 (hI.1.1 _ (by decide)) cnt d mm hcnt hd2 hd3 hmm  es727_732) (kw_X8_count hts tw_592 ⟨by decide, by decide⟩) (preV_of hh hK (hI.1.1 _ (by decide)) es727_732 rfl) rfl rfl hl.1 rfl (lv_room (Nat.le_of_ble_eq_true rfl)) dX0_findAll_11 ⟨Nat.le_of_ble_eq_true rfl, Nat.le_of_ble_eq_true rfl⟩) hh hA (fun r_733 H locs hw_733 hh => ?_)
      obtain rfl : r_733 = (nI cnt) := hw_733
      refine lv_icmp_ge (tgt := 41) hx hb dX0_findAll_14 (by decide) (fun c_734 => ?_) (fun c_734 => ?_)
      · have n_734 : cnt ≤ j730 := n_le (a := cnt) (b := j730) c_734 (by omega) (by omega)
        refine lv_iconst (v := 0) hx hb dX0_findAll_41 (by decide) ?_
        refine lv_istore_n (lv' := [(1, .int 0), (0, .ref (ad 70))]) hx hb dX0_findAll_42 rfl hl (by decide) rfl (fun ls hl => ?_)
        have loop_735 : ∀ (fu j735 : Nat)  (en_735 : Nat → va_E) (ls : Array Slot) (H : Heap) (locs : List Loc), 0 ≤ j735 → j735 ≤ 2000 → 2000 < j735 + fu → SC cy cs ad ka kb kc en_735 → (∀ c, ((c < 70 ∨ 74 ≤ c) ∧ c ≠ ka ∧ c ≠ kb ∧ c ≠ kc) → en_735 c = en c) →  lv_has ls 2 [(1, .int (nI j735)), (0, .ref (ad 70))] → Hp D (Af cs ad sz) (Af cs ad sz) s.heap H locs cs ad en_735 → W p l e (headSpec (Cond.code yX0_findAll cX0_findAll 2 (some .boolean) :: TB) (rmN 4)).room s m ([.ref (ad 70)] : List Value).toArray below meth c H locs 0 0 (MQ below (va_Qi (S := Nat → va_E) (fun r en1 => SC cy cs ad ka kb kc en1 ∧ (∀ c, ((c < 70 ∨ 74 ≤ c) ∧ c ≠ ka ∧ c ≠ kb ∧ c ≠ kc) → en1 c = en c) ∧ (r = 0 ∨ r = 1)) (PostM D cs ad) (Af cs ad sz)) ([.ref (ad 70)] : List Value).toArray s 0 0 (Af cs ad sz)) (F0 m 43 ls []) := by
          intro fu
          induction fu with
          | zero => intro j735  en_735 ls H locs h0 h1 h2; exact absurd h2 (by omega)
          | succ fu ih_735 =>
            intro j735  en_735 ls H locs hj0_735 hj_735 hfu_735 hI_735 hf_735  hl hh
            refine lv_iload_n hx hb dX0_findAll_43 rfl (lv_at hl 0 rfl) ?_
            refine lv_aload_n hx hb dX0_findAll_44 rfl (lv_at hl 1 rfl) ?_
            obtain ⟨sta_736, cc_736, ct_736, un_736, ow_736, hn_736, es736, p0_736, p1_736, p2_736, p3_736⟩ := get2_C hI_735
            refine hp_get hx hb hts ix0 hown hK hh (q := 70) rfl (hI.1.1 _ (by decide)) es736 rfl 9 (by decide) (hts _ tw_156) (fun _ h9 => h9) rfl dX0_findAll_45 ?_
            refine lv_icmp_ge (tgt := 74) hx hb dX0_findAll_48 (by decide) (fun c_737 => ?_) (fun c_737 => ?_)
            · have n_737 : ct_736 ≤ j735 := n_le (a := ct_736) (b := j735) c_737 (by omega) (by omega)
              refine lv_aload_n hx hb dX0_findAll_74 rfl (lv_at hl 1 rfl) ?_
              refine hp_callMv (va_runV (As := []) (rest := []) ⟨hx, hb, hml, hown, hts⟩ (c_X0_sumUp l D cy _ cs ad en_735 hI_735  ) (kw_X0_sumUp hts tw_627 ⟨by decide, by decide⟩) (preV_of hh hK (hI.1.1 _ (by decide)) es736 rfl) rfl rfl hl.1 rfl (lv_room (Nat.le_of_ble_eq_true rfl)) dX0_findAll_75 ⟨Nat.le_of_ble_eq_true rfl, Nat.le_of_ble_eq_true rfl⟩) hh hA (fun H locs en_738 hw_738 hh => ?_)
              obtain ⟨hI_738, hu_738⟩ := hw_738
              have hf_738 : ∀ c, ((c < 70 ∨ 74 ≤ c) ∧ c ≠ ka ∧ c ≠ kb ∧ c ≠ kc) → en_738 c = en c := fun c hc => (hu_738 c (by omega)).trans (hf_735 c hc)
              refine lv_iconst (v := 1) hx hb dX0_findAll_78 (by decide) ?_
              exact hp_iretM hx hb hr rfl hlocks hh (⟨hI_738, hf_738, Or.inr rfl⟩) dX0_findAll_79
            · have n_737 : j735 < ct_736 := n_nle (a := ct_736) (b := j735) c_737 (by omega) (by omega)
              refine lv_iload_n hx hb dX0_findAll_51 rfl (lv_at hl 0 rfl) ?_
              refine lv_sipush (v := 2000) hx hb dX0_findAll_52 (by decide) ?_
              refine lv_icmp_ge (tgt := 74) hx hb dX0_findAll_55 (by decide) (fun c_739 => ?_) (fun c_739 => ?_)
              · have n_739 : 2000 ≤ j735 := n_le (a := 2000) (b := j735) c_739 (by decide) (by omega)
                refine lv_aload_n hx hb dX0_findAll_74 rfl (lv_at hl 1 rfl) ?_
                refine hp_callMv (va_runV (As := []) (rest := []) ⟨hx, hb, hml, hown, hts⟩ (c_X0_sumUp l D cy _ cs ad en_735 hI_735  ) (kw_X0_sumUp hts tw_627 ⟨by decide, by decide⟩) (preV_of hh hK (hI.1.1 _ (by decide)) es736 rfl) rfl rfl hl.1 rfl (lv_room (Nat.le_of_ble_eq_true rfl)) dX0_findAll_75 ⟨Nat.le_of_ble_eq_true rfl, Nat.le_of_ble_eq_true rfl⟩) hh hA (fun H locs en_740 hw_740 hh => ?_)
                obtain ⟨hI_740, hu_740⟩ := hw_740
                have hf_740 : ∀ c, ((c < 70 ∨ 74 ≤ c) ∧ c ≠ ka ∧ c ≠ kb ∧ c ≠ kc) → en_740 c = en c := fun c hc => (hu_740 c (by omega)).trans (hf_735 c hc)
                refine lv_iconst (v := 1) hx hb dX0_findAll_78 (by decide) ?_
                exact hp_iretM hx hb hr rfl hlocks hh (⟨hI_740, hf_740, Or.inr rfl⟩) dX0_findAll_79
              · have n_739 : j735 < 2000 := n_nle (a := 2000) (b := j735) c_739 (by decide) (by omega)
                refine lv_aload_n hx hb dX0_findAll_58 rfl (lv_at hl 1 rfl) ?_
                refine lv_iload_n hx hb dX0_findAll_59 rfl (lv_at hl 0 rfl) ?_
                refine hp_callMi (va_runV (As := [.int (nI j735)]) (rest := []) ⟨hx, hb, hml, hown, hts⟩ (c_X0_extendByLetters l D cy _ cs ad en_735 hI_735 j735 (by omega)) (kw_X0_extendByLetters hts tw_618 ⟨by decide, by decide⟩) (preV_of hh hK (hI.1.1 _ (by decide)) es736 rfl) rfl rfl hl.1 rfl (lv_room (Nat.le_of_ble_eq_true rfl)) dX0_findAll_60 ⟨Nat.le_of_ble_eq_true rfl, Nat.le_of_ble_eq_true rfl⟩) hh hA (fun r_741 H locs en_741 hw_741 hh => ?_)
                obtain ⟨hI_741, hu_741, hx_741⟩ := hw_741
                have hf_741 : ∀ c, ((c < 70 ∨ 74 ≤ c) ∧ c ≠ ka ∧ c ≠ kb ∧ c ≠ kc) → en_741 c = en c := fun c hc => (hu_741 c (by omega)).trans (hf_735 c hc)
                have hw_741 := hx_741
                rcases hw_741 with hb_741 | hb_741
                · obtain rfl : r_741 = 0 := hb_741
                  refine lv_if_ne (tgt := 68) hx hb dX0_findAll_63 (by decide) (fun c_0 => absurd c_0 (by decide)) (fun _ => ?_)
                  refine lv_iconst (v := 0) hx hb dX0_findAll_66 (by decide) ?_
                  exact hp_iretM hx hb hr rfl hlocks hh (⟨hI_741, hf_741, Or.inl rfl⟩) dX0_findAll_67
                · obtain rfl : r_741 = 1 := hb_741
                  refine lv_if_ne (tgt := 68) hx hb dX0_findAll_63 (by decide) (fun _ => ?_) (fun c_0 => absurd c_0 (by decide))
                  refine lv_iinc (v := (nI (j735 + 1))) (lv' := [(1, .int (nI (j735 + 1))), (0, .ref (ad 70))]) hx hb dX0_findAll_68 hl (k := 0) rfl (nI_1 _) (by decide) rfl (fun ls hl => ?_)
                  refine lv_goto (tgt := 43) hx hb dX0_findAll_71 (by decide) ?_
                  exact ih_735 ((j735 + 1))  en_741 ls H locs (by omega) (by omega) (by omega) hI_741 hf_741  (lv_sub hl [0, 1] rfl) hh
        exact loop_735 (2000 + 1) 0  en_730 ls _ _ (Nat.le_refl _) (by omega) (by omega) hI_730 hf_730  (lv_sub hl [0, 1] rfl) hh
      · have n_734 : j730 < cnt := n_nle (a := cnt) (b := j730) c_734 (by omega) (by omega)
        refine lv_aload_n hx hb dX0_findAll_17 rfl (lv_at hl 1 rfl) ?_
        refine lv_aload_n hx hb dX0_findAll_18 rfl (lv_at hl 1 rfl) ?_
        refine hp_get hx hb hts ix0 hown hK hh (q := 70) rfl (hI.1.1 _ (by decide)) es731 rfl 0 (by decide) (hts _ tw_147) (fun _ h9 => h9) rfl dX0_findAll_19 ?_
        refine lv_iload_n hx hb dX0_findAll_22 rfl (lv_at hl 0 rfl) ?_
        have es742 := get2_rows hI_730
        unfold P_rows at es742
        refine hp_callRq (va_runV (As := [.int (nI j730)]) (rest := [.ref (ad 70)]) ⟨hx, hb, hml, hown, hts⟩ (c_X8_rowOf l D cy _ cs ad en_730 (hI.1.1 _ (by decide)) (hI.1.1 _ (by decide)) cnt d mm hcnt hd2 hd3 hmm j730 (by omega) es727_732 es742) (kw_X8_rowOf hts tw_593 ⟨by decide, by decide⟩) (preV_of hh hK (hI.1.1 _ (by decide)) es727_732 rfl) rfl rfl hl.1 rfl (lv_room (Nat.le_of_ble_eq_true rfl)) dX0_findAll_23 ⟨Nat.le_of_ble_eq_true rfl, Nat.le_of_ble_eq_true rfl⟩) hh hA (fun r_743 H locs hw_743 hh => ?_)
        obtain rfl : r_743 = some (ad (4 + j730)) := hw_743
        refine W.eq (g2 := F0 m 26 ls [.ref (ad (4 + j730)), .ref (ad 70)]) rfl ?_
        refine lv_iconst (v := 1) hx hb dX0_findAll_26 (by decide) ?_
        obtain ⟨f_744, es744⟩ := get2_row hI_730 (j := j730) (by omega)
        refine hp_callMi (va_runV (As := [.ref (ad (4 + j730)), .int 1]) (rest := []) ⟨hx, hb, hml, hown, hts⟩ (c_X0_take l D cy _ cs ad en_730 hI_730 (4 + j730) (hI.1.1 _ (by omega)) (by omega) f_744 1 es744) (kw_X0_take hts tw_594 ⟨by decide, by decide⟩) (preV_of hh hK (hI.1.1 _ (by decide)) es731 rfl) rfl rfl hl.1 rfl (lv_room (Nat.le_of_ble_eq_true rfl)) dX0_findAll_27 ⟨Nat.le_of_ble_eq_true rfl, Nat.le_of_ble_eq_true rfl⟩) hh hA (fun r_745 H locs en_745 hw_745 hh => ?_)
        obtain ⟨hI_745, hu_745, hx_745⟩ := hw_745
        have hf_745 : ∀ c, ((c < 70 ∨ 74 ≤ c) ∧ c ≠ ka ∧ c ≠ kb ∧ c ≠ kc) → en_745 c = en c := fun c hc => (hu_745 c (by omega)).trans (hf_730 c hc)
        have hw_745 := hx_745
        rcases hw_745 with hb_745 | hb_745
        · obtain rfl : r_745 = 0 := hb_745
          refine lv_if_ne (tgt := 35) hx hb dX0_findAll_30 (by decide) (fun c_0 => absurd c_0 (by decide)) (fun _ => ?_)
          refine lv_iconst (v := 0) hx hb dX0_findAll_33 (by decide) ?_
          exact hp_iretM hx hb hr rfl hlocks hh (⟨hI_745, hf_745, Or.inl rfl⟩) dX0_findAll_34
        · obtain rfl : r_745 = 1 := hb_745
          refine lv_if_ne (tgt := 35) hx hb dX0_findAll_30 (by decide) (fun _ => ?_) (fun c_0 => absurd c_0 (by decide))
          refine lv_iinc (v := (nI (j730 + 1))) (lv' := [(1, .int (nI (j730 + 1))), (0, .ref (ad 70))]) hx hb dX0_findAll_35 hl (k := 0) rfl (nI_1 _) (by decide) rfl (fun ls hl => ?_)
          refine lv_goto (tgt := 6) hx hb dX0_findAll_38 (by decide) ?_
          exact ih_730 ((j730 + 1))  en_745 ls H locs (by omega) (by omega) (by omega) hI_745 hf_745  (lv_sub hl [0, 1] rfl) hh
  exact loop_730 (cnt + 1) 0  en_729 ls _ _ (Nat.le_refl _) (by omega) (by omega) hI_729 hf_729  (lv_sub hl [0, 1] rfl) hh
theorem kw_X0_findAll {R : Room} {s : State} {args : Array Value} {own : String} {idx : Nat} (hts : ∀ w ∈ TB, w.before args s = true) (hl : Cond.methodLink own idx yX0_findAll ∈ TB) (hR : 4 + 1 ≤ R.frames ∧ 8 + (2 + 11) + 40 * 4 ≤ R.locals) : CallW R s args own RX0 idx yX0_findAll cX0_findAll 2 (some .boolean) (Cond.code yX0_findAll cX0_findAll 2 (some .boolean) :: TB) (rmN 4) 0 0 0 := cwV 0 hts (TB_V hl tw_584 ts_13 tw_5 tw_585) rfl rfl rfl (by decide +kernel) hR
set_option maxHeartbeats 4000000 in
set_option maxRecDepth 100000 in
/-- search -/
theorem c_X0_search (l : Launch) (D : va_G) (cy : Nat → ClassId) (sz : Nat) (cs : List Nat) (ad : Nat → Nat) (en : Nat → va_E) {ka kb kc : Nat} (hI : SC cy cs ad ka kb kc en)    : Met l yX0_search (Cond.code yX0_search cX0_search 1 (some .int) :: TB) (rmN 5) (va_Pc [.ref (ad 70)] (Pre D cy cs ad en sz)) (va_Qi (S := Nat → va_E) (fun r en1 => SC cy cs ad ka kb kc en1 ∧ (∀ c, ((c < 70 ∨ 74 ≤ c) ∧ c ≠ ka ∧ c ≠ kb ∧ c ≠ kc) → en1 c = en c)) (PostM D cs ad) (Af cs ad sz)) 0 0 (Af cs ad sz) := by
  refine Met.ofW (cc := cX0_search) (maxL := 1) (ret := (some .int)) (by decide) rfl ?_
  intro p e s m args below meth c s₁ B hml hv
  obtain ⟨rfl, hsz, hP, hK, hD0⟩ := hv
  have hx := B.exec
  have hb := B.bytes
  have hr := B.returns
  have hts : ∀ w ∈ TB, w.before _ s = true := fun w h => atoms_spec (ws := _ :: TB) B.pre w (List.mem_cons_of_mem _ h)
  have hown : s.vm.findClass RX0 = some m.cls := findClass_of_methodNamed B.named
  have hlocks := B.notSynchronized
  have hh : Hp D (Af cs ad sz) (Af cs ad sz) s.heap s.heap [] cs ad en := ⟨hP, Af_self hD0, va_S.rf⟩
  have hA : ∀ q : Nat, s.heap.size ≤ q → Af cs ad sz q := fun q h => Or.inr (by rw [hsz] at h; exact h)
  have hl := lv_entry ([.ref (ad 70)]) (n := 1) (Nat.le_of_ble_eq_true rfl)
  rw [lg_entry_eq]
  generalize (lg_sl ([.ref (ad 70)]) ++ List.replicate (1 - (lg_sl ([.ref (ad 70)])).length) Slot.unset).toArray = ls at hl ⊢
  have hl : lv_has ls 1 [(0, .ref (ad 70))] := hl
  have hka1 : 115 ≤ ka := hI.2.1.2.2.2.1
  have hka2 : ka < kb := hI.2.1.2.2.2.2.1
  have hka3 : kb < kc := hI.2.1.2.2.2.2.2
  have hf0 : ∀ c, ((c < 70 ∨ 74 ≤ c) ∧ c ≠ ka ∧ c ≠ kb ∧ c ≠ kc) → en c = en c := fun _ _ => rfl
  obtain ⟨cnt, d, mm, es746, hcnt, hd2, hd3, hmm⟩ := get2_T hI
  obtain ⟨sta_747, cc_747, ct_747, un_747, ow_747, hn_747, es747, p0_747, p1_747, p2_747, p3_747⟩ := get2_C hI
  refine lv_aload_n hx hb dX0_search_0 rfl (lv_at hl 0 rfl) ?_
  refine hp_get hx hb hts ix0 hown hK hh (q := 70) rfl (hI.1.1 _ (by decide)) es747 rfl 7 (by decide) (hts _ tw_154) (fun _ h9 => h9) rfl dX0_search_1 ?_
  refine lv_if_ne (tgt := 23) hx hb dX0_search_4 (by decide) (fun c_748 => ?_) (fun c_748 => ?_)
  · have n_748 : sta_747 ≠ 0 := n_neq (a := sta_747) (b := 0) c_748 (by omega) (by decide)
    refine lv_aload_n hx hb dX0_search_23 rfl (lv_at hl 0 rfl) ?_
    refine hp_get hx hb hts ix0 hown hK hh (q := 70) rfl (hI.1.1 _ (by decide)) es747 rfl 7 (by decide) (hts _ tw_154) (fun _ h9 => h9) rfl dX0_search_24 ?_
    refine lv_iconst (v := 1) hx hb dX0_search_27 (by decide) ?_
    refine lv_icmp_ne (tgt := 38) hx hb dX0_search_28 (by decide) (fun c_749 => ?_) (fun c_749 => ?_)
    · have n_749 : sta_747 ≠ 1 := n_neq (a := sta_747) (b := 1) c_749 (by omega) (by decide)
      refine lv_bipush (v := (-6)) hx hb dX0_search_38 (by decide) ?_
      exact hp_iretM hx hb hr rfl hlocks hh (⟨hI, hf0⟩) dX0_search_40
    · have n_749 : sta_747 = 1 := n_eq (a := sta_747) (b := 1) c_749 (by omega) (by decide)
      refine lv_aload_n hx hb dX0_search_31 rfl (lv_at hl 0 rfl) ?_
      refine hp_get hx hb hts ix0 hown hK hh (q := 70) rfl (hI.1.1 _ (by decide)) es747 rfl 9 (by decide) (hts _ tw_156) (fun _ h9 => h9) rfl dX0_search_32 ?_
      refine lv_goto (tgt := 40) hx hb dX0_search_35 (by decide) ?_
      exact hp_iretM hx hb hr rfl hlocks hh (⟨hI, hf0⟩) dX0_search_40
  · have n_748 : sta_747 = 0 := n_eq (a := sta_747) (b := 0) c_748 (by omega) (by decide)
    refine lv_aload_n hx hb dX0_search_7 rfl (lv_at hl 0 rfl) ?_
    refine lv_aload_n hx hb dX0_search_8 rfl (lv_at hl 0 rfl) ?_
    refine hp_callMi (va_runV (As := []) (rest := [.ref (ad 70)]) ⟨hx, hb, hml, hown, hts⟩ (c_X0_findAll l D cy _ cs ad en hI  ) (kw_X0_findAll hts tw_582 ⟨by decide, by decide⟩) (preV_of hh hK (hI.1.1 _ (by decide)) es747 rfl) rfl rfl hl.1 rfl (lv_room (Nat.le_of_ble_eq_true rfl)) dX0_search_9 ⟨Nat.le_of_ble_eq_true rfl, Nat.le_of_ble_eq_true rfl⟩) hh hA (fun r_750 H locs en_750 hw_750 hh => ?_)
    obtain ⟨hI_750, hu_750, hx_750⟩ := hw_750
    have hf_750 : ∀ c, ((c < 70 ∨ 74 ≤ c) ∧ c ≠ ka ∧ c ≠ kb ∧ c ≠ kc) → en_750 c = en c := fun c hc => (hu_750 c (by omega)).trans (hf0 c hc)
    have hw_750 := hx_750
    rcases hw_750 with hb_750 | hb_750
    · obtain rfl : r_750 = 0 := hb_750
      refine lv_if_eq (tgt := 19) hx hb dX0_search_12 (by decide) (fun _ => ?_) (fun c_0 => absurd c_0 (by decide))
      refine lv_iconst (v := 2) hx hb dX0_search_19 (by decide) ?_
      obtain ⟨sta_751, cc_751, ct_751, un_751, ow_751, hn_751, es751, p0_751, p1_751, p2_751, p3_751⟩ := get2_C hI_750
      refine hp_put hx hb hts ix0 tyX0 tyX0_ok nmX0 hown hK hh (q := 70) rfl (hI.1.1 _ (by decide)) es751 rfl 7 (by decide) (hts _ tw_154) (fun _ h9 => h9) rfl (ty := .int) (by decide +kernel) rfl rfl (Nat.le_of_ble_eq_true rfl) dX0_search_20 (fun H locs en_752 hen_752 hh => ?_)
      have es751_752 : en_752 70 = .inr (0, [.ref (ad 1), .ref (ad 71), .ref (ad 72), .ref (ad 73), .ref (ad ka), .ref (ad kb), .ref (ad kc), .int 2, .int (nI cc_751), .int (nI ct_751), .int un_751, .int ow_751, .int (nI hn_751)]) := by rw [hen_752]; exact va_up_self _ _ _
      have hI_752 : SC cy cs ad ka kb kc en_752 := by rw [hen_752]; exact up2_C hI_750 ⟨2, cc_751, ct_751, un_751, ow_751, hn_751, rfl, (by omega), p1_751, p2_751, p3_751⟩
      have hf_752 : ∀ c, ((c < 70 ∨ 74 ≤ c) ∧ c ≠ ka ∧ c ≠ kb ∧ c ≠ kc) → en_752 c = en c := fun c hc => Eq.trans (show en_752 c = en_750 c from by rw [hen_752, va_up_ne _ _ (by omega)]) (hf_750 c hc)
      refine lv_aload_n hx hb dX0_search_23 rfl (lv_at hl 0 rfl) ?_
      refine hp_get hx hb hts ix0 hown hK hh (q := 70) rfl (hI.1.1 _ (by decide)) es751_752 rfl 7 (by decide) (hts _ tw_154) (fun _ h9 => h9) rfl dX0_search_24 ?_
      refine lv_iconst (v := 1) hx hb dX0_search_27 (by decide) ?_
      refine lv_icmp_ne (tgt := 38) hx hb dX0_search_28 (by decide) (fun _ => ?_) (fun c_0 => absurd c_0 (by decide))
      refine lv_bipush (v := (-6)) hx hb dX0_search_38 (by decide) ?_
      exact hp_iretM hx hb hr rfl hlocks hh (⟨hI_752, hf_752⟩) dX0_search_40
    · obtain rfl : r_750 = 1 := hb_750
      refine lv_if_eq (tgt := 19) hx hb dX0_search_12 (by decide) (fun c_0 => absurd c_0 (by decide)) (fun _ => ?_)
      refine lv_iconst (v := 1) hx hb dX0_search_15 (by decide) ?_
      refine lv_goto (tgt := 20) hx hb dX0_search_16 (by decide) ?_
      obtain ⟨sta_753, cc_753, ct_753, un_753, ow_753, hn_753, es753, p0_753, p1_753, p2_753, p3_753⟩ := get2_C hI_750
      refine hp_put hx hb hts ix0 tyX0 tyX0_ok nmX0 hown hK hh (q := 70) rfl (hI.1.1 _ (by decide)) es753 rfl 7 (by decide) (hts _ tw_154) (fun _ h9 => h9) rfl (ty := .int) (by decide +kernel) rfl rfl (Nat.le_of_ble_eq_true rfl) dX0_search_20 (fun H locs en_754 hen_754 hh => ?_)
      have es753_754 : en_754 70 = .inr (0, [.ref (ad 1), .ref (ad 71), .ref (ad 72), .ref (ad 73), .ref (ad ka), .ref (ad kb), .ref (ad kc), .int 1, .int (nI cc_753), .int (nI ct_753), .int un_753, .int ow_753, .int (nI hn_753)]) := by rw [hen_754]; exact va_up_self _ _ _
      have hI_754 : SC cy cs ad ka kb kc en_754 := by rw [hen_754]; exact up2_C hI_750 ⟨1, cc_753, ct_753, un_753, ow_753, hn_753, rfl, (by omega), p1_753, p2_753, p3_753⟩
      have hf_754 : ∀ c, ((c < 70 ∨ 74 ≤ c) ∧ c ≠ ka ∧ c ≠ kb ∧ c ≠ kc) → en_754 c = en c := fun c hc => Eq.trans (show en_754 c = en_750 c from by rw [hen_754, va_up_ne _ _ (by omega)]) (hf_750 c hc)
      refine lv_aload_n hx hb dX0_search_23 rfl (lv_at hl 0 rfl) ?_
      refine hp_get hx hb hts ix0 hown hK hh (q := 70) rfl (hI.1.1 _ (by decide)) es753_754 rfl 7 (by decide) (hts _ tw_154) (fun _ h9 => h9) rfl dX0_search_24 ?_
      refine lv_iconst (v := 1) hx hb dX0_search_27 (by decide) ?_
      refine lv_icmp_ne (tgt := 38) hx hb dX0_search_28 (by decide) (fun c_0 => absurd c_0 (by decide)) (fun _ => ?_)
      refine lv_aload_n hx hb dX0_search_31 rfl (lv_at hl 0 rfl) ?_
      refine hp_get hx hb hts ix0 hown hK hh (q := 70) rfl (hI.1.1 _ (by decide)) es753_754 rfl 9 (by decide) (hts _ tw_156) (fun _ h9 => h9) rfl dX0_search_32 ?_
      refine lv_goto (tgt := 40) hx hb dX0_search_35 (by decide) ?_
      exact hp_iretM hx hb hr rfl hlocks hh (⟨hI_754, hf_754⟩) dX0_search_40
theorem kw_X0_search {R : Room} {s : State} {args : Array Value} {own : String} {idx : Nat} (hts : ∀ w ∈ TB, w.before args s = true) (hl : Cond.methodLink own idx yX0_search ∈ TB) (hR : 5 + 1 ≤ R.frames ∧ 8 + (1 + 11) + 40 * 5 ≤ R.locals) : CallW R s args own RX0 idx yX0_search cX0_search 1 (some .int) (Cond.code yX0_search cX0_search 1 (some .int) :: TB) (rmN 5) 0 0 0 := cwV 0 hts (TB_V hl tw_579 tw_580 tw_5 tw_581) rfl rfl rfl (by decide +kernel) hR
set_option maxHeartbeats 4000000 in
set_option maxRecDepth 100000 in
/-- close, the arrays made -/
theorem c_X11_close (l : Launch) (D : va_G) (cy : Nat → ClassId) (sz : Nat) (cs : List Nat) (ad : Nat → Nat) (en : Nat → va_E) {ka kb kc : Nat} (hI : SC cy cs ad ka kb kc en)    : Met l yX11_close (Cond.code yX11_close cX11_close 1 (some .int) :: TB) (rmN 6) (va_Pc [.ref (ad 0)] (Pre D cy cs ad en sz)) (va_Qi (S := Nat → va_E) (fun r en1 => SC cy cs ad ka kb kc en1 ∧ (∀ c, ((c < 70 ∨ 74 ≤ c) ∧ c ≠ ka ∧ c ≠ kb ∧ c ≠ kc) → en1 c = en c)) (PostM D cs ad) (Af cs ad sz)) 0 0 (Af cs ad sz) := by
  refine Met.ofW (cc := cX11_close) (maxL := 1) (ret := (some .int)) (by decide) rfl ?_
  intro p e s m args below meth c s₁ B hml hv
  obtain ⟨rfl, hsz, hP, hK, hD0⟩ := hv
  have hx := B.exec
  have hb := B.bytes
  have hr := B.returns
  have hts : ∀ w ∈ TB, w.before _ s = true := fun w h => atoms_spec (ws := _ :: TB) B.pre w (List.mem_cons_of_mem _ h)
  have hown : s.vm.findClass RX11 = some m.cls := findClass_of_methodNamed B.named
  have hlocks := B.notSynchronized
  have hh : Hp D (Af cs ad sz) (Af cs ad sz) s.heap s.heap [] cs ad en := ⟨hP, Af_self hD0, va_S.rf⟩
  have hA : ∀ q : Nat, s.heap.size ≤ q → Af cs ad sz q := fun q h => Or.inr (by rw [hsz] at h; exact h)
  have hl := lv_entry ([.ref (ad 0)]) (n := 1) (Nat.le_of_ble_eq_true rfl)
  rw [lg_entry_eq]
  generalize (lg_sl ([.ref (ad 0)]) ++ List.replicate (1 - (lg_sl ([.ref (ad 0)])).length) Slot.unset).toArray = ls at hl ⊢
  have hl : lv_has ls 1 [(0, .ref (ad 0))] := hl
  have hka1 : 115 ≤ ka := hI.2.1.2.2.2.1
  have hka2 : ka < kb := hI.2.1.2.2.2.2.1
  have hka3 : kb < kc := hI.2.1.2.2.2.2.2
  have hf0 : ∀ c, ((c < 70 ∨ 74 ≤ c) ∧ c ≠ ka ∧ c ≠ kb ∧ c ≠ kc) → en c = en c := fun _ _ => rfl
  obtain ⟨wc_755, lf_755, es755, p0_755⟩ := get2_A hI
  obtain ⟨cnt, d, mm, es756, hcnt, hd2, hd3, hmm⟩ := get2_T hI
  refine lv_aload_n hx hb dX11_close_0 rfl (lv_at hl 0 rfl) ?_
  refine hp_get hx hb hts ix11 hown hK hh (q := 0) rfl (hI.1.1 _ (by decide)) es755 rfl 0 (by decide) (hts _ tw_245) (fun _ h9 => h9) rfl dX11_close_1 ?_
  refine hp_callRi (va_runV (As := []) (rest := []) ⟨hx, hb, hml, hown, hts⟩ (c_X8_count l D cy _ cs ad en (hI.1.1 _ (by decide)) cnt d mm hcnt hd2 hd3 hmm  es756) (kw_X8_count hts tw_318 ⟨by decide, by decide⟩) (preV_of hh hK (hI.1.1 _ (by decide)) es756 rfl) rfl rfl hl.1 rfl (lv_room (Nat.le_of_ble_eq_true rfl)) dX11_close_4 ⟨Nat.le_of_ble_eq_true rfl, Nat.le_of_ble_eq_true rfl⟩) hh hA (fun r_757 H locs hw_757 hh => ?_)
  obtain rfl : r_757 = (nI cnt) := hw_757
  refine lv_if_ne (tgt := 15) hx hb dX11_close_7 (by decide) (fun c_758 => ?_) (fun c_758 => ?_)
  · have n_758 : cnt ≠ 0 := n_neq (a := cnt) (b := 0) c_758 (by omega) (by decide)
    refine lv_aload_n hx hb dX11_close_15 rfl (lv_at hl 0 rfl) ?_
    refine hp_get hx hb hts ix11 hown hK hh (q := 0) rfl (hI.1.1 _ (by decide)) es755 rfl 2 (by decide) (hts _ tw_247) (fun _ h9 => h9) rfl dX11_close_16 ?_
    obtain ⟨sta_759, cc_759, ct_759, un_759, ow_759, hn_759, es759, p0_759, p1_759, p2_759, p3_759⟩ := get2_C hI
    refine hp_callMi (va_runV (As := []) (rest := []) ⟨hx, hb, hml, hown, hts⟩ (c_X0_search l D cy _ cs ad en hI  ) (kw_X0_search hts tw_578 ⟨by decide, by decide⟩) (preV_of hh hK (hI.1.1 _ (by decide)) es759 rfl) rfl rfl hl.1 rfl (lv_room (Nat.le_of_ble_eq_true rfl)) dX11_close_19 ⟨Nat.le_of_ble_eq_true rfl, Nat.le_of_ble_eq_true rfl⟩) hh hA (fun r_760 H locs en_760 hw_760 hh => ?_)
    obtain ⟨hI_760, hu_760⟩ := hw_760
    have hf_760 : ∀ c, ((c < 70 ∨ 74 ≤ c) ∧ c ≠ ka ∧ c ≠ kb ∧ c ≠ kc) → en_760 c = en c := fun c hc => (hu_760 c (by omega)).trans (hf0 c hc)
    exact hp_iretM hx hb hr rfl hlocks hh (⟨hI_760, hf_760⟩) dX11_close_22
  · have n_758 : cnt = 0 := n_eq (a := cnt) (b := 0) c_758 (by omega) (by decide)
    refine lv_bipush (v := (-3)) hx hb dX11_close_10 (by decide) ?_
    refine lv_goto (tgt := 22) hx hb dX11_close_12 (by decide) ?_
    exact hp_iretM hx hb hr rfl hlocks hh (⟨hI, hf0⟩) dX11_close_22
theorem kw_X11_close {R : Room} {s : State} {args : Array Value} {own : String} {idx : Nat} (hts : ∀ w ∈ TB, w.before args s = true) (hl : Cond.methodLink own idx yX11_close ∈ TB) (hR : 6 + 1 ≤ R.frames ∧ 8 + (1 + 11) + 40 * 6 ≤ R.locals) : CallW R s args own RX11 idx yX11_close cX11_close 1 (some .int) (Cond.code yX11_close cX11_close 1 (some .int) :: TB) (rmN 6) 0 0 0 := cwV 0 hts (TB_V hl tw_575 tw_576 tw_1 tw_577) rfl rfl rfl (by decide +kernel) hR
set_option maxHeartbeats 4000000 in
set_option maxRecDepth 100000 in
/-- entryAt -/
theorem c_X0_entryAt (l : Launch) (D : va_G) (cy : Nat → ClassId) (sz : Nat) (cs : List Nat) (ad : Nat → Nat) (en : Nat → va_E) {ka kb kc : Nat} (hI : SC cy cs ad ka kb kc en) (k i : Nat) (hk : k < 2000) (hi9 : i < 9)   : Met l yX0_entryAt (Cond.code yX0_entryAt cX0_entryAt 3 (some .long) :: TB) (rmN 0) (va_Pc [.ref (ad 70), .int (nI k), .int (nI i)] (Pre D cy cs ad en sz)) (va_Ql (S := Unit) (fun _ _ => True) (fun _ _ => True) (Nf sz)) 0 0 (Nf sz) := by
  refine Met.ofW (cc := cX0_entryAt) (maxL := 3) (ret := (some .long)) (by decide) rfl ?_
  intro p e s m args below meth c s₁ B hml hv
  obtain ⟨rfl, hsz, hP, hK, hD0⟩ := hv
  have hx := B.exec
  have hb := B.bytes
  have hr := B.returns
  have hts : ∀ w ∈ TB, w.before _ s = true := fun w h => atoms_spec (ws := _ :: TB) B.pre w (List.mem_cons_of_mem _ h)
  have hown : s.vm.findClass RX0 = some m.cls := findClass_of_methodNamed B.named
  have hlocks := B.notSynchronized
  have hh : Hp D (Nf sz) (fun _ => True) s.heap s.heap [] cs ad en := ⟨hP, hD0, va_S.rf⟩
  have hA : ∀ q : Nat, s.heap.size ≤ q → Nf sz q := fun q h => by rw [hsz] at h; exact h
  have hl := lv_entry ([.ref (ad 70), .int (nI k), .int (nI i)]) (n := 3) (Nat.le_of_ble_eq_true rfl)
  rw [lg_entry_eq]
  generalize (lg_sl ([.ref (ad 70), .int (nI k), .int (nI i)]) ++ List.replicate (3 - (lg_sl ([.ref (ad 70), .int (nI k), .int (nI i)])).length) Slot.unset).toArray = ls at hl ⊢
  have hl : lv_has ls 3 [(0, .ref (ad 70)), (1, .int (nI k)), (2, .int (nI i))] := hl
  have hka1 : 115 ≤ ka := hI.2.1.2.2.2.1
  have hka2 : ka < kb := hI.2.1.2.2.2.2.1
  have hka3 : kb < kc := hI.2.1.2.2.2.2.2
  obtain ⟨sta_761, cc_761, ct_761, un_761, ow_761, hn_761, es761, p0_761, p1_761, p2_761, p3_761⟩ := get2_C hI
  refine lv_aload_n hx hb dX0_entryAt_0 rfl (lv_at hl 0 rfl) ?_
  refine hp_get hx hb hts ix0 hown hK hh (q := 70) rfl (hI.1.1 _ (by decide)) es761 rfl 4 (by decide) (hts _ tw_151) (fun _ h9 => h9) rfl dX0_entryAt_1 ?_
  refine lv_iload_n hx hb dX0_entryAt_4 rfl (lv_at hl 1 rfl) ?_
  refine lv_bipush (v := 9) hx hb dX0_entryAt_5 (by decide) ?_
  refine lv_imul hx hb dX0_entryAt_7 ?_
  rw [show (9 : Int32) = nI 9 from rfl, pk_mul k 9]
  refine lv_iload_n hx hb dX0_entryAt_8 rfl (lv_at hl 2 rfl) ?_
  refine lv_iadd hx hb dX0_entryAt_9 ?_
  rw [nI_add (k * 9) i]
  obtain ⟨f_762, es762⟩ := get2_ea hI
  refine hp_lald hx hb hK hh (q := ka) rfl hI.2.1.1 es762 (vp_in_nI (n := ((k * 9) + i)) (by omega) (by decide)) dX0_entryAt_10 ?_
  rw [nI_clamp (n := ((k * 9) + i)) (by omega)]
  exact hp_lretR hx hb hr hlocks hsz hh (trivial) dX0_entryAt_11
theorem kw_X0_entryAt {R : Room} {s : State} {args : Array Value} {own : String} {idx : Nat} (hts : ∀ w ∈ TB, w.before args s = true) (hl : Cond.methodLink own idx yX0_entryAt ∈ TB) (hR : 0 + 1 ≤ R.frames ∧ 8 + (3 + 11) + 40 * 0 ≤ R.locals) : CallW R s args own RX0 idx yX0_entryAt cX0_entryAt 3 (some .long) (Cond.code yX0_entryAt cX0_entryAt 3 (some .long) :: TB) (rmN 0) 0 0 2 := cwV 2 hts (TB_V hl tw_662 tw_663 tw_5 tw_664) rfl rfl rfl (by decide +kernel) hR
set_option maxHeartbeats 4000000 in
set_option maxRecDepth 100000 in
/-- lastWordLength -/
theorem c_X0_lastWordLength (l : Launch) (D : va_G) (cy : Nat → ClassId) (sz : Nat) (cs : List Nat) (ad : Nat → Nat) (en : Nat → va_E) {ka kb kc : Nat} (hI : SC cy cs ad ka kb kc en)    : Met l yX0_lastWordLength (Cond.code yX0_lastWordLength cX0_lastWordLength 1 (some .int) :: TB) (rmN 0) (va_Pc [.ref (ad 70)] (Pre D cy cs ad en sz)) (va_Qi (S := Unit) (fun _ _ => True) (fun _ _ => True) (Nf sz)) 0 0 (Nf sz) := by
  refine Met.ofW (cc := cX0_lastWordLength) (maxL := 1) (ret := (some .int)) (by decide) rfl ?_
  intro p e s m args below meth c s₁ B hml hv
  obtain ⟨rfl, hsz, hP, hK, hD0⟩ := hv
  have hx := B.exec
  have hb := B.bytes
  have hr := B.returns
  have hts : ∀ w ∈ TB, w.before _ s = true := fun w h => atoms_spec (ws := _ :: TB) B.pre w (List.mem_cons_of_mem _ h)
  have hown : s.vm.findClass RX0 = some m.cls := findClass_of_methodNamed B.named
  have hlocks := B.notSynchronized
  have hh : Hp D (Nf sz) (fun _ => True) s.heap s.heap [] cs ad en := ⟨hP, hD0, va_S.rf⟩
  have hA : ∀ q : Nat, s.heap.size ≤ q → Nf sz q := fun q h => by rw [hsz] at h; exact h
  have hl := lv_entry ([.ref (ad 70)]) (n := 1) (Nat.le_of_ble_eq_true rfl)
  rw [lg_entry_eq]
  generalize (lg_sl ([.ref (ad 70)]) ++ List.replicate (1 - (lg_sl ([.ref (ad 70)])).length) Slot.unset).toArray = ls at hl ⊢
  have hl : lv_has ls 1 [(0, .ref (ad 70))] := hl
  have hka1 : 115 ≤ ka := hI.2.1.2.2.2.1
  have hka2 : ka < kb := hI.2.1.2.2.2.2.1
  have hka3 : kb < kc := hI.2.1.2.2.2.2.2
  obtain ⟨sta_763, cc_763, ct_763, un_763, ow_763, hn_763, es763, p0_763, p1_763, p2_763, p3_763⟩ := get2_C hI
  refine lv_aload_n hx hb dX0_lastWordLength_0 rfl (lv_at hl 0 rfl) ?_
  refine hp_get hx hb hts ix0 hown hK hh (q := 70) rfl (hI.1.1 _ (by decide)) es763 rfl 9 (by decide) (hts _ tw_156) (fun _ h9 => h9) rfl dX0_lastWordLength_1 ?_
  refine lv_if_le (tgt := 21) hx hb dX0_lastWordLength_4 (by decide) (fun c_764 => ?_) (fun c_764 => ?_)
  · have n_764 : ct_763 ≤ 0 := n_le (a := ct_763) (b := 0) c_764 (by omega) (by decide)
    refine lv_iconst (v := 0) hx hb dX0_lastWordLength_21 (by decide) ?_
    exact hp_iretR hx hb hr rfl hlocks hsz hh (trivial) dX0_lastWordLength_22
  · have n_764 : 0 < ct_763 := n_nle (a := ct_763) (b := 0) c_764 (by omega) (by decide)
    refine lv_aload_n hx hb dX0_lastWordLength_7 rfl (lv_at hl 0 rfl) ?_
    refine hp_get hx hb hts ix0 hown hK hh (q := 70) rfl (hI.1.1 _ (by decide)) es763 rfl 5 (by decide) (hts _ tw_152) (fun _ h9 => h9) rfl dX0_lastWordLength_8 ?_
    refine lv_aload_n hx hb dX0_lastWordLength_11 rfl (lv_at hl 0 rfl) ?_
    refine hp_get hx hb hts ix0 hown hK hh (q := 70) rfl (hI.1.1 _ (by decide)) es763 rfl 9 (by decide) (hts _ tw_156) (fun _ h9 => h9) rfl dX0_lastWordLength_12 ?_
    refine lv_iconst (v := 1) hx hb dX0_lastWordLength_15 (by decide) ?_
    refine lv_isub hx hb dX0_lastWordLength_16 ?_
    rw [show (1 : Int32) = nI 1 from rfl, pk_sub (a := ct_763) (b := 1) (by omega)]
    obtain ⟨f_765, es765⟩ := get2_eb hI
    refine hp_iald hx hb hK hh (q := kb) rfl hI.2.1.2.1 es765 (vp_in_nI (n := (ct_763 - 1)) (by omega) (by decide)) dX0_lastWordLength_17 ?_
    rw [nI_clamp (n := (ct_763 - 1)) (by omega)]
    refine lv_goto (tgt := 22) hx hb dX0_lastWordLength_18 (by decide) ?_
    exact hp_iretR hx hb hr rfl hlocks hsz hh (trivial) dX0_lastWordLength_22
theorem kw_X0_lastWordLength {R : Room} {s : State} {args : Array Value} {own : String} {idx : Nat} (hts : ∀ w ∈ TB, w.before args s = true) (hl : Cond.methodLink own idx yX0_lastWordLength ∈ TB) (hR : 0 + 1 ≤ R.frames ∧ 8 + (1 + 11) + 40 * 0 ≤ R.locals) : CallW R s args own RX0 idx yX0_lastWordLength cX0_lastWordLength 1 (some .int) (Cond.code yX0_lastWordLength cX0_lastWordLength 1 (some .int) :: TB) (rmN 0) 0 0 0 := cwV 0 hts (TB_V hl tw_649 tw_650 tw_5 tw_651) rfl rfl rfl (by decide +kernel) hR
set_option maxHeartbeats 4000000 in
set_option maxRecDepth 100000 in
/-- numberOfProduct -/
theorem c_X0_numberOfProduct (l : Launch) (D : va_G) (cy : Nat → ClassId) (sz : Nat) (cs : List Nat) (ad : Nat → Nat) (en : Nat → va_E) {ka kb kc : Nat} (hI : SC cy cs ad ka kb kc en) (k j : Nat) (hk : k < 2000) (hj : j < 2000)   : Met l yX0_numberOfProduct (Cond.code yX0_numberOfProduct cX0_numberOfProduct 4 (some .int) :: TB) (rmN 3) (va_Pc [.ref (ad 70), .int (nI k), .int (nI j)] (Pre D cy cs ad en sz)) (va_Qi (S := Nat → va_E) (fun r en1 => SC cy cs ad ka kb kc en1 ∧ (∀ c, (c < 71 ∨ 74 ≤ c) → en1 c = en c)) (PostM D cs ad) (Af cs ad sz)) 0 0 (Af cs ad sz) := by
  refine Met.ofW (cc := cX0_numberOfProduct) (maxL := 4) (ret := (some .int)) (by decide) rfl ?_
  intro p e s m args below meth c s₁ B hml hv
  obtain ⟨rfl, hsz, hP, hK, hD0⟩ := hv
  have hx := B.exec
  have hb := B.bytes
  have hr := B.returns
  have hts : ∀ w ∈ TB, w.before _ s = true := fun w h => atoms_spec (ws := _ :: TB) B.pre w (List.mem_cons_of_mem _ h)
  have hown : s.vm.findClass RX0 = some m.cls := findClass_of_methodNamed B.named
  have hlocks := B.notSynchronized
  have hh : Hp D (Af cs ad sz) (Af cs ad sz) s.heap s.heap [] cs ad en := ⟨hP, Af_self hD0, va_S.rf⟩
  have hA : ∀ q : Nat, s.heap.size ≤ q → Af cs ad sz q := fun q h => Or.inr (by rw [hsz] at h; exact h)
  have hl := lv_entry ([.ref (ad 70), .int (nI k), .int (nI j)]) (n := 4) (Nat.le_of_ble_eq_true rfl)
  rw [lg_entry_eq]
  generalize (lg_sl ([.ref (ad 70), .int (nI k), .int (nI j)]) ++ List.replicate (4 - (lg_sl ([.ref (ad 70), .int (nI k), .int (nI j)])).length) Slot.unset).toArray = ls at hl ⊢
  have hl : lv_has ls 4 [(0, .ref (ad 70)), (1, .int (nI k)), (2, .int (nI j))] := hl
  have hka1 : 115 ≤ ka := hI.2.1.2.2.2.1
  have hka2 : ka < kb := hI.2.1.2.2.2.2.1
  have hka3 : kb < kc := hI.2.1.2.2.2.2.2
  have hf0 : ∀ c, (c < 71 ∨ 74 ≤ c) → en c = en c := fun _ _ => rfl
  obtain ⟨cnt, d, mm, es766, hcnt, hd2, hd3, hmm⟩ := get2_T hI
  obtain ⟨sta_767, cc_767, ct_767, un_767, ow_767, hn_767, es767, p0_767, p1_767, p2_767, p3_767⟩ := get2_C hI
  refine lv_aload_n hx hb dX0_numberOfProduct_0 rfl (lv_at hl 0 rfl) ?_
  refine lv_iload_n hx hb dX0_numberOfProduct_1 rfl (lv_at hl 1 rfl) ?_
  refine lv_iload_n hx hb dX0_numberOfProduct_2 rfl (lv_at hl 2 rfl) ?_
  refine hp_callMv (va_runV (As := [.int (nI k), .int (nI j)]) (rest := []) ⟨hx, hb, hml, hown, hts⟩ (c_X0_multiplyNumbered l D cy _ cs ad en hI k j (by omega) (by omega)) (kw_X0_multiplyNumbered hts tw_631 ⟨by decide, by decide⟩) (preV_of hh hK (hI.1.1 _ (by decide)) es767 rfl) rfl rfl hl.1 rfl (lv_room (Nat.le_of_ble_eq_true rfl)) dX0_numberOfProduct_3 ⟨Nat.le_of_ble_eq_true rfl, Nat.le_of_ble_eq_true rfl⟩) hh hA (fun H locs en_768 hw_768 hh => ?_)
  obtain ⟨hI_768, hu_768⟩ := hw_768
  have hf_768 : ∀ c, (c < 71 ∨ 74 ≤ c) → en_768 c = en c := fun c hc => (hu_768 c (by omega)).trans (hf0 c hc)
  refine lv_aload_n hx hb dX0_numberOfProduct_6 rfl (lv_at hl 0 rfl) ?_
  refine lv_aload_n hx hb dX0_numberOfProduct_7 rfl (lv_at hl 0 rfl) ?_
  have es767_769 : en_768 70 = .inr (0, [.ref (ad 1), .ref (ad 71), .ref (ad 72), .ref (ad 73), .ref (ad ka), .ref (ad kb), .ref (ad kc), .int (nI sta_767), .int (nI cc_767), .int (nI ct_767), .int un_767, .int ow_767, .int (nI hn_767)]) := (hf_768 70 (by omega)).trans es767
  refine hp_get hx hb hts ix0 hown hK hh (q := 70) rfl (hI.1.1 _ (by decide)) es767_769 rfl 3 (by decide) (hts _ tw_150) (fun _ h9 => h9) rfl dX0_numberOfProduct_8 ?_
  obtain ⟨f_770, es770⟩ := get2_cd hI_768
  refine hp_callRi (va_runV (As := [.ref (ad 73)]) (rest := []) ⟨hx, hb, hml, hown, hts⟩ (c_X0_slotOf l D cy _ cs ad en_768 hI_768  73 (hI.1.1 _ (by decide)) (by omega) f_770  es770) (kw_X0_slotOf hts tw_604 ⟨by decide, by decide⟩) (preV_of hh hK (hI.1.1 _ (by decide)) es767_769 rfl) rfl rfl hl.1 rfl (lv_room (Nat.le_of_ble_eq_true rfl)) dX0_numberOfProduct_11 ⟨Nat.le_of_ble_eq_true rfl, Nat.le_of_ble_eq_true rfl⟩) hh hA (fun r_771 H locs hw_771 hh => ?_)
  obtain ⟨S_771, hS_771, rfl⟩ := hw_771
  refine lv_istore_n (lv' := [(3, .int (nI S_771)), (0, .ref (ad 70)), (1, .int (nI k)), (2, .int (nI j))]) hx hb dX0_numberOfProduct_14 rfl hl (by decide) rfl (fun ls hl => ?_)
  refine lv_aload_n hx hb dX0_numberOfProduct_15 rfl (lv_at hl 1 rfl) ?_
  refine hp_get hx hb hts ix0 hown hK hh (q := 70) rfl (hI.1.1 _ (by decide)) es767_769 rfl 6 (by decide) (hts _ tw_153) (fun _ h9 => h9) rfl dX0_numberOfProduct_16 ?_
  refine lv_iload_n hx hb dX0_numberOfProduct_19 rfl (lv_at hl 0 rfl) ?_
  obtain ⟨f_772, es772, p0_772⟩ := get2_ec hI_768
  refine hp_iald hx hb hK hh (q := kc) rfl hI.2.1.2.2.1 es772 (vp_in_nI (n := S_771) (by omega) (by decide)) dX0_numberOfProduct_20 ?_
  rw [nI_clamp (n := S_771) (by omega)]
  obtain ⟨v_773, hv_773, hfv_773⟩ := p0_772 S_771 (by omega)
  rw [hfv_773]
  refine lv_if_ne (tgt := 28) hx hb dX0_numberOfProduct_21 (by decide) (fun c_774 => ?_) (fun c_774 => ?_)
  · have n_774 : v_773 ≠ 0 := n_neq (a := v_773) (b := 0) c_774 (by omega) (by decide)
    refine lv_aload_n hx hb dX0_numberOfProduct_28 rfl (lv_at hl 1 rfl) ?_
    refine hp_get hx hb hts ix0 hown hK hh (q := 70) rfl (hI.1.1 _ (by decide)) es767_769 rfl 6 (by decide) (hts _ tw_153) (fun _ h9 => h9) rfl dX0_numberOfProduct_29 ?_
    refine lv_iload_n hx hb dX0_numberOfProduct_32 rfl (lv_at hl 0 rfl) ?_
    refine hp_iald hx hb hK hh (q := kc) rfl hI.2.1.2.2.1 es772 (vp_in_nI (n := S_771) (by omega) (by decide)) dX0_numberOfProduct_33 ?_
    rw [nI_clamp (n := S_771) (by omega)]
    rw [hfv_773]
    refine lv_iconst (v := 1) hx hb dX0_numberOfProduct_34 (by decide) ?_
    refine lv_isub hx hb dX0_numberOfProduct_35 ?_
    rw [show (1 : Int32) = nI 1 from rfl, pk_sub (a := v_773) (b := 1) (by omega)]
    exact hp_iretM hx hb hr rfl hlocks hh (⟨hI_768, hf_768⟩) dX0_numberOfProduct_36
  · have n_774 : v_773 = 0 := n_eq (a := v_773) (b := 0) c_774 (by omega) (by decide)
    refine lv_iconst (v := (-1)) hx hb dX0_numberOfProduct_24 (by decide) ?_
    refine lv_goto (tgt := 36) hx hb dX0_numberOfProduct_25 (by decide) ?_
    exact hp_iretM hx hb hr rfl hlocks hh (⟨hI_768, hf_768⟩) dX0_numberOfProduct_36
theorem kw_X0_numberOfProduct {R : Room} {s : State} {args : Array Value} {own : String} {idx : Nat} (hts : ∀ w ∈ TB, w.before args s = true) (hl : Cond.methodLink own idx yX0_numberOfProduct ∈ TB) (hR : 3 + 1 ≤ R.frames ∧ 8 + (4 + 11) + 40 * 3 ≤ R.locals) : CallW R s args own RX0 idx yX0_numberOfProduct cX0_numberOfProduct 4 (some .int) (Cond.code yX0_numberOfProduct cX0_numberOfProduct 4 (some .int) :: TB) (rmN 3) 0 0 2 := cwV 2 hts (TB_V hl tw_670 tw_671 tw_5 tw_672) rfl rfl rfl (by decide +kernel) hR
set_option maxHeartbeats 4000000 in
set_option maxRecDepth 100000 in
/-- forget -/
theorem c_X0_forget (l : Launch) (D : va_G) (cy : Nat → ClassId) (sz : Nat) (cs : List Nat) (ad : Nat → Nat) (en : Nat → va_E) (hI : SX cy cs ad en)    : Met l yX0_forget (Cond.code yX0_forget cX0_forget 1 none :: TB) (rmN 0) (va_Pc [.ref (ad 70)] (Pre D cy cs ad en sz)) (va_Qv (S := Nat → va_E) (fun en1 => SX cy cs ad en1 ∧ (∀ c, (c ≠ 70) → en1 c = en c) ∧ (∃ (ea eb ec : Option Nat) (st0 cc0 ct0 un0 ow0 hn0 : Int32), en 70 = .inr (0, [.ref (ad 1), .ref (ad 71), .ref (ad 72), .ref (ad 73), va_rf ea, va_rf eb, va_rf ec, .int st0, .int cc0, .int ct0, .int un0, .int ow0, .int hn0]) ∧ en1 70 = .inr (0, [.ref (ad 1), .ref (ad 71), .ref (ad 72), .ref (ad 73), va_rf ea, va_rf eb, va_rf ec, .int 0, .int cc0, .int ct0, .int un0, .int ow0, .int hn0]))) (PostM D cs ad) (Af cs ad sz)) 0 0 (Af cs ad sz) := by
  refine Met.ofW (cc := cX0_forget) (maxL := 1) (ret := none) (by decide) rfl ?_
  intro p e s m args below meth c s₁ B hml hv
  obtain ⟨rfl, hsz, hP, hK, hD0⟩ := hv
  have hx := B.exec
  have hb := B.bytes
  have hr := B.returns
  have hts : ∀ w ∈ TB, w.before _ s = true := fun w h => atoms_spec (ws := _ :: TB) B.pre w (List.mem_cons_of_mem _ h)
  have hown : s.vm.findClass RX0 = some m.cls := findClass_of_methodNamed B.named
  have hlocks := B.notSynchronized
  have hh : Hp D (Af cs ad sz) (Af cs ad sz) s.heap s.heap [] cs ad en := ⟨hP, Af_self hD0, va_S.rf⟩
  have hA : ∀ q : Nat, s.heap.size ≤ q → Af cs ad sz q := fun q h => Or.inr (by rw [hsz] at h; exact h)
  have hl := lv_entry ([.ref (ad 70)]) (n := 1) (Nat.le_of_ble_eq_true rfl)
  rw [lg_entry_eq]
  generalize (lg_sl ([.ref (ad 70)]) ++ List.replicate (1 - (lg_sl ([.ref (ad 70)])).length) Slot.unset).toArray = ls at hl ⊢
  have hl : lv_has ls 1 [(0, .ref (ad 70))] := hl
  have hf0 : ∀ c, (c ≠ 70) → en c = en c := fun _ _ => rfl
  obtain ⟨ea_775, eb_775, ec_775, st0_775, cc0_775, ct0_775, un0_775, ow0_775, hn0_775, es775⟩ := get_C hI
  refine lv_aload_n hx hb dX0_forget_0 rfl (lv_at hl 0 rfl) ?_
  refine lv_iconst (v := 0) hx hb dX0_forget_1 (by decide) ?_
  refine hp_put hx hb hts ix0 tyX0 tyX0_ok nmX0 hown hK hh (q := 70) rfl (hI.1 _ (by decide)) es775 rfl 7 (by decide) (hts _ tw_154) (fun _ h9 => h9) rfl (ty := .int) (by decide +kernel) rfl rfl (Nat.le_of_ble_eq_true rfl) dX0_forget_2 (fun H locs en_776 hen_776 hh => ?_)
  have es775_776 : en_776 70 = .inr (0, [.ref (ad 1), .ref (ad 71), .ref (ad 72), .ref (ad 73), va_rf ea_775, va_rf eb_775, va_rf ec_775, .int 0, .int cc0_775, .int ct0_775, .int un0_775, .int ow0_775, .int hn0_775]) := by rw [hen_776]; exact va_up_self _ _ _
  have hI_776 : SX cy cs ad en_776 := by rw [hen_776]; exact up_C hI ⟨ea_775, eb_775, ec_775, 0, cc0_775, ct0_775, un0_775, ow0_775, hn0_775, rfl⟩
  have hf_776 : ∀ c, (c ≠ 70) → en_776 c = en c := fun c hc => Eq.trans (show en_776 c = en c from by rw [hen_776, va_up_ne _ _ (by omega)]) (hf0 c hc)
  exact hp_vretM hx hb hr hlocks hh (⟨hI_776, hf_776, ⟨ea_775, eb_775, ec_775, st0_775, cc0_775, ct0_775, un0_775, ow0_775, hn0_775, es775, es775_776⟩⟩) dX0_forget_5
theorem kw_X0_forget {R : Room} {s : State} {args : Array Value} {own : String} {idx : Nat} (hts : ∀ w ∈ TB, w.before args s = true) (hl : Cond.methodLink own idx yX0_forget ∈ TB) (hR : 0 + 1 ≤ R.frames ∧ 8 + (1 + 11) + 40 * 0 ≤ R.locals) : CallW R s args own RX0 idx yX0_forget cX0_forget 1 none (Cond.code yX0_forget cX0_forget 1 none :: TB) (rmN 0) 0 0 0 := cwV 0 hts (TB_V hl tw_286 tw_287 tw_5 tw_288) rfl rfl rfl (by decide +kernel) hR
set_option maxHeartbeats 4000000 in
set_option maxRecDepth 100000 in
/-- isFound -/
theorem c_X0_isFound (l : Launch) (D : va_G) (cy : Nat → ClassId) (sz : Nat) (cs : List Nat) (ad : Nat → Nat) (en : Nat → va_E) (hI : SX cy cs ad en)    : Met l yX0_isFound (Cond.code yX0_isFound cX0_isFound 1 (some .boolean) :: TB) (rmN 0) (va_Pc [.ref (ad 70)] (Pre D cy cs ad en sz)) (va_Qi (S := Unit) (fun r _ => r = if rdI (en 70) 7 = 1 then 1 else 0) (fun _ _ => True) (Nf sz)) 0 0 (Nf sz) := by
  refine Met.ofW (cc := cX0_isFound) (maxL := 1) (ret := (some .boolean)) (by decide) rfl ?_
  intro p e s m args below meth c s₁ B hml hv
  obtain ⟨rfl, hsz, hP, hK, hD0⟩ := hv
  have hx := B.exec
  have hb := B.bytes
  have hr := B.returns
  have hts : ∀ w ∈ TB, w.before _ s = true := fun w h => atoms_spec (ws := _ :: TB) B.pre w (List.mem_cons_of_mem _ h)
  have hown : s.vm.findClass RX0 = some m.cls := findClass_of_methodNamed B.named
  have hlocks := B.notSynchronized
  have hh : Hp D (Nf sz) (fun _ => True) s.heap s.heap [] cs ad en := ⟨hP, hD0, va_S.rf⟩
  have hA : ∀ q : Nat, s.heap.size ≤ q → Nf sz q := fun q h => by rw [hsz] at h; exact h
  have hl := lv_entry ([.ref (ad 70)]) (n := 1) (Nat.le_of_ble_eq_true rfl)
  rw [lg_entry_eq]
  generalize (lg_sl ([.ref (ad 70)]) ++ List.replicate (1 - (lg_sl ([.ref (ad 70)])).length) Slot.unset).toArray = ls at hl ⊢
  have hl : lv_has ls 1 [(0, .ref (ad 70))] := hl
  obtain ⟨ea_777, eb_777, ec_777, st0_777, cc0_777, ct0_777, un0_777, ow0_777, hn0_777, es777⟩ := get_C hI
  refine lv_aload_n hx hb dX0_isFound_0 rfl (lv_at hl 0 rfl) ?_
  refine hp_get hx hb hts ix0 hown hK hh (q := 70) rfl (hI.1 _ (by decide)) es777 rfl 7 (by decide) (hts _ tw_154) (fun _ h9 => h9) rfl dX0_isFound_1 ?_
  refine lv_iconst (v := 1) hx hb dX0_isFound_4 (by decide) ?_
  refine lv_icmp_ne (tgt := 12) hx hb dX0_isFound_5 (by decide) (fun c_778 => ?_) (fun c_778 => ?_)
  · refine lv_iconst (v := 0) hx hb dX0_isFound_12 (by decide) ?_
    exact hp_iretR hx hb hr rfl hlocks hsz hh ((by rw [show rdI (en 70) 7 = st0_777 from by rw [es777]; rfl]; exact (if_neg c_778).symm)) dX0_isFound_13
  · refine lv_iconst (v := 1) hx hb dX0_isFound_8 (by decide) ?_
    refine lv_goto (tgt := 13) hx hb dX0_isFound_9 (by decide) ?_
    exact hp_iretR hx hb hr rfl hlocks hsz hh ((by rw [show rdI (en 70) 7 = st0_777 from by rw [es777]; rfl]; exact (if_pos c_778).symm)) dX0_isFound_13
theorem kw_X0_isFound {R : Room} {s : State} {args : Array Value} {own : String} {idx : Nat} (hts : ∀ w ∈ TB, w.before args s = true) (hl : Cond.methodLink own idx yX0_isFound ∈ TB) (hR : 0 + 1 ≤ R.frames ∧ 8 + (1 + 11) + 40 * 0 ≤ R.locals) : CallW R s args own RX0 idx yX0_isFound cX0_isFound 1 (some .boolean) (Cond.code yX0_isFound cX0_isFound 1 (some .boolean) :: TB) (rmN 0) 0 0 0 := cwV 0 hts (TB_V hl tw_645 tw_646 tw_5 tw_647) rfl rfl rfl (by decide +kernel) hR
set_option maxHeartbeats 4000000 in
set_option maxRecDepth 100000 in
/-- has -/
theorem c_X0_has (l : Launch) (D : va_G) (cy : Nat → ClassId) (sz : Nat) (cs : List Nat) (ad : Nat → Nat) (en : Nat → va_E) (hI : SX cy cs ad en) (k : Int32)   : Met l yX0_has (Cond.code yX0_has cX0_has 2 (some .boolean) :: TB) (rmN 1) (va_Pc [.ref (ad 70), .int k] (Pre D cy cs ad en sz)) (va_Qi (S := Unit) (fun r _ => r = if (rdI (en 70) 7 = 1 ∧ 0 ≤ k.toInt ∧ k.toInt < (rdI (en 70) 9).toInt) then 1 else 0) (fun _ _ => True) (Nf sz)) 0 0 (Nf sz) := by
  refine Met.ofW (cc := cX0_has) (maxL := 2) (ret := (some .boolean)) (by decide) rfl ?_
  intro p e s m args below meth c s₁ B hml hv
  obtain ⟨rfl, hsz, hP, hK, hD0⟩ := hv
  have hx := B.exec
  have hb := B.bytes
  have hr := B.returns
  have hts : ∀ w ∈ TB, w.before _ s = true := fun w h => atoms_spec (ws := _ :: TB) B.pre w (List.mem_cons_of_mem _ h)
  have hown : s.vm.findClass RX0 = some m.cls := findClass_of_methodNamed B.named
  have hlocks := B.notSynchronized
  have hh : Hp D (Nf sz) (fun _ => True) s.heap s.heap [] cs ad en := ⟨hP, hD0, va_S.rf⟩
  have hA : ∀ q : Nat, s.heap.size ≤ q → Nf sz q := fun q h => by rw [hsz] at h; exact h
  have hl := lv_entry ([.ref (ad 70), .int k]) (n := 2) (Nat.le_of_ble_eq_true rfl)
  rw [lg_entry_eq]
  generalize (lg_sl ([.ref (ad 70), .int k]) ++ List.replicate (2 - (lg_sl ([.ref (ad 70), .int k])).length) Slot.unset).toArray = ls at hl ⊢
  have hl : lv_has ls 2 [(0, .ref (ad 70)), (1, .int k)] := hl
  obtain ⟨ea_779, eb_779, ec_779, st0_779, cc0_779, ct0_779, un0_779, ow0_779, hn0_779, es779⟩ := get_C hI
  refine lv_aload_n hx hb dX0_has_0 rfl (lv_at hl 0 rfl) ?_
  refine hp_callRi (va_runV (As := []) (rest := []) ⟨hx, hb, hml, hown, hts⟩ (c_X0_isFound l D cy _ cs ad en hI) (kw_X0_isFound hts tw_660 ⟨by decide, by decide⟩) (preV_of hh hK (hI.1 _ (by decide)) es779 rfl) rfl rfl hl.1 rfl (lv_room (Nat.le_of_ble_eq_true rfl)) dX0_has_1 ⟨Nat.le_of_ble_eq_true rfl, Nat.le_of_ble_eq_true rfl⟩) hh hA (fun r_780 H locs hw_780 hh => ?_)
  rcases Decidable.em (rdI (en 70) 7 = 1) with hp_780 | hp_780
  · obtain rfl : r_780 = 1 := Eq.trans hw_780 (if_pos hp_780)
    refine lv_if_eq (tgt := 23) hx hb dX0_has_4 (by decide) (fun c_0 => absurd c_0 (by decide)) (fun _ => ?_)
    refine lv_iload_n hx hb dX0_has_7 rfl (lv_at hl 1 rfl) ?_
    refine lv_if_lt (tgt := 23) hx hb dX0_has_8 (by decide) (fun c_781 => ?_) (fun c_781 => ?_)
    · refine lv_iconst (v := 0) hx hb dX0_has_23 (by decide) ?_
      have : (0 : Int32).toInt = 0 := by decide
      have : (1 : Int32).toInt = 1 := by decide
      have : (7 : Int32).toInt = 7 := by decide
      have : (70 : Int32).toInt = 70 := by decide
      have := i_eq hp_780
      have := i_lt c_781
      have hct9 : rdI (en 70) 9 = ct0_779 := by rw [es779]; rfl
      exact hp_iretR hx hb hr rfl hlocks hsz hh ((by rw [hct9]; exact (if_neg (fun q => by have q1 := q.2.1; have q2 := q.2.2; omega)).symm)) dX0_has_24
    · refine lv_iload_n hx hb dX0_has_11 rfl (lv_at hl 1 rfl) ?_
      refine lv_aload_n hx hb dX0_has_12 rfl (lv_at hl 0 rfl) ?_
      refine hp_get hx hb hts ix0 hown hK hh (q := 70) rfl (hI.1 _ (by decide)) es779 rfl 9 (by decide) (hts _ tw_156) (fun _ h9 => h9) rfl dX0_has_13 ?_
      refine lv_icmp_ge (tgt := 23) hx hb dX0_has_16 (by decide) (fun c_782 => ?_) (fun c_782 => ?_)
      · refine lv_iconst (v := 0) hx hb dX0_has_23 (by decide) ?_
        have : (0 : Int32).toInt = 0 := by decide
        have : (1 : Int32).toInt = 1 := by decide
        have : (7 : Int32).toInt = 7 := by decide
        have : (70 : Int32).toInt = 70 := by decide
        have := i_eq hp_780
        have := i_nlt c_781
        have := i_le c_782
        have hct9 : rdI (en 70) 9 = ct0_779 := by rw [es779]; rfl
        exact hp_iretR hx hb hr rfl hlocks hsz hh ((by rw [hct9]; exact (if_neg (fun q => by have q1 := q.2.1; have q2 := q.2.2; omega)).symm)) dX0_has_24
      · refine lv_iconst (v := 1) hx hb dX0_has_19 (by decide) ?_
        refine lv_goto (tgt := 24) hx hb dX0_has_20 (by decide) ?_
        have : (0 : Int32).toInt = 0 := by decide
        have : (1 : Int32).toInt = 1 := by decide
        have : (7 : Int32).toInt = 7 := by decide
        have : (70 : Int32).toInt = 70 := by decide
        have := i_eq hp_780
        have := i_nlt c_781
        have := i_nle c_782
        have hct9 : rdI (en 70) 9 = ct0_779 := by rw [es779]; rfl
        exact hp_iretR hx hb hr rfl hlocks hsz hh ((by rw [hct9]; exact (if_pos ⟨hp_780, by omega, by omega⟩).symm)) dX0_has_24
  · obtain rfl : r_780 = 0 := Eq.trans hw_780 (if_neg hp_780)
    refine lv_if_eq (tgt := 23) hx hb dX0_has_4 (by decide) (fun _ => ?_) (fun c_0 => absurd c_0 (by decide))
    refine lv_iconst (v := 0) hx hb dX0_has_23 (by decide) ?_
    have : (0 : Int32).toInt = 0 := by decide
    have : (1 : Int32).toInt = 1 := by decide
    have : (7 : Int32).toInt = 7 := by decide
    have : (70 : Int32).toInt = 70 := by decide
    have := i_neq hp_780
    have hct9 : rdI (en 70) 9 = ct0_779 := by rw [es779]; rfl
    exact hp_iretR hx hb hr rfl hlocks hsz hh ((by rw [hct9]; exact (if_neg (fun q => hp_780 q.1)).symm)) dX0_has_24
theorem kw_X0_has {R : Room} {s : State} {args : Array Value} {own : String} {idx : Nat} (hts : ∀ w ∈ TB, w.before args s = true) (hl : Cond.methodLink own idx yX0_has ∈ TB) (hR : 1 + 1 ≤ R.frames ∧ 8 + (2 + 11) + 40 * 1 ≤ R.locals) : CallW R s args own RX0 idx yX0_has cX0_has 2 (some .boolean) (Cond.code yX0_has cX0_has 2 (some .boolean) :: TB) (rmN 1) 0 0 1 := cwV 1 hts (TB_V hl tw_657 tw_658 tw_5 tw_659) rfl rfl rfl (by decide +kernel) hR
set_option maxHeartbeats 4000000 in
set_option maxRecDepth 100000 in
/-- closed -/
theorem c_X11_closed (l : Launch) (D : va_G) (cy : Nat → ClassId) (sz : Nat) (cs : List Nat) (ad : Nat → Nat) (en : Nat → va_E) (hI : SX cy cs ad en) (z : Int32) (hC : CP cy cs ad en)   : Met l yX11_closed (Cond.code yX11_closed cX11_closed 2 (some .int) :: TB) (rmN 2) (va_Pc [.ref (ad 0), .int z] (Pre D cy cs ad en sz)) (va_Qi (S := Unit) (fun _ _ => True) (fun _ _ => True) (Nf sz)) 0 0 (Nf sz) := by
  refine Met.ofW (cc := cX11_closed) (maxL := 2) (ret := (some .int)) (by decide) rfl ?_
  intro p e s m args below meth c s₁ B hml hv
  obtain ⟨rfl, hsz, hP, hK, hD0⟩ := hv
  have hx := B.exec
  have hb := B.bytes
  have hr := B.returns
  have hts : ∀ w ∈ TB, w.before _ s = true := fun w h => atoms_spec (ws := _ :: TB) B.pre w (List.mem_cons_of_mem _ h)
  have hown : s.vm.findClass RX11 = some m.cls := findClass_of_methodNamed B.named
  have hlocks := B.notSynchronized
  have hh : Hp D (Nf sz) (fun _ => True) s.heap s.heap [] cs ad en := ⟨hP, hD0, va_S.rf⟩
  have hA : ∀ q : Nat, s.heap.size ≤ q → Nf sz q := fun q h => by rw [hsz] at h; exact h
  have hl := lv_entry ([.ref (ad 0), .int z]) (n := 2) (Nat.le_of_ble_eq_true rfl)
  rw [lg_entry_eq]
  generalize (lg_sl ([.ref (ad 0), .int z]) ++ List.replicate (2 - (lg_sl ([.ref (ad 0), .int z])).length) Slot.unset).toArray = ls at hl ⊢
  have hl : lv_has ls 2 [(0, .ref (ad 0)), (1, .int z)] := hl
  obtain ⟨wc_783, lf_783, es783, p0_783⟩ := get_A hI
  refine lv_iload_n hx hb dX11_closed_0 rfl (lv_at hl 1 rfl) ?_
  refine lv_iconst (v := 0) hx hb dX11_closed_1 (by decide) ?_
  refine lv_iconst (v := 4) hx hb dX11_closed_2 (by decide) ?_
  refine hp_callRi (va_runS (As := [.int z, .int 0, .int 4]) (rest := []) ⟨hx, hb, hml, hown, hts⟩ (c_X11_isWithin l D cy _ cs ad en z 0 4) (kw_X11_isWithin hts tw_274 ⟨by decide, by decide⟩) (preS_of hh hK) rfl rfl hl.1 rfl (lv_room (Nat.le_of_ble_eq_true rfl)) dX11_closed_3 ⟨Nat.le_of_ble_eq_true rfl, Nat.le_of_ble_eq_true rfl⟩) hh hA (fun r_784 H locs hw_784 hh => ?_)
  rcases Decidable.em (wi z 0 4) with hp_784 | hp_784
  · obtain rfl : r_784 = 1 := Eq.trans hw_784 (if_pos hp_784)
    obtain ⟨N_784, rfl, hA_784, hB_784⟩ := wi_natB hp_784 0 4 (by decide) (by decide)
    refine lv_if_ne (tgt := 12) hx hb dX11_closed_6 (by decide) (fun _ => ?_) (fun c_0 => absurd c_0 (by decide))
    refine lv_aload_n hx hb dX11_closed_12 rfl (lv_at hl 0 rfl) ?_
    refine hp_get hx hb hts ix11 hown hK hh (q := 0) rfl (hI.1 _ (by decide)) es783 rfl 2 (by decide) (hts _ tw_247) (fun _ h9 => h9) rfl dX11_closed_13 ?_
    obtain ⟨ea_785, eb_785, ec_785, st0_785, cc0_785, ct0_785, un0_785, ow0_785, hn0_785, es785⟩ := get_C hI
    refine hp_callRi (va_runV (As := []) (rest := []) ⟨hx, hb, hml, hown, hts⟩ (c_X0_isFound l D cy _ cs ad en hI) (kw_X0_isFound hts tw_644 ⟨by decide, by decide⟩) (preV_of hh hK (hI.1 _ (by decide)) es785 rfl) rfl rfl hl.1 rfl (lv_room (Nat.le_of_ble_eq_true rfl)) dX11_closed_16 ⟨Nat.le_of_ble_eq_true rfl, Nat.le_of_ble_eq_true rfl⟩) hh hA (fun r_786 H locs hw_786 hh => ?_)
    rcases Decidable.em (rdI (en 70) 7 = 1) with hp_786 | hp_786
    · obtain rfl : r_786 = 1 := Eq.trans hw_786 (if_pos hp_786)
      refine lv_if_ne (tgt := 25) hx hb dX11_closed_19 (by decide) (fun _ => ?_) (fun c_0 => absurd c_0 (by decide))
      obtain ⟨ka_9, kb_9, kc_9, hKK_9, hPC_9⟩ := CP_found hC hp_786
      refine lv_iload_n hx hb dX11_closed_25 rfl (lv_at hl 1 rfl) ?_
      by_cases q_787_0 : (nI N_784) = 0
      · refine lv_tableIn (off := 30) (tgt := 56) hx hb dX11_closed_26 (by rw [q_787_0]; decide) (by rw [q_787_0]; decide) (by rw [q_787_0]; decide) (by decide) ?_
        refine lv_aload_n hx hb dX11_closed_56 rfl (lv_at hl 0 rfl) ?_
        refine hp_get hx hb hts ix11 hown hK hh (q := 0) rfl (hI.1 _ (by decide)) es783 rfl 2 (by decide) (hts _ tw_247) (fun _ h9 => h9) rfl dX11_closed_57 ?_
        refine hp_get hx hb hts ix0 hown hK hh (q := 70) rfl (hI.1 _ (by decide)) es785 rfl 9 (by decide) (hts _ tw_157) (fun _ h9 => h9) rfl dX11_closed_60 ?_
        exact hp_iretR hx hb hr rfl hlocks hsz hh (trivial) dX11_closed_63
      by_cases q_787_1 : (nI N_784) = 1
      · refine lv_tableIn (off := 38) (tgt := 64) hx hb dX11_closed_26 (by rw [q_787_1]; decide) (by rw [q_787_1]; decide) (by rw [q_787_1]; decide) (by decide) ?_
        refine lv_aload_n hx hb dX11_closed_64 rfl (lv_at hl 0 rfl) ?_
        refine hp_get hx hb hts ix11 hown hK hh (q := 0) rfl (hI.1 _ (by decide)) es783 rfl 2 (by decide) (hts _ tw_247) (fun _ h9 => h9) rfl dX11_closed_65 ?_
        refine hp_get hx hb hts ix0 hown hK hh (q := 70) rfl (hI.1 _ (by decide)) es785 rfl 12 (by decide) (hts _ tw_162) (fun _ h9 => h9) rfl dX11_closed_68 ?_
        refine lv_if_eq (tgt := 78) hx hb dX11_closed_71 (by decide) (fun c_788 => ?_) (fun c_788 => ?_)
        · refine lv_iconst (v := 0) hx hb dX11_closed_78 (by decide) ?_
          exact hp_iretR hx hb hr rfl hlocks hsz hh (trivial) dX11_closed_79
        · refine lv_iconst (v := 1) hx hb dX11_closed_74 (by decide) ?_
          refine lv_goto (tgt := 79) hx hb dX11_closed_75 (by decide) ?_
          exact hp_iretR hx hb hr rfl hlocks hsz hh (trivial) dX11_closed_79
      by_cases q_787_2 : (nI N_784) = 2
      · refine lv_tableIn (off := 54) (tgt := 80) hx hb dX11_closed_26 (by rw [q_787_2]; decide) (by rw [q_787_2]; decide) (by rw [q_787_2]; decide) (by decide) ?_
        refine lv_aload_n hx hb dX11_closed_80 rfl (lv_at hl 0 rfl) ?_
        refine hp_get hx hb hts ix11 hown hK hh (q := 0) rfl (hI.1 _ (by decide)) es783 rfl 2 (by decide) (hts _ tw_247) (fun _ h9 => h9) rfl dX11_closed_81 ?_
        refine hp_get hx hb hts ix0 hown hK hh (q := 70) rfl (hI.1 _ (by decide)) es785 rfl 10 (by decide) (hts _ tw_158) (fun _ h9 => h9) rfl dX11_closed_84 ?_
        exact hp_iretR hx hb hr rfl hlocks hsz hh (trivial) dX11_closed_87
      by_cases q_787_3 : (nI N_784) = 3
      · refine lv_tableIn (off := 62) (tgt := 88) hx hb dX11_closed_26 (by rw [q_787_3]; decide) (by rw [q_787_3]; decide) (by rw [q_787_3]; decide) (by decide) ?_
        refine lv_aload_n hx hb dX11_closed_88 rfl (lv_at hl 0 rfl) ?_
        refine hp_get hx hb hts ix11 hown hK hh (q := 0) rfl (hI.1 _ (by decide)) es783 rfl 2 (by decide) (hts _ tw_247) (fun _ h9 => h9) rfl dX11_closed_89 ?_
        refine hp_get hx hb hts ix0 hown hK hh (q := 70) rfl (hI.1 _ (by decide)) es785 rfl 11 (by decide) (hts _ tw_160) (fun _ h9 => h9) rfl dX11_closed_92 ?_
        exact hp_iretR hx hb hr rfl hlocks hsz hh (trivial) dX11_closed_95
      refine lv_tableOut (tgt := 96) hx hb dX11_closed_26 (tb_out 4 (by decide) (by decide) (fun j hj => by rcases (show j = 0 ∨ j = 1 ∨ j = 2 ∨ j = 3 by omega) with rfl | rfl | rfl | rfl <;> first | exact lv_neT q_787_0 (by decide) | exact lv_neT q_787_1 (by decide) | exact lv_neT q_787_2 (by decide) | exact lv_neT q_787_3 (by decide))) (by decide) ?_
      refine lv_aload_n hx hb dX11_closed_96 rfl (lv_at hl 0 rfl) ?_
      refine hp_get hx hb hts ix11 hown hK hh (q := 0) rfl (hI.1 _ (by decide)) es783 rfl 2 (by decide) (hts _ tw_247) (fun _ h9 => h9) rfl dX11_closed_97 ?_
      refine hp_callRi (va_runV (As := []) (rest := []) ⟨hx, hb, hml, hown, hts⟩ (c_X0_lastWordLength l D cy _ cs ad en (ka := ka_9) (kb := kb_9) (kc := kc_9) ⟨hI, hKK_9, hPC_9⟩) (kw_X0_lastWordLength hts tw_648 ⟨by decide, by decide⟩) (preV_of hh hK (hI.1 _ (by decide)) es785 rfl) rfl rfl hl.1 rfl (lv_room (Nat.le_of_ble_eq_true rfl)) dX11_closed_100 ⟨Nat.le_of_ble_eq_true rfl, Nat.le_of_ble_eq_true rfl⟩) hh hA (fun r_789 H locs hw_789 hh => ?_)
      exact hp_iretR hx hb hr rfl hlocks hsz hh (trivial) dX11_closed_103
    · obtain rfl : r_786 = 0 := Eq.trans hw_786 (if_neg hp_786)
      refine lv_if_ne (tgt := 25) hx hb dX11_closed_19 (by decide) (fun c_0 => absurd c_0 (by decide)) (fun _ => ?_)
      refine lv_bipush (v := (-3)) hx hb dX11_closed_22 (by decide) ?_
      exact hp_iretR hx hb hr rfl hlocks hsz hh (trivial) dX11_closed_24
  · obtain rfl : r_784 = 0 := Eq.trans hw_784 (if_neg hp_784)
    refine lv_if_ne (tgt := 12) hx hb dX11_closed_6 (by decide) (fun c_0 => absurd c_0 (by decide)) (fun _ => ?_)
    refine lv_bipush (v := (-2)) hx hb dX11_closed_9 (by decide) ?_
    exact hp_iretR hx hb hr rfl hlocks hsz hh (trivial) dX11_closed_11
theorem kw_X11_closed {R : Room} {s : State} {args : Array Value} {own : String} {idx : Nat} (hts : ∀ w ∈ TB, w.before args s = true) (hl : Cond.methodLink own idx yX11_closed ∈ TB) (hR : 2 + 1 ≤ R.frames ∧ 8 + (2 + 11) + 40 * 2 ≤ R.locals) : CallW R s args own RX11 idx yX11_closed cX11_closed 2 (some .int) (Cond.code yX11_closed cX11_closed 2 (some .int) :: TB) (rmN 2) 0 0 1 := cwV 1 hts (TB_V hl tw_641 tw_642 tw_1 tw_643) rfl rfl rfl (by decide +kernel) hR
set_option maxHeartbeats 4000000 in
set_option maxRecDepth 100000 in
/-- product -/
theorem c_X11_product (l : Launch) (D : va_G) (cy : Nat → ClassId) (sz : Nat) (cs : List Nat) (ad : Nat → Nat) (en : Nat → va_E) (hI : SX cy cs ad en) (k a b : Int32) (hC : CP cy cs ad en)   : Met l yX11_product (Cond.code yX11_product cX11_product 4 (some .long) :: TB) (rmN 2) (va_Pc [.ref (ad 0), .int k, .int a, .int b] (Pre D cy cs ad en sz)) (va_Ql (S := Unit) (fun _ _ => True) (fun _ _ => True) (Nf sz)) 0 0 (Nf sz) := by
  refine Met.ofW (cc := cX11_product) (maxL := 4) (ret := (some .long)) (by decide) rfl ?_
  intro p e s m args below meth c s₁ B hml hv
  obtain ⟨rfl, hsz, hP, hK, hD0⟩ := hv
  have hx := B.exec
  have hb := B.bytes
  have hr := B.returns
  have hts : ∀ w ∈ TB, w.before _ s = true := fun w h => atoms_spec (ws := _ :: TB) B.pre w (List.mem_cons_of_mem _ h)
  have hown : s.vm.findClass RX11 = some m.cls := findClass_of_methodNamed B.named
  have hlocks := B.notSynchronized
  have hh : Hp D (Nf sz) (fun _ => True) s.heap s.heap [] cs ad en := ⟨hP, hD0, va_S.rf⟩
  have hA : ∀ q : Nat, s.heap.size ≤ q → Nf sz q := fun q h => by rw [hsz] at h; exact h
  have hl := lv_entry ([.ref (ad 0), .int k, .int a, .int b]) (n := 4) (Nat.le_of_ble_eq_true rfl)
  rw [lg_entry_eq]
  generalize (lg_sl ([.ref (ad 0), .int k, .int a, .int b]) ++ List.replicate (4 - (lg_sl ([.ref (ad 0), .int k, .int a, .int b])).length) Slot.unset).toArray = ls at hl ⊢
  have hl : lv_has ls 4 [(0, .ref (ad 0)), (1, .int k), (2, .int a), (3, .int b)] := hl
  obtain ⟨wc_790, lf_790, es790, p0_790⟩ := get_A hI
  obtain ⟨cnt, d, mm, es791, hcnt, hd2, hd3, hmm⟩ := get_T hI
  refine lv_aload_n hx hb dX11_product_0 rfl (lv_at hl 0 rfl) ?_
  refine hp_get hx hb hts ix11 hown hK hh (q := 0) rfl (hI.1 _ (by decide)) es790 rfl 2 (by decide) (hts _ tw_247) (fun _ h9 => h9) rfl dX11_product_1 ?_
  refine lv_iload_n hx hb dX11_product_4 rfl (lv_at hl 1 rfl) ?_
  obtain ⟨ea_792, eb_792, ec_792, st0_792, cc0_792, ct0_792, un0_792, ow0_792, hn0_792, es792⟩ := get_C hI
  refine hp_callRi (va_runV (As := [.int k]) (rest := []) ⟨hx, hb, hml, hown, hts⟩ (c_X0_has l D cy _ cs ad en hI k ) (kw_X0_has hts tw_656 ⟨by decide, by decide⟩) (preV_of hh hK (hI.1 _ (by decide)) es792 rfl) rfl rfl hl.1 rfl (lv_room (Nat.le_of_ble_eq_true rfl)) dX11_product_5 ⟨Nat.le_of_ble_eq_true rfl, Nat.le_of_ble_eq_true rfl⟩) hh hA (fun r_793 H locs hw_793 hh => ?_)
  rcases Decidable.em (rdI (en 70) 7 = 1 ∧ 0 ≤ k.toInt ∧ k.toInt < (rdI (en 70) 9).toInt) with hp_793 | hp_793
  · obtain rfl : r_793 = 1 := Eq.trans hw_793 (if_pos hp_793)
    obtain ⟨ka_793, kb_793, kc_793, hKK_793, hPC_793⟩ := CP_found hC hp_793.1
    obtain ⟨ct_793, hct_793, hcte_793⟩ := PC_ct hPC_793
    obtain ⟨K_793, rfl, hK_793⟩ := has_nat (c := ct_793) ⟨hp_793.2.1, by have h9 := hp_793.2.2; rw [hcte_793, nI_toInt (by omega)] at h9; exact h9⟩
    refine lv_if_eq (tgt := 23) hx hb dX11_product_8 (by decide) (fun c_0 => absurd c_0 (by decide)) (fun _ => ?_)
    refine lv_aload_n hx hb dX11_product_11 rfl (lv_at hl 0 rfl) ?_
    refine hp_get hx hb hts ix11 hown hK hh (q := 0) rfl (hI.1 _ (by decide)) es790 rfl 0 (by decide) (hts _ tw_245) (fun _ h9 => h9) rfl dX11_product_12 ?_
    refine lv_iload_n hx hb dX11_product_15 rfl (lv_at hl 2 rfl) ?_
    refine lv_iload_n hx hb dX11_product_16 rfl (lv_at hl 3 rfl) ?_
    refine hp_callRi (va_runV (As := [.int a, .int b]) (rest := []) ⟨hx, hb, hml, hown, hts⟩ (c_X8_isPlace l D cy _ cs ad en (hI.1 _ (by decide)) cnt d mm hcnt hd2 hd3 hmm a b es791) (kw_X8_isPlace hts tw_416 ⟨by decide, by decide⟩) (preV_of hh hK (hI.1 _ (by decide)) es791 rfl) rfl rfl hl.1 rfl (lv_room (Nat.le_of_ble_eq_true rfl)) dX11_product_17 ⟨Nat.le_of_ble_eq_true rfl, Nat.le_of_ble_eq_true rfl⟩) hh hA (fun r_794 H locs hw_794 hh => ?_)
    rcases Decidable.em ((0 ≤ a.toInt ∧ a.toInt < (d : Int)) ∧ 0 ≤ b.toInt ∧ b.toInt < (d : Int)) with hp_794 | hp_794
    · obtain rfl : r_794 = 1 := Eq.trans hw_794 (if_pos hp_794)
      obtain ⟨A_794, rfl, hA_794⟩ := has_nat hp_794.1
      obtain ⟨B_794, rfl, hB_794⟩ := has_nat hp_794.2
      refine lv_if_ne (tgt := 27) hx hb dX11_product_20 (by decide) (fun _ => ?_) (fun c_0 => absurd c_0 (by decide))
      refine lv_aload_n hx hb dX11_product_27 rfl (lv_at hl 0 rfl) ?_
      refine hp_get hx hb hts ix11 hown hK hh (q := 0) rfl (hI.1 _ (by decide)) es790 rfl 2 (by decide) (hts _ tw_247) (fun _ h9 => h9) rfl dX11_product_28 ?_
      refine lv_iload_n hx hb dX11_product_31 rfl (lv_at hl 1 rfl) ?_
      refine lv_aload_n hx hb dX11_product_32 rfl (lv_at hl 0 rfl) ?_
      refine hp_get hx hb hts ix11 hown hK hh (q := 0) rfl (hI.1 _ (by decide)) es790 rfl 0 (by decide) (hts _ tw_245) (fun _ h9 => h9) rfl dX11_product_33 ?_
      refine lv_iload_n hx hb dX11_product_36 rfl (lv_at hl 2 rfl) ?_
      refine lv_iload_n hx hb dX11_product_37 rfl (lv_at hl 3 rfl) ?_
      refine hp_callRi (va_runV (As := [.int (nI A_794), .int (nI B_794)]) (rest := [.int (nI K_793), .ref (ad 70)]) ⟨hx, hb, hml, hown, hts⟩ (c_X8_cellOf l D cy _ cs ad en (hI.1 _ (by decide)) cnt d mm hcnt hd2 hd3 hmm A_794 B_794 es791) (kw_X8_cellOf hts tw_425 ⟨by decide, by decide⟩) (preV_of hh hK (hI.1 _ (by decide)) es791 rfl) rfl rfl hl.1 rfl (lv_room (Nat.le_of_ble_eq_true rfl)) dX11_product_38 ⟨Nat.le_of_ble_eq_true rfl, Nat.le_of_ble_eq_true rfl⟩) hh hA (fun r_795 H locs hw_795 hh => ?_)
      obtain rfl : r_795 = nI (A_794 * d + B_794) := hw_795
      have hi_796 : (A_794 * d + B_794) < 9 := md3 (by omega) (by omega) hd3
      refine hp_callRl (va_runV (As := [.int (nI K_793), .int (nI (A_794 * d + B_794))]) (rest := []) ⟨hx, hb, hml, hown, hts⟩ (c_X0_entryAt l D cy _ cs ad en (ka := ka_793) (kb := kb_793) (kc := kc_793) ⟨hI, hKK_793, hPC_793⟩ K_793 (A_794 * d + B_794) (by omega) (by omega)) (kw_X0_entryAt hts tw_661 ⟨by decide, by decide⟩) (preV_of hh hK (hI.1 _ (by decide)) es792 rfl) rfl rfl hl.1 rfl (lv_room (Nat.le_of_ble_eq_true rfl)) dX11_product_41 ⟨Nat.le_of_ble_eq_true rfl, Nat.le_of_ble_eq_true rfl⟩) hh hA (fun r_797 H locs hw_797 hh => ?_)
      exact hp_lretR hx hb hr hlocks hsz hh (trivial) dX11_product_44
    · obtain rfl : r_794 = 0 := Eq.trans hw_794 (if_neg hp_794)
      refine lv_if_ne (tgt := 27) hx hb dX11_product_20 (by decide) (fun c_0 => absurd c_0 (by decide)) (fun _ => ?_)
      refine lv_ldc2 hx hb hown (hts _ tw_420) dX11_product_23 ?_
      exact hp_lretR hx hb hr hlocks hsz hh (trivial) dX11_product_26
  · obtain rfl : r_793 = 0 := Eq.trans hw_793 (if_neg hp_793)
    refine lv_if_eq (tgt := 23) hx hb dX11_product_8 (by decide) (fun _ => ?_) (fun c_0 => absurd c_0 (by decide))
    refine lv_ldc2 hx hb hown (hts _ tw_420) dX11_product_23 ?_
    exact hp_lretR hx hb hr hlocks hsz hh (trivial) dX11_product_26
theorem kw_X11_product {R : Room} {s : State} {args : Array Value} {own : String} {idx : Nat} (hts : ∀ w ∈ TB, w.before args s = true) (hl : Cond.methodLink own idx yX11_product ∈ TB) (hR : 2 + 1 ≤ R.frames ∧ 8 + (4 + 11) + 40 * 2 ≤ R.locals) : CallW R s args own RX11 idx yX11_product cX11_product 4 (some .long) (Cond.code yX11_product cX11_product 4 (some .long) :: TB) (rmN 2) 0 0 3 := cwV 3 hts (TB_V hl tw_653 tw_654 tw_1 tw_655) rfl rfl rfl (by decide +kernel) hR
set_option maxHeartbeats 4000000 in
set_option maxRecDepth 100000 in
/-- times -/
theorem c_X11_times (l : Launch) (D : va_G) (cy : Nat → ClassId) (sz : Nat) (cs : List Nat) (ad : Nat → Nat) (en : Nat → va_E) (hI : SX cy cs ad en) (k j : Int32) (hC : CP cy cs ad en)   : Met l yX11_times (Cond.code yX11_times cX11_times 3 (some .int) :: TB) (rmN 4) (va_Pc [.ref (ad 0), .int k, .int j] (Pre D cy cs ad en sz)) (va_Qi (S := Nat → va_E) (fun r en1 => SX cy cs ad en1 ∧ (∀ c, (c < 71 ∨ 74 ≤ c) → en1 c = en c)) (PostM D cs ad) (Af cs ad sz)) 0 0 (Af cs ad sz) := by
  refine Met.ofW (cc := cX11_times) (maxL := 3) (ret := (some .int)) (by decide) rfl ?_
  intro p e s m args below meth c s₁ B hml hv
  obtain ⟨rfl, hsz, hP, hK, hD0⟩ := hv
  have hx := B.exec
  have hb := B.bytes
  have hr := B.returns
  have hts : ∀ w ∈ TB, w.before _ s = true := fun w h => atoms_spec (ws := _ :: TB) B.pre w (List.mem_cons_of_mem _ h)
  have hown : s.vm.findClass RX11 = some m.cls := findClass_of_methodNamed B.named
  have hlocks := B.notSynchronized
  have hh : Hp D (Af cs ad sz) (Af cs ad sz) s.heap s.heap [] cs ad en := ⟨hP, Af_self hD0, va_S.rf⟩
  have hA : ∀ q : Nat, s.heap.size ≤ q → Af cs ad sz q := fun q h => Or.inr (by rw [hsz] at h; exact h)
  have hl := lv_entry ([.ref (ad 0), .int k, .int j]) (n := 3) (Nat.le_of_ble_eq_true rfl)
  rw [lg_entry_eq]
  generalize (lg_sl ([.ref (ad 0), .int k, .int j]) ++ List.replicate (3 - (lg_sl ([.ref (ad 0), .int k, .int j])).length) Slot.unset).toArray = ls at hl ⊢
  have hl : lv_has ls 3 [(0, .ref (ad 0)), (1, .int k), (2, .int j)] := hl
  have hf0 : ∀ c, (c < 71 ∨ 74 ≤ c) → en c = en c := fun _ _ => rfl
  obtain ⟨wc_798, lf_798, es798, p0_798⟩ := get_A hI
  obtain ⟨cnt, d, mm, es799, hcnt, hd2, hd3, hmm⟩ := get_T hI
  refine lv_aload_n hx hb dX11_times_0 rfl (lv_at hl 0 rfl) ?_
  refine hp_get hx hb hts ix11 hown hK hh (q := 0) rfl (hI.1 _ (by decide)) es798 rfl 2 (by decide) (hts _ tw_247) (fun _ h9 => h9) rfl dX11_times_1 ?_
  refine lv_iload_n hx hb dX11_times_4 rfl (lv_at hl 1 rfl) ?_
  obtain ⟨ea_800, eb_800, ec_800, st0_800, cc0_800, ct0_800, un0_800, ow0_800, hn0_800, es800⟩ := get_C hI
  refine hp_callRi (va_runV (As := [.int k]) (rest := []) ⟨hx, hb, hml, hown, hts⟩ (c_X0_has l D cy _ cs ad en hI k ) (kw_X0_has hts tw_656 ⟨by decide, by decide⟩) (preV_of hh hK (hI.1 _ (by decide)) es800 rfl) rfl rfl hl.1 rfl (lv_room (Nat.le_of_ble_eq_true rfl)) dX11_times_5 ⟨Nat.le_of_ble_eq_true rfl, Nat.le_of_ble_eq_true rfl⟩) hh hA (fun r_801 H locs hw_801 hh => ?_)
  rcases Decidable.em (rdI (en 70) 7 = 1 ∧ 0 ≤ k.toInt ∧ k.toInt < (rdI (en 70) 9).toInt) with hp_801 | hp_801
  · obtain rfl : r_801 = 1 := Eq.trans hw_801 (if_pos hp_801)
    obtain ⟨ka_801, kb_801, kc_801, hKK_801, hPC_801⟩ := CP_found hC hp_801.1
    obtain ⟨ct_801, hct_801, hcte_801⟩ := PC_ct hPC_801
    obtain ⟨K_801, rfl, hK_801⟩ := has_nat (c := ct_801) ⟨hp_801.2.1, by have h9 := hp_801.2.2; rw [hcte_801, nI_toInt (by omega)] at h9; exact h9⟩
    refine lv_if_eq (tgt := 22) hx hb dX11_times_8 (by decide) (fun c_0 => absurd c_0 (by decide)) (fun _ => ?_)
    refine lv_aload_n hx hb dX11_times_11 rfl (lv_at hl 0 rfl) ?_
    refine hp_get hx hb hts ix11 hown hK hh (q := 0) rfl (hI.1 _ (by decide)) es798 rfl 2 (by decide) (hts _ tw_247) (fun _ h9 => h9) rfl dX11_times_12 ?_
    refine lv_iload_n hx hb dX11_times_15 rfl (lv_at hl 2 rfl) ?_
    refine hp_callRi (va_runV (As := [.int j]) (rest := []) ⟨hx, hb, hml, hown, hts⟩ (c_X0_has l D cy _ cs ad en hI j ) (kw_X0_has hts tw_656 ⟨by decide, by decide⟩) (preV_of hh hK (hI.1 _ (by decide)) es800 rfl) rfl rfl hl.1 rfl (lv_room (Nat.le_of_ble_eq_true rfl)) dX11_times_16 ⟨Nat.le_of_ble_eq_true rfl, Nat.le_of_ble_eq_true rfl⟩) hh hA (fun r_802 H locs hw_802 hh => ?_)
    rcases Decidable.em (rdI (en 70) 7 = 1 ∧ 0 ≤ j.toInt ∧ j.toInt < (rdI (en 70) 9).toInt) with hp_802 | hp_802
    · obtain rfl : r_802 = 1 := Eq.trans hw_802 (if_pos hp_802)
      obtain ⟨ka_802, kb_802, kc_802, hKK_802, hPC_802⟩ := CP_found hC hp_802.1
      obtain ⟨ct_802, hct_802, hcte_802⟩ := PC_ct hPC_802
      obtain ⟨K_802, rfl, hK_802⟩ := has_nat (c := ct_802) ⟨hp_802.2.1, by have h9 := hp_802.2.2; rw [hcte_802, nI_toInt (by omega)] at h9; exact h9⟩
      refine lv_if_ne (tgt := 24) hx hb dX11_times_19 (by decide) (fun _ => ?_) (fun c_0 => absurd c_0 (by decide))
      refine lv_aload_n hx hb dX11_times_24 rfl (lv_at hl 0 rfl) ?_
      refine hp_get hx hb hts ix11 hown hK hh (q := 0) rfl (hI.1 _ (by decide)) es798 rfl 2 (by decide) (hts _ tw_247) (fun _ h9 => h9) rfl dX11_times_25 ?_
      refine lv_iload_n hx hb dX11_times_28 rfl (lv_at hl 1 rfl) ?_
      refine lv_iload_n hx hb dX11_times_29 rfl (lv_at hl 2 rfl) ?_
      refine hp_callMi (va_runV (As := [.int (nI K_801), .int (nI K_802)]) (rest := []) ⟨hx, hb, hml, hown, hts⟩ (c_X0_numberOfProduct l D cy _ cs ad en (ka := ka_802) (kb := kb_802) (kc := kc_802) ⟨hI, hKK_802, hPC_802⟩ K_801 K_802 (by omega) (by omega)) (kw_X0_numberOfProduct hts tw_669 ⟨by decide, by decide⟩) (preV_of hh hK (hI.1 _ (by decide)) es800 rfl) rfl rfl hl.1 rfl (lv_room (Nat.le_of_ble_eq_true rfl)) dX11_times_30 ⟨Nat.le_of_ble_eq_true rfl, Nat.le_of_ble_eq_true rfl⟩) hh hA (fun r_803 H locs en_803 hw_803 hh => ?_)
      obtain ⟨hS_803, hu_803⟩ := hw_803
      have hI_803 := hS_803.1
      have hf_803 : ∀ c, (c < 71 ∨ 74 ≤ c) → en_803 c = en c := fun c hc => (hu_803 c (by omega)).trans (hf0 c hc)
      exact hp_iretM hx hb hr rfl hlocks hh (⟨hI_803, hf_803⟩) dX11_times_33
    · obtain rfl : r_802 = 0 := Eq.trans hw_802 (if_neg hp_802)
      refine lv_if_ne (tgt := 24) hx hb dX11_times_19 (by decide) (fun c_0 => absurd c_0 (by decide)) (fun _ => ?_)
      refine lv_iconst (v := (-1)) hx hb dX11_times_22 (by decide) ?_
      exact hp_iretM hx hb hr rfl hlocks hh (⟨hI, hf0⟩) dX11_times_23
  · obtain rfl : r_801 = 0 := Eq.trans hw_801 (if_neg hp_801)
    refine lv_if_eq (tgt := 22) hx hb dX11_times_8 (by decide) (fun _ => ?_) (fun c_0 => absurd c_0 (by decide))
    refine lv_iconst (v := (-1)) hx hb dX11_times_22 (by decide) ?_
    exact hp_iretM hx hb hr rfl hlocks hh (⟨hI, hf0⟩) dX11_times_23
theorem kw_X11_times {R : Room} {s : State} {args : Array Value} {own : String} {idx : Nat} (hts : ∀ w ∈ TB, w.before args s = true) (hl : Cond.methodLink own idx yX11_times ∈ TB) (hR : 4 + 1 ≤ R.frames ∧ 8 + (3 + 11) + 40 * 4 ≤ R.locals) : CallW R s args own RX11 idx yX11_times cX11_times 3 (some .int) (Cond.code yX11_times cX11_times 3 (some .int) :: TB) (rmN 4) 0 0 2 := cwV 2 hts (TB_V hl tw_666 tw_667 tw_1 tw_668) rfl rfl rfl (by decide +kernel) hR
