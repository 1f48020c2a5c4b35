set_option maxHeartbeats 4000000 in
set_option maxRecDepth 100000 in
/-- take -/
theorem c_X0_take (l : Launch) (D : va_G) (cy : Nat → ClassId) (sz : Nat) (cs : List Nat) (ad : Nat → Nat) (en : Nat → va_E) {ka kb kc : Nat} (hI : SC cy cs ad ka kb kc en) (q : Nat) (hq : q ∈ cs) (hq9 : q < 70 ∨ (70 < q ∧ q < 115)) (fa : Nat → Int64) (wl : Int32) (eq : en q = .inl (cy 1, 9, .inr (.inl fa)))  : Met l yX0_take (Cond.code yX0_take cX0_take 4 (some .boolean) :: TB) (rmN 2) (va_Pc [.ref (ad 70), .ref (ad q), .int wl] (Pre D cy cs ad en sz)) (va_Qi (S := Nat → va_E) (fun r en1 => SC cy cs ad ka kb kc en1 ∧ (∀ c, (c ≠ 70 ∧ c ≠ ka ∧ c ≠ kb ∧ c ≠ kc) → en1 c = en c) ∧ (r = 0 ∨ r = 1)) (PostM D cs ad) (Af cs ad sz)) 0 0 (Af cs ad sz) := by
  refine Met.ofW (cc := cX0_take) (maxL := 4) (ret := (some .boolean)) (by decide) rfl ?_
  intro p e s m args below meth c s₁ B hml hv
  obtain ⟨rfl, hsz, hP, hK, hD0⟩ := hv
  have hx := B.exec
  have hb := B.bytes
  have hr := B.returns
  have hts : ∀ w ∈ TB, w.before _ s = true := fun w h => atoms_spec (ws := _ :: TB) B.pre w (List.mem_cons_of_mem _ h)
  have hown : s.vm.findClass RX0 = some m.cls := findClass_of_methodNamed B.named
  have hlocks := B.notSynchronized
  have hh : Hp D (Af cs ad sz) (Af cs ad sz) s.heap s.heap [] cs ad en := ⟨hP, Af_self hD0, va_S.rf⟩
  have hA : ∀ q : Nat, s.heap.size ≤ q → Af cs ad sz q := fun q h => Or.inr (by rw [hsz] at h; exact h)
  have hl := lv_entry ([.ref (ad 70), .ref (ad q), .int wl]) (n := 4) (Nat.le_of_ble_eq_true rfl)
  rw [lg_entry_eq]
  generalize (lg_sl ([.ref (ad 70), .ref (ad q), .int wl]) ++ List.replicate (4 - (lg_sl ([.ref (ad 70), .ref (ad q), .int wl])).length) Slot.unset).toArray = ls at hl ⊢
  have hl : lv_has ls 4 [(0, .ref (ad 70)), (1, .ref (ad q)), (2, .int wl)] := hl
  have hka1 : 115 ≤ ka := hI.2.1.2.2.2.1
  have hka2 : ka < kb := hI.2.1.2.2.2.2.1
  have hka3 : kb < kc := hI.2.1.2.2.2.2.2
  have hf0 : ∀ c, (c ≠ 70 ∧ c ≠ ka ∧ c ≠ kb ∧ c ≠ kc) → en c = en c := fun _ _ => rfl
  obtain ⟨sta_665, cc_665, ct_665, un_665, ow_665, hn_665, es665, p0_665, p1_665, p2_665, p3_665⟩ := get2_C hI
  refine lv_aload_n hx hb dX0_take_0 rfl (lv_at hl 0 rfl) ?_
  refine lv_aload_n hx hb dX0_take_1 rfl (lv_at hl 1 rfl) ?_
  refine hp_callRi (va_runV (As := [.ref (ad q)]) (rest := []) ⟨hx, hb, hml, hown, hts⟩ (c_X0_isBeyond l D cy _ cs ad en hI  q hq (by omega) fa  eq) (kw_X0_isBeyond hts tw_598 ⟨by decide, by decide⟩) (preV_of hh hK (hI.1.1 _ (by decide)) es665 rfl) rfl rfl hl.1 rfl (lv_room (Nat.le_of_ble_eq_true rfl)) dX0_take_2 ⟨Nat.le_of_ble_eq_true rfl, Nat.le_of_ble_eq_true rfl⟩) hh hA (fun r_666 H locs hw_666 hh => ?_)
  rcases hw_666 with hb_666 | hb_666
  · obtain rfl : r_666 = 0 := hb_666
    refine lv_if_eq (tgt := 10) hx hb dX0_take_5 (by decide) (fun _ => ?_) (fun c_0 => absurd c_0 (by decide))
    refine lv_aload_n hx hb dX0_take_10 rfl (lv_at hl 0 rfl) ?_
    refine lv_aload_n hx hb dX0_take_11 rfl (lv_at hl 1 rfl) ?_
    refine hp_callRi (va_runV (As := [.ref (ad q)]) (rest := []) ⟨hx, hb, hml, hown, hts⟩ (c_X0_slotOf l D cy _ cs ad en hI  q hq (by omega) fa  eq) (kw_X0_slotOf hts tw_604 ⟨by decide, by decide⟩) (preV_of hh hK (hI.1.1 _ (by decide)) es665 rfl) rfl rfl hl.1 rfl (lv_room (Nat.le_of_ble_eq_true rfl)) dX0_take_12 ⟨Nat.le_of_ble_eq_true rfl, Nat.le_of_ble_eq_true rfl⟩) hh hA (fun r_667 H locs hw_667 hh => ?_)
    obtain ⟨S_667, hS_667, rfl⟩ := hw_667
    refine lv_istore_n (lv' := [(3, .int (nI S_667)), (0, .ref (ad 70)), (1, .ref (ad q)), (2, .int wl)]) hx hb dX0_take_15 rfl hl (by decide) rfl (fun ls hl => ?_)
    refine lv_aload_n hx hb dX0_take_16 rfl (lv_at hl 1 rfl) ?_
    refine hp_get hx hb hts ix0 hown hK hh (q := 70) rfl (hI.1.1 _ (by decide)) es665 rfl 6 (by decide) (hts _ tw_153) (fun _ h9 => h9) rfl dX0_take_17 ?_
    refine lv_iload_n hx hb dX0_take_20 rfl (lv_at hl 0 rfl) ?_
    obtain ⟨f_668, es668, p0_668⟩ := get2_ec hI
    refine hp_iald hx hb hK hh (q := kc) rfl hI.2.1.2.2.1 es668 (vp_in_nI (n := S_667) (by omega) (by decide)) dX0_take_21 ?_
    rw [nI_clamp (n := S_667) (by omega)]
    obtain ⟨v_669, hv_669, hfv_669⟩ := p0_668 S_667 (by omega)
    rw [hfv_669]
    refine lv_if_eq (tgt := 27) hx hb dX0_take_22 (by decide) (fun c_670 => ?_) (fun c_670 => ?_)
    · have n_670 : v_669 = 0 := n_eq (a := v_669) (b := 0) c_670 (by omega) (by decide)
      refine lv_aload_n hx hb dX0_take_27 rfl (lv_at hl 1 rfl) ?_
      refine hp_get hx hb hts ix0 hown hK hh (q := 70) rfl (hI.1.1 _ (by decide)) es665 rfl 9 (by decide) (hts _ tw_156) (fun _ h9 => h9) rfl dX0_take_28 ?_
      refine lv_sipush (v := 2000) hx hb dX0_take_31 (by decide) ?_
      refine lv_icmp_lt (tgt := 39) hx hb dX0_take_34 (by decide) (fun c_671 => ?_) (fun c_671 => ?_)
      · have n_671 : ct_665 < 2000 := n_lt (a := ct_665) (b := 2000) c_671 (by omega) (by decide)
        refine lv_aload_n hx hb dX0_take_39 rfl (lv_at hl 2 rfl) ?_
        refine lv_iconst (v := 0) hx hb dX0_take_40 (by decide) ?_
        refine lv_aload_n hx hb dX0_take_41 rfl (lv_at hl 1 rfl) ?_
        refine hp_get hx hb hts ix0 hown hK hh (q := 70) rfl (hI.1.1 _ (by decide)) es665 rfl 4 (by decide) (hts _ tw_151) (fun _ h9 => h9) rfl dX0_take_42 ?_
        refine lv_aload_n hx hb dX0_take_45 rfl (lv_at hl 1 rfl) ?_
        refine hp_get hx hb hts ix0 hown hK hh (q := 70) rfl (hI.1.1 _ (by decide)) es665 rfl 9 (by decide) (hts _ tw_156) (fun _ h9 => h9) rfl dX0_take_46 ?_
        refine lv_bipush (v := 9) hx hb dX0_take_49 (by decide) ?_
        refine lv_imul hx hb dX0_take_51 ?_
        rw [show (9 : Int32) = nI 9 from rfl, pk_mul ct_665 9]
        refine lv_aload_n hx hb dX0_take_52 rfl (lv_at hl 1 rfl) ?_
        refine hp_get hx hb hts ix0 hown hK hh (q := 70) rfl (hI.1.1 _ (by decide)) es665 rfl 8 (by decide) (hts _ tw_155) (fun _ h9 => h9) rfl dX0_take_53 ?_
        obtain ⟨f_672, es672⟩ := get2_ea hI
        refine W.eq (g2 := F0 m 56 ls [.int (nI cc_665), .int (nI (ct_665 * 9)), .ref (ad ka), .int (nI 0), .ref (ad q)]) rfl ?_
        refine hp_copyl hx hb (hml.trans hl.1.symm) hown (hts _ tw_617) (hts _ tw_340) (hts _ tw_339) (hts _ tw_12) hK hh hq hI.2.1.1 eq es672 0 (ct_665 * 9) cc_665 (by decide) (by omega) (by omega) (by omega) (by omega) (Nat.le_of_ble_eq_true rfl) (Nat.le_of_ble_eq_true rfl) dX0_take_56 (fun H locs en_673 hen_673 hh => ?_)
        have eq_673 : en_673 q = .inl (cy 1, 9, .inr (.inl fa)) := by rw [hen_673, va_up_ne _ _ (by omega)]; exact eq
        have es665_673 : en_673 70 = .inr (0, [.ref (ad 1), .ref (ad 71), .ref (ad 72), .ref (ad 73), .ref (ad ka), .ref (ad kb), .ref (ad kc), .int (nI sta_665), .int (nI cc_665), .int (nI ct_665), .int un_665, .int ow_665, .int (nI hn_665)]) := by rw [hen_673, va_up_ne _ _ (by omega)]; exact es665
        have es668_673 : en_673 kc = .inl (cy 0, 4096, .inl f_668) := by rw [hen_673, va_up_ne _ _ (by omega)]; exact es668
        have es672_673 : en_673 ka = .inl (cy 1, 18000, .inr (.inl (va_cpy fa f_672 0 (ct_665 * 9) cc_665))) := by rw [hen_673]; exact va_up_self _ _ _
        have hI_673 : SC cy cs ad ka kb kc en_673 := by rw [hen_673]; exact up2_ea hI ⟨(va_cpy fa f_672 0 (ct_665 * 9) cc_665), rfl⟩
        have hf_673 : ∀ c, (c ≠ 70 ∧ c ≠ ka ∧ c ≠ kb ∧ c ≠ kc) → en_673 c = en c := fun c hc => Eq.trans (show en_673 c = en c from by rw [hen_673, va_up_ne _ _ (by omega)]) (hf0 c hc)
        refine lv_aload_n hx hb dX0_take_59 rfl (lv_at hl 1 rfl) ?_
        refine hp_get hx hb hts ix0 hown hK hh (q := 70) rfl (hI.1.1 _ (by decide)) es665_673 rfl 5 (by decide) (hts _ tw_152) (fun _ h9 => h9) rfl dX0_take_60 ?_
        refine lv_aload_n hx hb dX0_take_63 rfl (lv_at hl 1 rfl) ?_
        refine hp_get hx hb hts ix0 hown hK hh (q := 70) rfl (hI.1.1 _ (by decide)) es665_673 rfl 9 (by decide) (hts _ tw_156) (fun _ h9 => h9) rfl dX0_take_64 ?_
        refine lv_iload_n hx hb dX0_take_67 rfl (lv_at hl 3 rfl) ?_
        obtain ⟨f_674, es674⟩ := get2_eb hI_673
        refine hp_iast hx hb hK hh (q := kb) rfl hI.2.1.2.1 es674 (vp_in_nI (n := ct_665) (by omega) (by decide)) dX0_take_68 (fun H locs en_675 hen_675 hh => ?_)
        rw [nI_clamp (n := ct_665) (by omega)] at hen_675
        have eq_675 : en_675 q = .inl (cy 1, 9, .inr (.inl fa)) := by rw [hen_675, va_up_ne _ _ (by omega)]; exact eq_673
        have es665_675 : en_675 70 = .inr (0, [.ref (ad 1), .ref (ad 71), .ref (ad 72), .ref (ad 73), .ref (ad ka), .ref (ad kb), .ref (ad kc), .int (nI sta_665), .int (nI cc_665), .int (nI ct_665), .int un_665, .int ow_665, .int (nI hn_665)]) := by rw [hen_675, va_up_ne _ _ (by omega)]; exact es665_673
        have es668_675 : en_675 kc = .inl (cy 0, 4096, .inl f_668) := by rw [hen_675, va_up_ne _ _ (by omega)]; exact es668_673
        have es672_675 : en_675 ka = .inl (cy 1, 18000, .inr (.inl (va_cpy fa f_672 0 (ct_665 * 9) cc_665))) := by rw [hen_675, va_up_ne _ _ (by omega)]; exact es672_673
        have es674_675 : en_675 kb = .inl (cy 0, 2000, .inl (upd f_674 ct_665 wl)) := by rw [hen_675]; exact va_up_self _ _ _
        have hI_675 : SC cy cs ad ka kb kc en_675 := by rw [hen_675]; exact up2_eb hI_673 ⟨(upd f_674 ct_665 wl), rfl⟩
        have hf_675 : ∀ c, (c ≠ 70 ∧ c ≠ ka ∧ c ≠ kb ∧ c ≠ kc) → en_675 c = en c := fun c hc => Eq.trans (show en_675 c = en_673 c from by rw [hen_675, va_up_ne _ _ (by omega)]) (hf_673 c hc)
        refine lv_aload_n hx hb dX0_take_69 rfl (lv_at hl 1 rfl) ?_
        refine lv_dup hx hb dX0_take_70 rfl ?_
        refine hp_get hx hb hts ix0 hown hK hh (q := 70) rfl (hI.1.1 _ (by decide)) es665_675 rfl 9 (by decide) (hts _ tw_156) (fun _ h9 => h9) rfl dX0_take_71 ?_
        refine lv_iconst (v := 1) hx hb dX0_take_74 (by decide) ?_
        refine lv_iadd hx hb dX0_take_75 ?_
        rw [show (1 : Int32) = nI 1 from rfl, nI_add ct_665 1]
        refine hp_put hx hb hts ix0 tyX0 tyX0_ok nmX0 hown hK hh (q := 70) rfl (hI.1.1 _ (by decide)) es665_675 rfl 9 (by decide) (hts _ tw_156) (fun _ h9 => h9) rfl (ty := .int) (by decide +kernel) rfl rfl (Nat.le_of_ble_eq_true rfl) dX0_take_76 (fun H locs en_676 hen_676 hh => ?_)
        have eq_676 : en_676 q = .inl (cy 1, 9, .inr (.inl fa)) := by rw [hen_676, va_up_ne _ _ (by omega)]; exact eq_675
        have es668_676 : en_676 kc = .inl (cy 0, 4096, .inl f_668) := by rw [hen_676, va_up_ne _ _ (by omega)]; exact es668_675
        have es672_676 : en_676 ka = .inl (cy 1, 18000, .inr (.inl (va_cpy fa f_672 0 (ct_665 * 9) cc_665))) := by rw [hen_676, va_up_ne _ _ (by omega)]; exact es672_675
        have es674_676 : en_676 kb = .inl (cy 0, 2000, .inl (upd f_674 ct_665 wl)) := by rw [hen_676, va_up_ne _ _ (by omega)]; exact es674_675
        have es665_676 : en_676 70 = .inr (0, [.ref (ad 1), .ref (ad 71), .ref (ad 72), .ref (ad 73), .ref (ad ka), .ref (ad kb), .ref (ad kc), .int (nI sta_665), .int (nI cc_665), .int (nI (ct_665 + 1)), .int un_665, .int ow_665, .int (nI hn_665)]) := by rw [hen_676]; exact va_up_self _ _ _
        have hI_676 : SC cy cs ad ka kb kc en_676 := by rw [hen_676]; exact up2_C hI_675 ⟨sta_665, cc_665, (ct_665 + 1), un_665, ow_665, hn_665, rfl, p0_665, p1_665, (by omega), p3_665⟩
        have hf_676 : ∀ c, (c ≠ 70 ∧ c ≠ ka ∧ c ≠ kb ∧ c ≠ kc) → en_676 c = en c := fun c hc => Eq.trans (show en_676 c = en_675 c from by rw [hen_676, va_up_ne _ _ (by omega)]) (hf_675 c hc)
        refine lv_aload_n hx hb dX0_take_79 rfl (lv_at hl 1 rfl) ?_
        refine hp_get hx hb hts ix0 hown hK hh (q := 70) rfl (hI.1.1 _ (by decide)) es665_676 rfl 6 (by decide) (hts _ tw_153) (fun _ h9 => h9) rfl dX0_take_80 ?_
        refine lv_iload_n hx hb dX0_take_83 rfl (lv_at hl 0 rfl) ?_
        refine lv_aload_n hx hb dX0_take_84 rfl (lv_at hl 1 rfl) ?_
        refine hp_get hx hb hts ix0 hown hK hh (q := 70) rfl (hI.1.1 _ (by decide)) es665_676 rfl 9 (by decide) (hts _ tw_156) (fun _ h9 => h9) rfl dX0_take_85 ?_
        refine hp_iast hx hb hK hh (q := kc) rfl hI.2.1.2.2.1 es668_676 (vp_in_nI (n := S_667) (by omega) (by decide)) dX0_take_88 (fun H locs en_677 hen_677 hh => ?_)
        rw [nI_clamp (n := S_667) (by omega)] at hen_677
        have eq_677 : en_677 q = .inl (cy 1, 9, .inr (.inl fa)) := by rw [hen_677, va_up_ne _ _ (by omega)]; exact eq_676
        have es672_677 : en_677 ka = .inl (cy 1, 18000, .inr (.inl (va_cpy fa f_672 0 (ct_665 * 9) cc_665))) := by rw [hen_677, va_up_ne _ _ (by omega)]; exact es672_676
        have es674_677 : en_677 kb = .inl (cy 0, 2000, .inl (upd f_674 ct_665 wl)) := by rw [hen_677, va_up_ne _ _ (by omega)]; exact es674_676
        have es665_677 : en_677 70 = .inr (0, [.ref (ad 1), .ref (ad 71), .ref (ad 72), .ref (ad 73), .ref (ad ka), .ref (ad kb), .ref (ad kc), .int (nI sta_665), .int (nI cc_665), .int (nI (ct_665 + 1)), .int un_665, .int ow_665, .int (nI hn_665)]) := by rw [hen_677, va_up_ne _ _ (by omega)]; exact es665_676
        have es668_677 : en_677 kc = .inl (cy 0, 4096, .inl (upd f_668 S_667 (nI (ct_665 + 1)))) := by rw [hen_677]; exact va_up_self _ _ _
        have hI_677 : SC cy cs ad ka kb kc en_677 := by rw [hen_677]; exact up2_ec hI_676 ⟨(upd f_668 S_667 (nI (ct_665 + 1))), rfl, (vals_updB p0_668 (by omega))⟩
        have hf_677 : ∀ c, (c ≠ 70 ∧ c ≠ ka ∧ c ≠ kb ∧ c ≠ kc) → en_677 c = en c := fun c hc => Eq.trans (show en_677 c = en_676 c from by rw [hen_677, va_up_ne _ _ (by omega)]) (hf_676 c hc)
        refine lv_iconst (v := 1) hx hb dX0_take_89 (by decide) ?_
        exact hp_iretM hx hb hr rfl hlocks hh (⟨hI_677, hf_677, Or.inr rfl⟩) dX0_take_90
      · have n_671 : 2000 ≤ ct_665 := n_nlt (a := ct_665) (b := 2000) c_671 (by omega) (by decide)
        refine lv_iconst (v := 0) hx hb dX0_take_37 (by decide) ?_
        exact hp_iretM hx hb hr rfl hlocks hh (⟨hI, hf0, Or.inl rfl⟩) dX0_take_38
    · have n_670 : v_669 ≠ 0 := n_neq (a := v_669) (b := 0) c_670 (by omega) (by decide)
      refine lv_iconst (v := 1) hx hb dX0_take_25 (by decide) ?_
      exact hp_iretM hx hb hr rfl hlocks hh (⟨hI, hf0, Or.inr rfl⟩) dX0_take_26
  · obtain rfl : r_666 = 1 := hb_666
    refine lv_if_eq (tgt := 10) hx hb dX0_take_5 (by decide) (fun c_0 => absurd c_0 (by decide)) (fun _ => ?_)
    refine lv_iconst (v := 0) hx hb dX0_take_8 (by decide) ?_
    exact hp_iretM hx hb hr rfl hlocks hh (⟨hI, hf0, Or.inl rfl⟩) dX0_take_9
theorem kw_X0_take {R : Room} {s : State} {args : Array Value} {own : String} {idx : Nat} (hts : ∀ w ∈ TB, w.before args s = true) (hl : Cond.methodLink own idx yX0_take ∈ TB) (hR : 2 + 1 ≤ R.frames ∧ 8 + (4 + 11) + 40 * 2 ≤ R.locals) : CallW R s args own RX0 idx yX0_take cX0_take 4 (some .boolean) (Cond.code yX0_take cX0_take 4 (some .boolean) :: TB) (rmN 2) 0 0 2 := cwV 2 hts (TB_V hl tw_596 ts_15 tw_5 tw_597) rfl rfl rfl (by decide +kernel) hR
set_option maxHeartbeats 4000000 in
set_option maxRecDepth 100000 in
/-- extendByLetters -/
theorem c_X0_extendByLetters (l : Launch) (D : va_G) (cy : Nat → ClassId) (sz : Nat) (cs : List Nat) (ad : Nat → Nat) (en : Nat → va_E) {ka kb kc : Nat} (hI : SC cy cs ad ka kb kc en) (k : Nat) (hk : k < 2000)   : Met l yX0_extendByLetters (Cond.code yX0_extendByLetters cX0_extendByLetters 3 (some .boolean) :: TB) (rmN 3) (va_Pc [.ref (ad 70), .int (nI k)] (Pre D cy cs ad en sz)) (va_Qi (S := Nat → va_E) (fun r en1 => SC cy cs ad ka kb kc en1 ∧ (∀ c, ((c < 70 ∨ 74 ≤ c) ∧ c ≠ ka ∧ c ≠ kb ∧ c ≠ kc) → en1 c = en c) ∧ (r = 0 ∨ r = 1)) (PostM D cs ad) (Af cs ad sz)) 0 0 (Af cs ad sz) := by
  refine Met.ofW (cc := cX0_extendByLetters) (maxL := 3) (ret := (some .boolean)) (by decide) rfl ?_
  intro p e s m args below meth c s₁ B hml hv
  obtain ⟨rfl, hsz, hP, hK, hD0⟩ := hv
  have hx := B.exec
  have hb := B.bytes
  have hr := B.returns
  have hts : ∀ w ∈ TB, w.before _ s = true := fun w h => atoms_spec (ws := _ :: TB) B.pre w (List.mem_cons_of_mem _ h)
  have hown : s.vm.findClass RX0 = some m.cls := findClass_of_methodNamed B.named
  have hlocks := B.notSynchronized
  have hh : Hp D (Af cs ad sz) (Af cs ad sz) s.heap s.heap [] cs ad en := ⟨hP, Af_self hD0, va_S.rf⟩
  have hA : ∀ q : Nat, s.heap.size ≤ q → Af cs ad sz q := fun q h => Or.inr (by rw [hsz] at h; exact h)
  have hl := lv_entry ([.ref (ad 70), .int (nI k)]) (n := 3) (Nat.le_of_ble_eq_true rfl)
  rw [lg_entry_eq]
  generalize (lg_sl ([.ref (ad 70), .int (nI k)]) ++ List.replicate (3 - (lg_sl ([.ref (ad 70), .int (nI k)])).length) Slot.unset).toArray = ls at hl ⊢
  have hl : lv_has ls 3 [(0, .ref (ad 70)), (1, .int (nI k))] := hl
  have hka1 : 115 ≤ ka := hI.2.1.2.2.2.1
  have hka2 : ka < kb := hI.2.1.2.2.2.2.1
  have hka3 : kb < kc := hI.2.1.2.2.2.2.2
  have hf0 : ∀ c, ((c < 70 ∨ 74 ≤ c) ∧ c ≠ ka ∧ c ≠ kb ∧ c ≠ kc) → en c = en c := fun _ _ => rfl
  obtain ⟨cnt, d, mm, es678, hcnt, hd2, hd3, hmm⟩ := get2_T hI
  obtain ⟨sta_679, cc_679, ct_679, un_679, ow_679, hn_679, es679, p0_679, p1_679, p2_679, p3_679⟩ := get2_C hI
  refine lv_aload_n hx hb dX0_extendByLetters_0 rfl (lv_at hl 0 rfl) ?_
  refine lv_iload_n hx hb dX0_extendByLetters_1 rfl (lv_at hl 1 rfl) ?_
  refine lv_aload_n hx hb dX0_extendByLetters_2 rfl (lv_at hl 0 rfl) ?_
  refine hp_get hx hb hts ix0 hown hK hh (q := 70) rfl (hI.1.1 _ (by decide)) es679 rfl 1 (by decide) (hts _ tw_148) (fun _ h9 => h9) rfl dX0_extendByLetters_3 ?_
  obtain ⟨f_680, es680⟩ := get2_cl hI
  obtain ⟨f_682, es682⟩ := get2_ea hI
  refine hp_callMv (va_runV (As := [.int (nI k), .ref (ad 71)]) (rest := []) ⟨hx, hb, hml, hown, hts⟩ (c_X0_load l D cy _ cs ad en ka kb kc k (by omega) (hI.1.1 _ (by decide)) hI.2.1.1 71 (hI.1.1 _ (by decide)) (by omega) (by omega) sta_679 cc_679 ct_679 un_679 ow_679 hn_679 f_682 f_680 es679 es682 es680   ) (kw_X0_load hts tw_622 ⟨by decide, by decide⟩) (preV_of hh hK (hI.1.1 _ (by decide)) es679 rfl) rfl rfl hl.1 rfl (lv_room (Nat.le_of_ble_eq_true rfl)) dX0_extendByLetters_6 ⟨Nat.le_of_ble_eq_true rfl, Nat.le_of_ble_eq_true rfl⟩) hh hA (fun H locs en_681 hw_681 hh => ?_)
  have hen_681 := hw_681
  have es678_681 : en_681 1 = .inr (7, [.ref (ad 2), .ref (ad 3), .ref (ad 10), .ref (ad 11), .int (nI cnt), .int (nI d), .int (nI mm)]) := by rw [hen_681, va_up_ne _ _ (by decide)]; exact es678
  have es679_681 : en_681 70 = .inr (0, [.ref (ad 1), .ref (ad 71), .ref (ad 72), .ref (ad 73), .ref (ad ka), .ref (ad kb), .ref (ad kc), .int (nI sta_679), .int (nI cc_679), .int (nI ct_679), .int un_679, .int ow_679, .int (nI hn_679)]) := by rw [hen_681, va_up_ne _ _ (by decide)]; exact es679
  have es682_681 : en_681 ka = .inl (cy 1, 18000, .inr (.inl f_682)) := by rw [hen_681, va_up_ne _ _ (by omega)]; exact es682
  have es680_681 : en_681 71 = .inl (cy 1, 9, .inr (.inl (va_cpy f_682 f_680 (k * 9) 0 9))) := by rw [hen_681]; exact va_up_self _ _ _
  have hI_681 : SC cy cs ad ka kb kc en_681 := by rw [hen_681]; exact up2_cl hI ⟨(va_cpy f_682 f_680 (k * 9) 0 9), rfl⟩
  have hf_681 : ∀ c, ((c < 70 ∨ 74 ≤ c) ∧ c ≠ ka ∧ c ≠ kb ∧ c ≠ kc) → en_681 c = en c := fun c hc => Eq.trans (show en_681 c = en c from by rw [hen_681, va_up_ne _ _ (by omega)]) (hf0 c hc)
  refine lv_iconst (v := 0) hx hb dX0_extendByLetters_9 (by decide) ?_
  refine lv_istore_n (lv' := [(2, .int 0), (0, .ref (ad 70)), (1, .int (nI k))]) hx hb dX0_extendByLetters_10 rfl hl (by decide) rfl (fun ls hl => ?_)
  have loop_683 : ∀ (fu j683 : Nat)  (en_683 : Nat → va_E) (ls : Array Slot) (H : Heap) (locs : List Loc), 0 ≤ j683 → j683 ≤ cnt → cnt < j683 + fu → SC cy cs ad ka kb kc en_683 → (∀ c, ((c < 70 ∨ 74 ≤ c) ∧ c ≠ ka ∧ c ≠ kb ∧ c ≠ kc) → en_683 c = en c) →  lv_has ls 3 [(2, .int (nI j683)), (0, .ref (ad 70)), (1, .int (nI k))] → Hp D (Af cs ad sz) (Af cs ad sz) s.heap H locs cs ad en_683 → W p l e (headSpec (Cond.code yX0_extendByLetters cX0_extendByLetters 3 (some .boolean) :: TB) (rmN 3)).room s m ([.ref (ad 70), .int (nI k)] : List Value).toArray below meth c H locs 0 0 (MQ below (va_Qi (S := Nat → va_E) (fun r en1 => SC cy cs ad ka kb kc en1 ∧ (∀ c, ((c < 70 ∨ 74 ≤ c) ∧ c ≠ ka ∧ c ≠ kb ∧ c ≠ kc) → en1 c = en c) ∧ (r = 0 ∨ r = 1)) (PostM D cs ad) (Af cs ad sz)) ([.ref (ad 70), .int (nI k)] : List Value).toArray s 0 0 (Af cs ad sz)) (F0 m 11 ls []) := by
    intro fu
    induction fu with
    | zero => intro j683  en_683 ls H locs h0 h1 h2; exact absurd h2 (by omega)
    | succ fu ih_683 =>
      intro j683  en_683 ls H locs hj0_683 hj_683 hfu_683 hI_683 hf_683  hl hh
      refine lv_iload_n hx hb dX0_extendByLetters_11 rfl (lv_at hl 0 rfl) ?_
      refine lv_aload_n hx hb dX0_extendByLetters_12 rfl (lv_at hl 1 rfl) ?_
      obtain ⟨sta_684, cc_684, ct_684, un_684, ow_684, hn_684, es684, p0_684, p1_684, p2_684, p3_684⟩ := get2_C hI_683
      refine hp_get hx hb hts ix0 hown hK hh (q := 70) rfl (hI.1.1 _ (by decide)) es684 rfl 0 (by decide) (hts _ tw_147) (fun _ h9 => h9) rfl dX0_extendByLetters_13 ?_
      have es678_685 : en_683 1 = .inr (7, [.ref (ad 2), .ref (ad 3), .ref (ad 10), .ref (ad 11), .int (nI cnt), .int (nI d), .int (nI mm)]) := (hf_683 1 (by omega)).trans es678
      refine hp_callRi (va_runV (As := []) (rest := [.int (nI j683)]) ⟨hx, hb, hml, hown, hts⟩ (c_X8_count l D cy _ cs ad en_683 (hI.1.1 _ (by decide)) cnt d mm hcnt hd2 hd3 hmm  es678_685) (kw_X8_count hts tw_592 ⟨by decide, by decide⟩) (preV_of hh hK (hI.1.1 _ (by decide)) es678_685 rfl) rfl rfl hl.1 rfl (lv_room (Nat.le_of_ble_eq_true rfl)) dX0_extendByLetters_16 ⟨Nat.le_of_ble_eq_true rfl, Nat.le_of_ble_eq_true rfl⟩) hh hA (fun r_686 H locs hw_686 hh => ?_)
      obtain rfl : r_686 = (nI cnt) := hw_686
      refine lv_icmp_ge (tgt := 72) hx hb dX0_extendByLetters_19 (by decide) (fun c_687 => ?_) (fun c_687 => ?_)
      · have n_687 : cnt ≤ j683 := n_le (a := cnt) (b := j683) c_687 (by omega) (by omega)
        refine lv_iconst (v := 1) hx hb dX0_extendByLetters_72 (by decide) ?_
        exact hp_iretM hx hb hr rfl hlocks hh (⟨hI_683, hf_683, Or.inr rfl⟩) dX0_extendByLetters_73
      · have n_687 : j683 < cnt := n_nle (a := cnt) (b := j683) c_687 (by omega) (by omega)
        refine lv_aload_n hx hb dX0_extendByLetters_22 rfl (lv_at hl 1 rfl) ?_
        refine hp_get hx hb hts ix0 hown hK hh (q := 70) rfl (hI.1.1 _ (by decide)) es684 rfl 0 (by decide) (hts _ tw_147) (fun _ h9 => h9) rfl dX0_extendByLetters_23 ?_
        refine lv_aload_n hx hb dX0_extendByLetters_26 rfl (lv_at hl 1 rfl) ?_
        refine hp_get hx hb hts ix0 hown hK hh (q := 70) rfl (hI.1.1 _ (by decide)) es684 rfl 1 (by decide) (hts _ tw_148) (fun _ h9 => h9) rfl dX0_extendByLetters_27 ?_
        refine lv_aload_n hx hb dX0_extendByLetters_30 rfl (lv_at hl 1 rfl) ?_
        refine hp_get hx hb hts ix0 hown hK hh (q := 70) rfl (hI.1.1 _ (by decide)) es684 rfl 0 (by decide) (hts _ tw_147) (fun _ h9 => h9) rfl dX0_extendByLetters_31 ?_
        refine lv_iload_n hx hb dX0_extendByLetters_34 rfl (lv_at hl 0 rfl) ?_
        have es688 := get2_rows hI_683
        unfold P_rows at es688
        refine hp_callRq (va_runV (As := [.int (nI j683)]) (rest := [.ref (ad 71), .ref (ad 1)]) ⟨hx, hb, hml, hown, hts⟩ (c_X8_rowOf l D cy _ cs ad en_683 (hI.1.1 _ (by decide)) (hI.1.1 _ (by decide)) cnt d mm hcnt hd2 hd3 hmm j683 (by omega) es678_685 es688) (kw_X8_rowOf hts tw_593 ⟨by decide, by decide⟩) (preV_of hh hK (hI.1.1 _ (by decide)) es678_685 rfl) rfl rfl hl.1 rfl (lv_room (Nat.le_of_ble_eq_true rfl)) dX0_extendByLetters_35 ⟨Nat.le_of_ble_eq_true rfl, Nat.le_of_ble_eq_true rfl⟩) hh hA (fun r_689 H locs hw_689 hh => ?_)
        obtain rfl : r_689 = some (ad (4 + j683)) := hw_689
        refine W.eq (g2 := F0 m 38 ls [.ref (ad (4 + j683)), .ref (ad 71), .ref (ad 1)]) rfl ?_
        refine lv_aload_n hx hb dX0_extendByLetters_38 rfl (lv_at hl 1 rfl) ?_
        refine hp_get hx hb hts ix0 hown hK hh (q := 70) rfl (hI.1.1 _ (by decide)) es684 rfl 3 (by decide) (hts _ tw_150) (fun _ h9 => h9) rfl dX0_extendByLetters_39 ?_
        obtain ⟨f_690, es690⟩ := get2_cd hI_683
        obtain ⟨f_691, es691⟩ := get2_row hI_683 (j := j683) (by omega)
        obtain ⟨f_692, es692⟩ := get2_cl hI_683
        refine hp_callMv (va_runV (As := [.ref (ad 71), .ref (ad (4 + j683)), .ref (ad 73)]) (rest := []) ⟨hx, hb, hml, hown, hts⟩ (c_X8_multiply l D cy _ cs ad en_683 (hI.1.1 _ (by decide)) cnt d mm hcnt hd2 hd3 hmm 71 (4 + j683) 73 (hI.1.1 _ (by decide)) (hI.1.1 _ (by omega)) (hI.1.1 _ (by decide)) (by omega) (by omega) (by omega) f_692 f_691 f_690 es678_685 es692 es691 es690) (kw_X8_multiply hts tw_626 ⟨by decide, by decide⟩) (preV_of hh hK (hI.1.1 _ (by decide)) es678_685 rfl) rfl rfl hl.1 rfl (lv_room (Nat.le_of_ble_eq_true rfl)) dX0_extendByLetters_42 ⟨Nat.le_of_ble_eq_true rfl, Nat.le_of_ble_eq_true rfl⟩) hh hA (fun H locs en_693 hw_693 hh => ?_)
        obtain ⟨g_693, hen_693, hg_693⟩ := hw_693
        have es684_693 : en_693 70 = .inr (0, [.ref (ad 1), .ref (ad 71), .ref (ad 72), .ref (ad 73), .ref (ad ka), .ref (ad kb), .ref (ad kc), .int (nI sta_684), .int (nI cc_684), .int (nI ct_684), .int un_684, .int ow_684, .int (nI hn_684)]) := by rw [hen_693, va_up_ne _ _ (by decide)]; exact es684
        have es678_693 : en_693 1 = .inr (7, [.ref (ad 2), .ref (ad 3), .ref (ad 10), .ref (ad 11), .int (nI cnt), .int (nI d), .int (nI mm)]) := by rw [hen_693, va_up_ne _ _ (by decide)]; exact es678_685
        have es688_693 : en_693 3 = .inl (cy 8, 6, .inr (.inr (.inr (.inr (rfA ad 6 4))))) := by rw [hen_693, va_up_ne _ _ (by decide)]; exact es688
        have es691_693 : en_693 (4 + j683) = .inl (cy 1, 9, .inr (.inl f_691)) := by rw [hen_693, va_up_ne _ _ (by omega)]; exact es691
        have es692_693 : en_693 71 = .inl (cy 1, 9, .inr (.inl f_692)) := by rw [hen_693, va_up_ne _ _ (by decide)]; exact es692
        have es690_693 : en_693 73 = .inl (cy 1, 9, .inr (.inl g_693)) := by rw [hen_693]; exact va_up_self _ _ _
        have hI_693 : SC cy cs ad ka kb kc en_693 := by rw [hen_693]; exact up2_cd hI_683 ⟨g_693, rfl⟩
        have hf_693 : ∀ c, ((c < 70 ∨ 74 ≤ c) ∧ c ≠ ka ∧ c ≠ kb ∧ c ≠ kc) → en_693 c = en c := fun c hc => Eq.trans (show en_693 c = en_683 c from by rw [hen_693, va_up_ne _ _ (by omega)]) (hf_683 c hc)
        refine lv_aload_n hx hb dX0_extendByLetters_45 rfl (lv_at hl 1 rfl) ?_
        refine lv_aload_n hx hb dX0_extendByLetters_46 rfl (lv_at hl 1 rfl) ?_
        refine hp_get hx hb hts ix0 hown hK hh (q := 70) rfl (hI.1.1 _ (by decide)) es684_693 rfl 3 (by decide) (hts _ tw_150) (fun _ h9 => h9) rfl dX0_extendByLetters_47 ?_
        refine lv_aload_n hx hb dX0_extendByLetters_50 rfl (lv_at hl 1 rfl) ?_
        refine hp_get hx hb hts ix0 hown hK hh (q := 70) rfl (hI.1.1 _ (by decide)) es684_693 rfl 5 (by decide) (hts _ tw_152) (fun _ h9 => h9) rfl dX0_extendByLetters_51 ?_
        refine lv_iload_n hx hb dX0_extendByLetters_54 rfl (lv_at hl 2 rfl) ?_
        obtain ⟨f_694, es694⟩ := get2_eb hI_693
        refine hp_iald hx hb hK hh (q := kb) rfl hI.2.1.2.1 es694 (vp_in_nI (n := k) (by omega) (by decide)) dX0_extendByLetters_55 ?_
        rw [nI_clamp (n := k) (by omega)]
        refine lv_iconst (v := 1) hx hb dX0_extendByLetters_56 (by decide) ?_
        refine lv_iadd hx hb dX0_extendByLetters_57 ?_
        refine hp_callMi (va_runV (As := [.ref (ad 73), .int ((f_694 k) + 1)]) (rest := []) ⟨hx, hb, hml, hown, hts⟩ (c_X0_take l D cy _ cs ad en_693 hI_693 73 (hI.1.1 _ (by decide)) (by omega) g_693 ((f_694 k) + 1) es690_693) (kw_X0_take hts tw_594 ⟨by decide, by decide⟩) (preV_of hh hK (hI.1.1 _ (by decide)) es684_693 rfl) rfl rfl hl.1 rfl (lv_room (Nat.le_of_ble_eq_true rfl)) dX0_extendByLetters_58 ⟨Nat.le_of_ble_eq_true rfl, Nat.le_of_ble_eq_true rfl⟩) hh hA (fun r_695 H locs en_695 hw_695 hh => ?_)
        obtain ⟨hI_695, hu_695, hx_695⟩ := hw_695
        have hf_695 : ∀ c, ((c < 70 ∨ 74 ≤ c) ∧ c ≠ ka ∧ c ≠ kb ∧ c ≠ kc) → en_695 c = en c := fun c hc => (hu_695 c (by omega)).trans (hf_693 c hc)
        have hw_695 := hx_695
        rcases hw_695 with hb_695 | hb_695
        · obtain rfl : r_695 = 0 := hb_695
          refine lv_if_ne (tgt := 66) hx hb dX0_extendByLetters_61 (by decide) (fun c_0 => absurd c_0 (by decide)) (fun _ => ?_)
          refine lv_iconst (v := 0) hx hb dX0_extendByLetters_64 (by decide) ?_
          exact hp_iretM hx hb hr rfl hlocks hh (⟨hI_695, hf_695, Or.inl rfl⟩) dX0_extendByLetters_65
        · obtain rfl : r_695 = 1 := hb_695
          refine lv_if_ne (tgt := 66) hx hb dX0_extendByLetters_61 (by decide) (fun _ => ?_) (fun c_0 => absurd c_0 (by decide))
          refine lv_iinc (v := (nI (j683 + 1))) (lv' := [(2, .int (nI (j683 + 1))), (0, .ref (ad 70)), (1, .int (nI k))]) hx hb dX0_extendByLetters_66 hl (k := 0) rfl (nI_1 _) (by decide) rfl (fun ls hl => ?_)
          refine lv_goto (tgt := 11) hx hb dX0_extendByLetters_69 (by decide) ?_
          exact ih_683 ((j683 + 1))  en_695 ls H locs (by omega) (by omega) (by omega) hI_695 hf_695  (lv_sub hl [0, 1, 2] rfl) hh
  exact loop_683 (cnt + 1) 0  en_681 ls _ _ (Nat.le_refl _) (by omega) (by omega) hI_681 hf_681  (lv_sub hl [0, 1, 2] rfl) hh
theorem kw_X0_extendByLetters {R : Room} {s : State} {args : Array Value} {own : String} {idx : Nat} (hts : ∀ w ∈ TB, w.before args s = true) (hl : Cond.methodLink own idx yX0_extendByLetters ∈ TB) (hR : 3 + 1 ≤ R.frames ∧ 8 + (3 + 11) + 40 * 3 ≤ R.locals) : CallW R s args own RX0 idx yX0_extendByLetters cX0_extendByLetters 3 (some .boolean) (Cond.code yX0_extendByLetters cX0_extendByLetters 3 (some .boolean) :: TB) (rmN 3) 0 0 1 := cwV 1 hts (TB_V hl tw_620 ts_20 tw_5 tw_621) rfl rfl rfl (by decide +kernel) hR
set_option maxHeartbeats 4000000 in
set_option maxRecDepth 100000 in
/-- sumUp -/
theorem c_X0_sumUp (l : Launch) (D : va_G) (cy : Nat → ClassId) (sz : Nat) (cs : List Nat) (ad : Nat → Nat) (en : Nat → va_E) {ka kb kc : Nat} (hI : SC cy cs ad ka kb kc en)    : Met l yX0_sumUp (Cond.code yX0_sumUp cX0_sumUp 2 none :: TB) (rmN 3) (va_Pc [.ref (ad 70)] (Pre D cy cs ad en sz)) (va_Qv (S := Nat → va_E) (fun en1 => SC cy cs ad ka kb kc en1 ∧ (∀ c, ((c < 70 ∨ 74 ≤ c) ∧ c ≠ ka ∧ c ≠ kb ∧ c ≠ kc) → en1 c = en c)) (PostM D cs ad) (Af cs ad sz)) 0 0 (Af cs ad sz) := by
  refine Met.ofW (cc := cX0_sumUp) (maxL := 2) (ret := none) (by decide) rfl ?_
  intro p e s m args below meth c s₁ B hml hv
  obtain ⟨rfl, hsz, hP, hK, hD0⟩ := hv
  have hx := B.exec
  have hb := B.bytes
  have hr := B.returns
  have hts : ∀ w ∈ TB, w.before _ s = true := fun w h => atoms_spec (ws := _ :: TB) B.pre w (List.mem_cons_of_mem _ h)
  have hown : s.vm.findClass RX0 = some m.cls := findClass_of_methodNamed B.named
  have hlocks := B.notSynchronized
  have hh : Hp D (Af cs ad sz) (Af cs ad sz) s.heap s.heap [] cs ad en := ⟨hP, Af_self hD0, va_S.rf⟩
  have hA : ∀ q : Nat, s.heap.size ≤ q → Af cs ad sz q := fun q h => Or.inr (by rw [hsz] at h; exact h)
  have hl := lv_entry ([.ref (ad 70)]) (n := 2) (Nat.le_of_ble_eq_true rfl)
  rw [lg_entry_eq]
  generalize (lg_sl ([.ref (ad 70)]) ++ List.replicate (2 - (lg_sl ([.ref (ad 70)])).length) Slot.unset).toArray = ls at hl ⊢
  have hl : lv_has ls 2 [(0, .ref (ad 70))] := hl
  have hka1 : 115 ≤ ka := hI.2.1.2.2.2.1
  have hka2 : ka < kb := hI.2.1.2.2.2.2.1
  have hka3 : kb < kc := hI.2.1.2.2.2.2.2
  have hf0 : ∀ c, ((c < 70 ∨ 74 ≤ c) ∧ c ≠ ka ∧ c ≠ kb ∧ c ≠ kc) → en c = en c := fun _ _ => rfl
  obtain ⟨cnt, d, mm, es696, hcnt, hd2, hd3, hmm⟩ := get2_T hI
  obtain ⟨sta_697, cc_697, ct_697, un_697, ow_697, hn_697, es697, p0_697, p1_697, p2_697, p3_697⟩ := get2_C hI
  refine lv_aload_n hx hb dX0_sumUp_0 rfl (lv_at hl 0 rfl) ?_
  refine lv_iconst (v := 0) hx hb dX0_sumUp_1 (by decide) ?_
  refine hp_put hx hb hts ix0 tyX0 tyX0_ok nmX0 hown hK hh (q := 70) rfl (hI.1.1 _ (by decide)) es697 rfl 12 (by decide) (hts _ tw_163) (fun _ h9 => h9) rfl (ty := .boolean) (by decide +kernel) rfl rfl (Nat.le_of_ble_eq_true rfl) dX0_sumUp_2 (fun H locs en_698 hen_698 hh => ?_)
  have es696_698 : en_698 1 = .inr (7, [.ref (ad 2), .ref (ad 3), .ref (ad 10), .ref (ad 11), .int (nI cnt), .int (nI d), .int (nI mm)]) := by rw [hen_698, va_up_ne _ _ (by decide)]; exact es696
  have es697_698 : en_698 70 = .inr (0, [.ref (ad 1), .ref (ad 71), .ref (ad 72), .ref (ad 73), .ref (ad ka), .ref (ad kb), .ref (ad kc), .int (nI sta_697), .int (nI cc_697), .int (nI ct_697), .int un_697, .int ow_697, .int 0]) := by rw [hen_698]; exact va_up_self _ _ _
  have hI_698 : SC cy cs ad ka kb kc en_698 := by rw [hen_698]; exact up2_C hI ⟨sta_697, cc_697, ct_697, un_697, ow_697, 0, rfl, p0_697, p1_697, p2_697, (by omega)⟩
  have hf_698 : ∀ c, ((c < 70 ∨ 74 ≤ c) ∧ c ≠ ka ∧ c ≠ kb ∧ c ≠ kc) → en_698 c = en c := fun c hc => Eq.trans (show en_698 c = en c from by rw [hen_698, va_up_ne _ _ (by omega)]) (hf0 c hc)
  refine lv_aload_n hx hb dX0_sumUp_5 rfl (lv_at hl 0 rfl) ?_
  refine lv_bipush (v := (-9)) hx hb dX0_sumUp_6 (by decide) ?_
  refine hp_put hx hb hts ix0 tyX0 tyX0_ok nmX0 hown hK hh (q := 70) rfl (hI.1.1 _ (by decide)) es697_698 rfl 10 (by decide) (hts _ tw_159) (fun _ h9 => h9) rfl (ty := .int) (by decide +kernel) rfl rfl (Nat.le_of_ble_eq_true rfl) dX0_sumUp_8 (fun H locs en_699 hen_699 hh => ?_)
  have es696_699 : en_699 1 = .inr (7, [.ref (ad 2), .ref (ad 3), .ref (ad 10), .ref (ad 11), .int (nI cnt), .int (nI d), .int (nI mm)]) := by rw [hen_699, va_up_ne _ _ (by decide)]; exact es696_698
  have es697_699 : en_699 70 = .inr (0, [.ref (ad 1), .ref (ad 71), .ref (ad 72), .ref (ad 73), .ref (ad ka), .ref (ad kb), .ref (ad kc), .int (nI sta_697), .int (nI cc_697), .int (nI ct_697), .int (-9), .int ow_697, .int 0]) := by rw [hen_699]; exact va_up_self _ _ _
  have hI_699 : SC cy cs ad ka kb kc en_699 := by rw [hen_699]; exact up2_C hI_698 ⟨sta_697, cc_697, ct_697, (-9), ow_697, 0, rfl, p0_697, p1_697, p2_697, (by omega)⟩
  have hf_699 : ∀ c, ((c < 70 ∨ 74 ≤ c) ∧ c ≠ ka ∧ c ≠ kb ∧ c ≠ kc) → en_699 c = en c := fun c hc => Eq.trans (show en_699 c = en_698 c from by rw [hen_699, va_up_ne _ _ (by omega)]) (hf_698 c hc)
  refine lv_aload_n hx hb dX0_sumUp_11 rfl (lv_at hl 0 rfl) ?_
  refine lv_iconst (v := 0) hx hb dX0_sumUp_12 (by decide) ?_
  refine hp_put hx hb hts ix0 tyX0 tyX0_ok nmX0 hown hK hh (q := 70) rfl (hI.1.1 _ (by decide)) es697_699 rfl 11 (by decide) (hts _ tw_161) (fun _ h9 => h9) rfl (ty := .int) (by decide +kernel) rfl rfl (Nat.le_of_ble_eq_true rfl) dX0_sumUp_13 (fun H locs en_700 hen_700 hh => ?_)
  have es696_700 : en_700 1 = .inr (7, [.ref (ad 2), .ref (ad 3), .ref (ad 10), .ref (ad 11), .int (nI cnt), .int (nI d), .int (nI mm)]) := by rw [hen_700, va_up_ne _ _ (by decide)]; exact es696_699
  have es697_700 : en_700 70 = .inr (0, [.ref (ad 1), .ref (ad 71), .ref (ad 72), .ref (ad 73), .ref (ad ka), .ref (ad kb), .ref (ad kc), .int (nI sta_697), .int (nI cc_697), .int (nI ct_697), .int (-9), .int 0, .int 0]) := by rw [hen_700]; exact va_up_self _ _ _
  have hI_700 : SC cy cs ad ka kb kc en_700 := by rw [hen_700]; exact up2_C hI_699 ⟨sta_697, cc_697, ct_697, (-9), 0, 0, rfl, p0_697, p1_697, p2_697, (by omega)⟩
  have hf_700 : ∀ c, ((c < 70 ∨ 74 ≤ c) ∧ c ≠ ka ∧ c ≠ kb ∧ c ≠ kc) → en_700 c = en c := fun c hc => Eq.trans (show en_700 c = en_699 c from by rw [hen_700, va_up_ne _ _ (by omega)]) (hf_699 c hc)
  refine lv_iconst (v := 0) hx hb dX0_sumUp_16 (by decide) ?_
  refine lv_istore_n (lv' := [(1, .int 0), (0, .ref (ad 70))]) hx hb dX0_sumUp_17 rfl hl (by decide) rfl (fun ls hl => ?_)
  have loop_701 : ∀ (fu j701 : Nat)  (en_701 : Nat → va_E) (ls : Array Slot) (H : Heap) (locs : List Loc), 0 ≤ j701 → j701 ≤ 2000 → 2000 < j701 + fu → SC cy cs ad ka kb kc en_701 → (∀ c, ((c < 70 ∨ 74 ≤ c) ∧ c ≠ ka ∧ c ≠ kb ∧ c ≠ kc) → en_701 c = en c) →  lv_has ls 2 [(1, .int (nI j701)), (0, .ref (ad 70))] → Hp D (Af cs ad sz) (Af cs ad sz) s.heap H locs cs ad en_701 → W p l e (headSpec (Cond.code yX0_sumUp cX0_sumUp 2 none :: TB) (rmN 3)).room s m ([.ref (ad 70)] : List Value).toArray below meth c H locs 0 0 (MQ below (va_Qv (S := Nat → va_E) (fun en1 => SC cy cs ad ka kb kc en1 ∧ (∀ c, ((c < 70 ∨ 74 ≤ c) ∧ c ≠ ka ∧ c ≠ kb ∧ c ≠ kc) → en1 c = en c)) (PostM D cs ad) (Af cs ad sz)) ([.ref (ad 70)] : List Value).toArray s 0 0 (Af cs ad sz)) (F0 m 18 ls []) := by
    intro fu
    induction fu with
    | zero => intro j701  en_701 ls H locs h0 h1 h2; exact absurd h2 (by omega)
    | succ fu ih_701 =>
      intro j701  en_701 ls H locs hj0_701 hj_701 hfu_701 hI_701 hf_701  hl hh
      refine lv_iload_n hx hb dX0_sumUp_18 rfl (lv_at hl 0 rfl) ?_
      refine lv_aload_n hx hb dX0_sumUp_19 rfl (lv_at hl 1 rfl) ?_
      obtain ⟨sta_702, cc_702, ct_702, un_702, ow_702, hn_702, es702, p0_702, p1_702, p2_702, p3_702⟩ := get2_C hI_701
      refine hp_get hx hb hts ix0 hown hK hh (q := 70) rfl (hI.1.1 _ (by decide)) es702 rfl 9 (by decide) (hts _ tw_156) (fun _ h9 => h9) rfl dX0_sumUp_20 ?_
      refine lv_icmp_ge (tgt := 100) hx hb dX0_sumUp_23 (by decide) (fun c_703 => ?_) (fun c_703 => ?_)
      · have n_703 : ct_702 ≤ j701 := n_le (a := ct_702) (b := j701) c_703 (by omega) (by omega)
        exact hp_vretM hx hb hr hlocks hh (⟨hI_701, hf_701⟩) dX0_sumUp_100
      · have n_703 : j701 < ct_702 := n_nle (a := ct_702) (b := j701) c_703 (by omega) (by omega)
        refine lv_aload_n hx hb dX0_sumUp_26 rfl (lv_at hl 1 rfl) ?_
        refine lv_iload_n hx hb dX0_sumUp_27 rfl (lv_at hl 0 rfl) ?_
        refine lv_iload_n hx hb dX0_sumUp_28 rfl (lv_at hl 0 rfl) ?_
        refine hp_callMv (va_runV (As := [.int (nI j701), .int (nI j701)]) (rest := []) ⟨hx, hb, hml, hown, hts⟩ (c_X0_multiplyNumbered l D cy _ cs ad en_701 hI_701 j701 j701 (by omega) (by omega)) (kw_X0_multiplyNumbered hts tw_631 ⟨by decide, by decide⟩) (preV_of hh hK (hI.1.1 _ (by decide)) es702 rfl) rfl rfl hl.1 rfl (lv_room (Nat.le_of_ble_eq_true rfl)) dX0_sumUp_29 ⟨Nat.le_of_ble_eq_true rfl, Nat.le_of_ble_eq_true rfl⟩) hh hA (fun H locs en_704 hw_704 hh => ?_)
        obtain ⟨hI_704, hu_704⟩ := hw_704
        have hf_704 : ∀ c, ((c < 70 ∨ 74 ≤ c) ∧ c ≠ ka ∧ c ≠ kb ∧ c ≠ kc) → en_704 c = en c := fun c hc => (hu_704 c (by omega)).trans (hf_701 c hc)
        refine lv_aload_n hx hb dX0_sumUp_32 rfl (lv_at hl 1 rfl) ?_
        refine lv_iload_n hx hb dX0_sumUp_33 rfl (lv_at hl 0 rfl) ?_
        refine lv_aload_n hx hb dX0_sumUp_34 rfl (lv_at hl 1 rfl) ?_
        obtain ⟨sta_705, cc_705, ct_705, un_705, ow_705, hn_705, es705, p0_705, p1_705, p2_705, p3_705⟩ := get2_C hI_704
        refine hp_get hx hb hts ix0 hown hK hh (q := 70) rfl (hI.1.1 _ (by decide)) es705 rfl 3 (by decide) (hts _ tw_150) (fun _ h9 => h9) rfl dX0_sumUp_35 ?_
        obtain ⟨f_706, es706⟩ := get2_cd hI_704
        refine hp_callRi (va_runV (As := [.int (nI j701), .ref (ad 73)]) (rest := []) ⟨hx, hb, hml, hown, hts⟩ (c_X0_isSame l D cy _ cs ad en_704 hI_704 j701 (by omega) 73 (hI.1.1 _ (by decide)) (by omega) f_706  es706) (kw_X0_isSame hts tw_613 ⟨by decide, by decide⟩) (preV_of hh hK (hI.1.1 _ (by decide)) es705 rfl) rfl rfl hl.1 rfl (lv_room (Nat.le_of_ble_eq_true rfl)) dX0_sumUp_38 ⟨Nat.le_of_ble_eq_true rfl, Nat.le_of_ble_eq_true rfl⟩) hh hA (fun r_707 H locs hw_707 hh => ?_)
        rcases hw_707 with hb_707 | hb_707
        · obtain rfl : r_707 = 0 := hb_707
          refine lv_if_eq (tgt := 54) hx hb dX0_sumUp_41 (by decide) (fun _ => ?_) (fun c_0 => absurd c_0 (by decide))
          refine lv_aload_n hx hb dX0_sumUp_54 rfl (lv_at hl 1 rfl) ?_
          refine hp_get hx hb hts ix0 hown hK hh (q := 70) rfl (hI.1.1 _ (by decide)) es705 rfl 0 (by decide) (hts _ tw_147) (fun _ h9 => h9) rfl dX0_sumUp_55 ?_
          refine lv_aload_n hx hb dX0_sumUp_58 rfl (lv_at hl 1 rfl) ?_
          refine hp_get hx hb hts ix0 hown hK hh (q := 70) rfl (hI.1.1 _ (by decide)) es705 rfl 1 (by decide) (hts _ tw_148) (fun _ h9 => h9) rfl dX0_sumUp_59 ?_
          obtain ⟨f_708, es708⟩ := get2_cl hI_704
          have es696_709 : en_704 1 = .inr (7, [.ref (ad 2), .ref (ad 3), .ref (ad 10), .ref (ad 11), .int (nI cnt), .int (nI d), .int (nI mm)]) := (hf_704 1 (by omega)).trans es696
          refine hp_callRi (va_runV (As := [.ref (ad 71)]) (rest := []) ⟨hx, hb, hml, hown, hts⟩ (c_X8_isUnit l D cy _ cs ad en_704 (hI.1.1 _ (by decide)) cnt d mm hcnt hd2 hd3 hmm 71 (hI.1.1 _ (by decide)) f_708 es696_709 es708) (kw_X8_isUnit hts tw_635 ⟨by decide, by decide⟩) (preV_of hh hK (hI.1.1 _ (by decide)) es696_709 rfl) rfl rfl hl.1 rfl (lv_room (Nat.le_of_ble_eq_true rfl)) dX0_sumUp_62 ⟨Nat.le_of_ble_eq_true rfl, Nat.le_of_ble_eq_true rfl⟩) hh hA (fun r_710 H locs hw_710 hh => ?_)
          rcases hw_710 with hb_710 | hb_710
          · obtain rfl : r_710 = 0 := hb_710
            refine lv_if_eq (tgt := 73) hx hb dX0_sumUp_65 (by decide) (fun _ => ?_) (fun c_0 => absurd c_0 (by decide))
            refine lv_aload_n hx hb dX0_sumUp_73 rfl (lv_at hl 1 rfl) ?_
            refine hp_get hx hb hts ix0 hown hK hh (q := 70) rfl (hI.1.1 _ (by decide)) es705 rfl 0 (by decide) (hts _ tw_147) (fun _ h9 => h9) rfl dX0_sumUp_74 ?_
            refine lv_aload_n hx hb dX0_sumUp_77 rfl (lv_at hl 1 rfl) ?_
            refine hp_get hx hb hts ix0 hown hK hh (q := 70) rfl (hI.1.1 _ (by decide)) es705 rfl 1 (by decide) (hts _ tw_148) (fun _ h9 => h9) rfl dX0_sumUp_78 ?_
            refine hp_callRl (va_runV (As := [.ref (ad 71)]) (rest := []) ⟨hx, hb, hml, hown, hts⟩ (c_X8_norm l D cy _ cs ad en_704 (hI.1.1 _ (by decide)) cnt d mm hcnt hd2 hd3 hmm 71 (hI.1.1 _ (by decide)) f_708 es696_709 es708) (kw_X8_norm hts tw_639 ⟨by decide, by decide⟩) (preV_of hh hK (hI.1.1 _ (by decide)) es696_709 rfl) rfl rfl hl.1 rfl (lv_room (Nat.le_of_ble_eq_true rfl)) dX0_sumUp_81 ⟨Nat.le_of_ble_eq_true rfl, Nat.le_of_ble_eq_true rfl⟩) hh hA (fun r_711 H locs hw_711 hh => ?_)
            obtain rfl : r_711 = (normT d f_708 d) := hw_711
            refine lv_lconst (v := 0) hx hb dX0_sumUp_84 (by decide) ?_
            refine W.lcmp hx hb dX0_sumUp_85 ?_
            refine lv_if_ne (tgt := 94) hx hb dX0_sumUp_86 (by decide) (fun c_712 => ?_) (fun c_712 => ?_)
            · refine lv_iinc (v := (nI (j701 + 1))) (lv' := [(1, .int (nI (j701 + 1))), (0, .ref (ad 70))]) hx hb dX0_sumUp_94 hl (k := 0) rfl (nI_1 _) (by decide) rfl (fun ls hl => ?_)
              refine lv_goto (tgt := 18) hx hb dX0_sumUp_97 (by decide) ?_
              exact ih_701 ((j701 + 1))  en_704 ls H locs (by omega) (by omega) (by omega) hI_704 hf_704  (lv_sub hl [0, 1] rfl) hh
            · refine lv_aload_n hx hb dX0_sumUp_89 rfl (lv_at hl 1 rfl) ?_
              refine lv_iconst (v := 1) hx hb dX0_sumUp_90 (by decide) ?_
              refine hp_put hx hb hts ix0 tyX0 tyX0_ok nmX0 hown hK hh (q := 70) rfl (hI.1.1 _ (by decide)) es705 rfl 12 (by decide) (hts _ tw_163) (fun _ h9 => h9) rfl (ty := .boolean) (by decide +kernel) rfl rfl (Nat.le_of_ble_eq_true rfl) dX0_sumUp_91 (fun H locs en_713 hen_713 hh => ?_)
              have es706_713 : en_713 73 = .inl (cy 1, 9, .inr (.inl f_706)) := by rw [hen_713, va_up_ne _ _ (by decide)]; exact es706
              have es708_713 : en_713 71 = .inl (cy 1, 9, .inr (.inl f_708)) := by rw [hen_713, va_up_ne _ _ (by decide)]; exact es708
              have es696_713 : en_713 1 = .inr (7, [.ref (ad 2), .ref (ad 3), .ref (ad 10), .ref (ad 11), .int (nI cnt), .int (nI d), .int (nI mm)]) := by rw [hen_713, va_up_ne _ _ (by decide)]; exact es696_709
              have es705_713 : en_713 70 = .inr (0, [.ref (ad 1), .ref (ad 71), .ref (ad 72), .ref (ad 73), .ref (ad ka), .ref (ad kb), .ref (ad kc), .int (nI sta_705), .int (nI cc_705), .int (nI ct_705), .int un_705, .int ow_705, .int 1]) := by rw [hen_713]; exact va_up_self _ _ _
              have hI_713 : SC cy cs ad ka kb kc en_713 := by rw [hen_713]; exact up2_C hI_704 ⟨sta_705, cc_705, ct_705, un_705, ow_705, 1, rfl, p0_705, p1_705, p2_705, (by omega)⟩
              have hf_713 : ∀ c, ((c < 70 ∨ 74 ≤ c) ∧ c ≠ ka ∧ c ≠ kb ∧ c ≠ kc) → en_713 c = en c := fun c hc => Eq.trans (show en_713 c = en_704 c from by rw [hen_713, va_up_ne _ _ (by omega)]) (hf_704 c hc)
              refine lv_iinc (v := (nI (j701 + 1))) (lv' := [(1, .int (nI (j701 + 1))), (0, .ref (ad 70))]) hx hb dX0_sumUp_94 hl (k := 0) rfl (nI_1 _) (by decide) rfl (fun ls hl => ?_)
              refine lv_goto (tgt := 18) hx hb dX0_sumUp_97 (by decide) ?_
              exact ih_701 ((j701 + 1))  en_713 ls H locs (by omega) (by omega) (by omega) hI_713 hf_713  (lv_sub hl [0, 1] rfl) hh
          · obtain rfl : r_710 = 1 := hb_710
            refine lv_if_eq (tgt := 73) hx hb dX0_sumUp_65 (by decide) (fun c_0 => absurd c_0 (by decide)) (fun _ => ?_)
            refine lv_aload_n hx hb dX0_sumUp_68 rfl (lv_at hl 1 rfl) ?_
            refine lv_iload_n hx hb dX0_sumUp_69 rfl (lv_at hl 0 rfl) ?_
            refine hp_put hx hb hts ix0 tyX0 tyX0_ok nmX0 hown hK hh (q := 70) rfl (hI.1.1 _ (by decide)) es705 rfl 10 (by decide) (hts _ tw_159) (fun _ h9 => h9) rfl (ty := .int) (by decide +kernel) rfl rfl (Nat.le_of_ble_eq_true rfl) dX0_sumUp_70 (fun H locs en_714 hen_714 hh => ?_)
            have es706_714 : en_714 73 = .inl (cy 1, 9, .inr (.inl f_706)) := by rw [hen_714, va_up_ne _ _ (by decide)]; exact es706
            have es708_714 : en_714 71 = .inl (cy 1, 9, .inr (.inl f_708)) := by rw [hen_714, va_up_ne _ _ (by decide)]; exact es708
            have es696_714 : en_714 1 = .inr (7, [.ref (ad 2), .ref (ad 3), .ref (ad 10), .ref (ad 11), .int (nI cnt), .int (nI d), .int (nI mm)]) := by rw [hen_714, va_up_ne _ _ (by decide)]; exact es696_709
            have es705_714 : en_714 70 = .inr (0, [.ref (ad 1), .ref (ad 71), .ref (ad 72), .ref (ad 73), .ref (ad ka), .ref (ad kb), .ref (ad kc), .int (nI sta_705), .int (nI cc_705), .int (nI ct_705), .int (nI j701), .int ow_705, .int (nI hn_705)]) := by rw [hen_714]; exact va_up_self _ _ _
            have hI_714 : SC cy cs ad ka kb kc en_714 := by rw [hen_714]; exact up2_C hI_704 ⟨sta_705, cc_705, ct_705, (nI j701), ow_705, hn_705, rfl, p0_705, p1_705, p2_705, p3_705⟩
            have hf_714 : ∀ c, ((c < 70 ∨ 74 ≤ c) ∧ c ≠ ka ∧ c ≠ kb ∧ c ≠ kc) → en_714 c = en c := fun c hc => Eq.trans (show en_714 c = en_704 c from by rw [hen_714, va_up_ne _ _ (by omega)]) (hf_704 c hc)
            refine lv_aload_n hx hb dX0_sumUp_73 rfl (lv_at hl 1 rfl) ?_
            refine hp_get hx hb hts ix0 hown hK hh (q := 70) rfl (hI.1.1 _ (by decide)) es705_714 rfl 0 (by decide) (hts _ tw_147) (fun _ h9 => h9) rfl dX0_sumUp_74 ?_
            refine lv_aload_n hx hb dX0_sumUp_77 rfl (lv_at hl 1 rfl) ?_
            refine hp_get hx hb hts ix0 hown hK hh (q := 70) rfl (hI.1.1 _ (by decide)) es705_714 rfl 1 (by decide) (hts _ tw_148) (fun _ h9 => h9) rfl dX0_sumUp_78 ?_
            refine hp_callRl (va_runV (As := [.ref (ad 71)]) (rest := []) ⟨hx, hb, hml, hown, hts⟩ (c_X8_norm l D cy _ cs ad en_714 (hI.1.1 _ (by decide)) cnt d mm hcnt hd2 hd3 hmm 71 (hI.1.1 _ (by decide)) f_708 es696_714 es708_714) (kw_X8_norm hts tw_639 ⟨by decide, by decide⟩) (preV_of hh hK (hI.1.1 _ (by decide)) es696_714 rfl) rfl rfl hl.1 rfl (lv_room (Nat.le_of_ble_eq_true rfl)) dX0_sumUp_81 ⟨Nat.le_of_ble_eq_true rfl, Nat.le_of_ble_eq_true rfl⟩) hh hA (fun r_715 H locs hw_715 hh => ?_)
            obtain rfl : r_715 = (normT d f_708 d) := hw_715
            refine lv_lconst (v := 0) hx hb dX0_sumUp_84 (by decide) ?_
            refine W.lcmp hx hb dX0_sumUp_85 ?_
            refine lv_if_ne (tgt := 94) hx hb dX0_sumUp_86 (by decide) (fun c_716 => ?_) (fun c_716 => ?_)
            · refine lv_iinc (v := (nI (j701 + 1))) (lv' := [(1, .int (nI (j701 + 1))), (0, .ref (ad 70))]) hx hb dX0_sumUp_94 hl (k := 0) rfl (nI_1 _) (by decide) rfl (fun ls hl => ?_)
              refine lv_goto (tgt := 18) hx hb dX0_sumUp_97 (by decide) ?_
              exact ih_701 ((j701 + 1))  en_714 ls H locs (by omega) (by omega) (by omega) hI_714 hf_714  (lv_sub hl [0, 1] rfl) hh
            · refine lv_aload_n hx hb dX0_sumUp_89 rfl (lv_at hl 1 rfl) ?_
              refine lv_iconst (v := 1) hx hb dX0_sumUp_90 (by decide) ?_
              refine hp_put hx hb hts ix0 tyX0 tyX0_ok nmX0 hown hK hh (q := 70) rfl (hI.1.1 _ (by decide)) es705_714 rfl 12 (by decide) (hts _ tw_163) (fun _ h9 => h9) rfl (ty := .boolean) (by decide +kernel) rfl rfl (Nat.le_of_ble_eq_true rfl) dX0_sumUp_91 (fun H locs en_717 hen_717 hh => ?_)
              have es706_717 : en_717 73 = .inl (cy 1, 9, .inr (.inl f_706)) := by rw [hen_717, va_up_ne _ _ (by decide)]; exact es706_714
              have es708_717 : en_717 71 = .inl (cy 1, 9, .inr (.inl f_708)) := by rw [hen_717, va_up_ne _ _ (by decide)]; exact es708_714
              have es696_717 : en_717 1 = .inr (7, [.ref (ad 2), .ref (ad 3), .ref (ad 10), .ref (ad 11), .int (nI cnt), .int (nI d), .int (nI mm)]) := by rw [hen_717, va_up_ne _ _ (by decide)]; exact es696_714
              have es705_717 : en_717 70 = .inr (0, [.ref (ad 1), .ref (ad 71), .ref (ad 72), .ref (ad 73), .ref (ad ka), .ref (ad kb), .ref (ad kc), .int (nI sta_705), .int (nI cc_705), .int (nI ct_705), .int (nI j701), .int ow_705, .int 1]) := by rw [hen_717]; exact va_up_self _ _ _
              have hI_717 : SC cy cs ad ka kb kc en_717 := by rw [hen_717]; exact up2_C hI_714 ⟨sta_705, cc_705, ct_705, (nI j701), ow_705, 1, rfl, p0_705, p1_705, p2_705, (by omega)⟩
              have hf_717 : ∀ c, ((c < 70 ∨ 74 ≤ c) ∧ c ≠ ka ∧ c ≠ kb ∧ c ≠ kc) → en_717 c = en c := fun c hc => Eq.trans (show en_717 c = en_714 c from by rw [hen_717, va_up_ne _ _ (by omega)]) (hf_714 c hc)
              refine lv_iinc (v := (nI (j701 + 1))) (lv' := [(1, .int (nI (j701 + 1))), (0, .ref (ad 70))]) hx hb dX0_sumUp_94 hl (k := 0) rfl (nI_1 _) (by decide) rfl (fun ls hl => ?_)
              refine lv_goto (tgt := 18) hx hb dX0_sumUp_97 (by decide) ?_
              exact ih_701 ((j701 + 1))  en_717 ls H locs (by omega) (by omega) (by omega) hI_717 hf_717  (lv_sub hl [0, 1] rfl) hh
        · obtain rfl : r_707 = 1 := hb_707
          refine lv_if_eq (tgt := 54) hx hb dX0_sumUp_41 (by decide) (fun c_0 => absurd c_0 (by decide)) (fun _ => ?_)
          refine lv_aload_n hx hb dX0_sumUp_44 rfl (lv_at hl 1 rfl) ?_
          refine lv_dup hx hb dX0_sumUp_45 rfl ?_
          refine hp_get hx hb hts ix0 hown hK hh (q := 70) rfl (hI.1.1 _ (by decide)) es705 rfl 11 (by decide) (hts _ tw_161) (fun _ h9 => h9) rfl dX0_sumUp_46 ?_
          refine lv_iconst (v := 1) hx hb dX0_sumUp_49 (by decide) ?_
          refine lv_iadd hx hb dX0_sumUp_50 ?_
          refine hp_put hx hb hts ix0 tyX0 tyX0_ok nmX0 hown hK hh (q := 70) rfl (hI.1.1 _ (by decide)) es705 rfl 11 (by decide) (hts _ tw_161) (fun _ h9 => h9) rfl (ty := .int) (by decide +kernel) rfl rfl (Nat.le_of_ble_eq_true rfl) dX0_sumUp_51 (fun H locs en_718 hen_718 hh => ?_)
          have es706_718 : en_718 73 = .inl (cy 1, 9, .inr (.inl f_706)) := by rw [hen_718, va_up_ne _ _ (by decide)]; exact es706
          have es705_718 : en_718 70 = .inr (0, [.ref (ad 1), .ref (ad 71), .ref (ad 72), .ref (ad 73), .ref (ad ka), .ref (ad kb), .ref (ad kc), .int (nI sta_705), .int (nI cc_705), .int (nI ct_705), .int un_705, .int (ow_705 + 1), .int (nI hn_705)]) := by rw [hen_718]; exact va_up_self _ _ _
          have hI_718 : SC cy cs ad ka kb kc en_718 := by rw [hen_718]; exact up2_C hI_704 ⟨sta_705, cc_705, ct_705, un_705, (ow_705 + 1), hn_705, rfl, p0_705, p1_705, p2_705, p3_705⟩
          have hf_718 : ∀ c, ((c < 70 ∨ 74 ≤ c) ∧ c ≠ ka ∧ c ≠ kb ∧ c ≠ kc) → en_718 c = en c := fun c hc => Eq.trans (show en_718 c = en_704 c from by rw [hen_718, va_up_ne _ _ (by omega)]) (hf_704 c hc)
          refine lv_aload_n hx hb dX0_sumUp_54 rfl (lv_at hl 1 rfl) ?_
          refine hp_get hx hb hts ix0 hown hK hh (q := 70) rfl (hI.1.1 _ (by decide)) es705_718 rfl 0 (by decide) (hts _ tw_147) (fun _ h9 => h9) rfl dX0_sumUp_55 ?_
          refine lv_aload_n hx hb dX0_sumUp_58 rfl (lv_at hl 1 rfl) ?_
          refine hp_get hx hb hts ix0 hown hK hh (q := 70) rfl (hI.1.1 _ (by decide)) es705_718 rfl 1 (by decide) (hts _ tw_148) (fun _ h9 => h9) rfl dX0_sumUp_59 ?_
          obtain ⟨f_719, es719⟩ := get2_cl hI_718
          have es696_720 : en_718 1 = .inr (7, [.ref (ad 2), .ref (ad 3), .ref (ad 10), .ref (ad 11), .int (nI cnt), .int (nI d), .int (nI mm)]) := (hf_718 1 (by omega)).trans es696
          refine hp_callRi (va_runV (As := [.ref (ad 71)]) (rest := []) ⟨hx, hb, hml, hown, hts⟩ (c_X8_isUnit l D cy _ cs ad en_718 (hI.1.1 _ (by decide)) cnt d mm hcnt hd2 hd3 hmm 71 (hI.1.1 _ (by decide)) f_719 es696_720 es719) (kw_X8_isUnit hts tw_635 ⟨by decide, by decide⟩) (preV_of hh hK (hI.1.1 _ (by decide)) es696_720 rfl) rfl rfl hl.1 rfl (lv_room (Nat.le_of_ble_eq_true rfl)) dX0_sumUp_62 ⟨Nat.le_of_ble_eq_true rfl, Nat.le_of_ble_eq_true rfl⟩) hh hA (fun r_721 H locs hw_721 hh => ?_)
          rcases hw_721 with hb_721 | hb_721
          · obtain rfl : r_721 = 0 := hb_721
            refine lv_if_eq (tgt := 73) hx hb dX0_sumUp_65 (by decide) (fun _ => ?_) (fun c_0 => absurd c_0 (by decide))
            refine lv_aload_n hx hb dX0_sumUp_73 rfl (lv_at hl 1 rfl) ?_
            refine hp_get hx hb hts ix0 hown hK hh (q := 70) rfl (hI.1.1 _ (by decide)) es705_718 rfl 0 (by decide) (hts _ tw_147) (fun _ h9 => h9) rfl dX0_sumUp_74 ?_
            refine lv_aload_n hx hb dX0_sumUp_77 rfl (lv_at hl 1 rfl) ?_
            refine hp_get hx hb hts ix0 hown hK hh (q := 70) rfl (hI.1.1 _ (by decide)) es705_718 rfl 1 (by decide) (hts _ tw_148) (fun _ h9 => h9) rfl dX0_sumUp_78 ?_
            refine hp_callRl (va_runV (As := [.ref (ad 71)]) (rest := []) ⟨hx, hb, hml, hown, hts⟩ (c_X8_norm l D cy _ cs ad en_718 (hI.1.1 _ (by decide)) cnt d mm hcnt hd2 hd3 hmm 71 (hI.1.1 _ (by decide)) f_719 es696_720 es719) (kw_X8_norm hts tw_639 ⟨by decide, by decide⟩) (preV_of hh hK (hI.1.1 _ (by decide)) es696_720 rfl) rfl rfl hl.1 rfl (lv_room (Nat.le_of_ble_eq_true rfl)) dX0_sumUp_81 ⟨Nat.le_of_ble_eq_true rfl, Nat.le_of_ble_eq_true rfl⟩) hh hA (fun r_722 H locs hw_722 hh => ?_)
            obtain rfl : r_722 = (normT d f_719 d) := hw_722
            refine lv_lconst (v := 0) hx hb dX0_sumUp_84 (by decide) ?_
            refine W.lcmp hx hb dX0_sumUp_85 ?_
            refine lv_if_ne (tgt := 94) hx hb dX0_sumUp_86 (by decide) (fun c_723 => ?_) (fun c_723 => ?_)
            · refine lv_iinc (v := (nI (j701 + 1))) (lv' := [(1, .int (nI (j701 + 1))), (0, .ref (ad 70))]) hx hb dX0_sumUp_94 hl (k := 0) rfl (nI_1 _) (by decide) rfl (fun ls hl => ?_)
              refine lv_goto (tgt := 18) hx hb dX0_sumUp_97 (by decide) ?_
              exact ih_701 ((j701 + 1))  en_718 ls H locs (by omega) (by omega) (by omega) hI_718 hf_718  (lv_sub hl [0, 1] rfl) hh
            · refine lv_aload_n hx hb dX0_sumUp_89 rfl (lv_at hl 1 rfl) ?_
              refine lv_iconst (v := 1) hx hb dX0_sumUp_90 (by decide) ?_
              refine hp_put hx hb hts ix0 tyX0 tyX0_ok nmX0 hown hK hh (q := 70) rfl (hI.1.1 _ (by decide)) es705_718 rfl 12 (by decide) (hts _ tw_163) (fun _ h9 => h9) rfl (ty := .boolean) (by decide +kernel) rfl rfl (Nat.le_of_ble_eq_true rfl) dX0_sumUp_91 (fun H locs en_724 hen_724 hh => ?_)
              have es706_724 : en_724 73 = .inl (cy 1, 9, .inr (.inl f_706)) := by rw [hen_724, va_up_ne _ _ (by decide)]; exact es706_718
              have es719_724 : en_724 71 = .inl (cy 1, 9, .inr (.inl f_719)) := by rw [hen_724, va_up_ne _ _ (by decide)]; exact es719
              have es696_724 : en_724 1 = .inr (7, [.ref (ad 2), .ref (ad 3), .ref (ad 10), .ref (ad 11), .int (nI cnt), .int (nI d), .int (nI mm)]) := by rw [hen_724, va_up_ne _ _ (by decide)]; exact es696_720
              have es705_724 : en_724 70 = .inr (0, [.ref (ad 1), .ref (ad 71), .ref (ad 72), .ref (ad 73), .ref (ad ka), .ref (ad kb), .ref (ad kc), .int (nI sta_705), .int (nI cc_705), .int (nI ct_705), .int un_705, .int (ow_705 + 1), .int 1]) := by rw [hen_724]; exact va_up_self _ _ _
              have hI_724 : SC cy cs ad ka kb kc en_724 := by rw [hen_724]; exact up2_C hI_718 ⟨sta_705, cc_705, ct_705, un_705, (ow_705 + 1), 1, rfl, p0_705, p1_705, p2_705, (by omega)⟩
              have hf_724 : ∀ c, ((c < 70 ∨ 74 ≤ c) ∧ c ≠ ka ∧ c ≠ kb ∧ c ≠ kc) → en_724 c = en c := fun c hc => Eq.trans (show en_724 c = en_718 c from by rw [hen_724, va_up_ne _ _ (by omega)]) (hf_718 c hc)
              refine lv_iinc (v := (nI (j701 + 1))) (lv' := [(1, .int (nI (j701 + 1))), (0, .ref (ad 70))]) hx hb dX0_sumUp_94 hl (k := 0) rfl (nI_1 _) (by decide) rfl (fun ls hl => ?_)
              refine lv_goto (tgt := 18) hx hb dX0_sumUp_97 (by decide) ?_
              exact ih_701 ((j701 + 1))  en_724 ls H locs (by omega) (by omega) (by omega) hI_724 hf_724  (lv_sub hl [0, 1] rfl) hh
          · obtain rfl : r_721 = 1 := hb_721
            refine lv_if_eq (tgt := 73) hx hb dX0_sumUp_65 (by decide) (fun c_0 => absurd c_0 (by decide)) (fun _ => ?_)
            refine lv_aload_n hx hb dX0_sumUp_68 rfl (lv_at hl 1 rfl) ?_
            refine lv_iload_n hx hb dX0_sumUp_69 rfl (lv_at hl 0 rfl) ?_
            refine hp_put hx hb hts ix0 tyX0 tyX0_ok nmX0 hown hK hh (q := 70) rfl (hI.1.1 _ (by decide)) es705_718 rfl 10 (by decide) (hts _ tw_159) (fun _ h9 => h9) rfl (ty := .int) (by decide +kernel) rfl rfl (Nat.le_of_ble_eq_true rfl) dX0_sumUp_70 (fun H locs en_725 hen_725 hh => ?_)
            have es706_725 : en_725 73 = .inl (cy 1, 9, .inr (.inl f_706)) := by rw [hen_725, va_up_ne _ _ (by decide)]; exact es706_718
            have es719_725 : en_725 71 = .inl (cy 1, 9, .inr (.inl f_719)) := by rw [hen_725, va_up_ne _ _ (by decide)]; exact es719
            have es696_725 : en_725 1 = .inr (7, [.ref (ad 2), .ref (ad 3), .ref (ad 10), .ref (ad 11), .int (nI cnt), .int (nI d), .int (nI mm)]) := by rw [hen_725, va_up_ne _ _ (by decide)]; exact es696_720
            have es705_725 : en_725 70 = .inr (0, [.ref (ad 1), .ref (ad 71), .ref (ad 72), .ref (ad 73), .ref (ad ka), .ref (ad kb), .ref (ad kc), .int (nI sta_705), .int (nI cc_705), .int (nI ct_705), .int (nI j701), .int (ow_705 + 1), .int (nI hn_705)]) := by rw [hen_725]; exact va_up_self _ _ _
            have hI_725 : SC cy cs ad ka kb kc en_725 := by rw [hen_725]; exact up2_C hI_718 ⟨sta_705, cc_705, ct_705, (nI j701), (ow_705 + 1), hn_705, rfl, p0_705, p1_705, p2_705, p3_705⟩
            have hf_725 : ∀ c, ((c < 70 ∨ 74 ≤ c) ∧ c ≠ ka ∧ c ≠ kb ∧ c ≠ kc) → en_725 c = en c := fun c hc => Eq.trans (show en_725 c = en_718 c from by rw [hen_725, va_up_ne _ _ (by omega)]) (hf_718 c hc)
            refine lv_aload_n hx hb dX0_sumUp_73 rfl (lv_at hl 1 rfl) ?_
            refine hp_get hx hb hts ix0 hown hK hh (q := 70) rfl (hI.1.1 _ (by decide)) es705_725 rfl 0 (by decide) (hts _ tw_147) (fun _ h9 => h9) rfl dX0_sumUp_74 ?_
            refine lv_aload_n hx hb dX0_sumUp_77 rfl (lv_at hl 1 rfl) ?_
            refine hp_get hx hb hts ix0 hown hK hh (q := 70) rfl (hI.1.1 _ (by decide)) es705_725 rfl 1 (by decide) (hts _ tw_148) (fun _ h9 => h9) rfl dX0_sumUp_78 ?_
            refine hp_callRl (va_runV (As := [.ref (ad 71)]) (rest := []) ⟨hx, hb, hml, hown, hts⟩ (c_X8_norm l D cy _ cs ad en_725 (hI.1.1 _ (by decide)) cnt d mm hcnt hd2 hd3 hmm 71 (hI.1.1 _ (by decide)) f_719 es696_725 es719_725) (kw_X8_norm hts tw_639 ⟨by decide, by decide⟩) (preV_of hh hK (hI.1.1 _ (by decide)) es696_725 rfl) rfl rfl hl.1 rfl (lv_room (Nat.le_of_ble_eq_true rfl)) dX0_sumUp_81 ⟨Nat.le_of_ble_eq_true rfl, Nat.le_of_ble_eq_true rfl⟩) hh hA (fun r_726 H locs hw_726 hh => ?_)
            obtain rfl : r_726 = (normT d f_719 d) := hw_726
            refine lv_lconst (v := 0) hx hb dX0_sumUp_84 (by decide) ?_
            refine W.lcmp hx hb dX0_sumUp_85 ?_
            refine lv_if_ne (tgt := 94) hx hb dX0_sumUp_86 (by decide) (fun c_727 => ?_) (fun c_727 => ?_)
            · refine lv_iinc (v := (nI (j701 + 1))) (lv' := [(1, .int (nI (j701 + 1))), (0, .ref (ad 70))]) hx hb dX0_sumUp_94 hl (k := 0) rfl (nI_1 _) (by decide) rfl (fun ls hl => ?_)
              refine lv_goto (tgt := 18) hx hb dX0_sumUp_97 (by decide) ?_
              exact ih_701 ((j701 + 1))  en_725 ls H locs (by omega) (by omega) (by omega) hI_725 hf_725  (lv_sub hl [0, 1] rfl) hh
            · refine lv_aload_n hx hb dX0_sumUp_89 rfl (lv_at hl 1 rfl) ?_
              refine lv_iconst (v := 1) hx hb dX0_sumUp_90 (by decide) ?_
              refine hp_put hx hb hts ix0 tyX0 tyX0_ok nmX0 hown hK hh (q := 70) rfl (hI.1.1 _ (by decide)) es705_725 rfl 12 (by decide) (hts _ tw_163) (fun _ h9 => h9) rfl (ty := .boolean) (by decide +kernel) rfl rfl (Nat.le_of_ble_eq_true rfl) dX0_sumUp_91 (fun H locs en_728 hen_728 hh => ?_)
              have es706_728 : en_728 73 = .inl (cy 1, 9, .inr (.inl f_706)) := by rw [hen_728, va_up_ne _ _ (by decide)]; exact es706_725
              have es719_728 : en_728 71 = .inl (cy 1, 9, .inr (.inl f_719)) := by rw [hen_728, va_up_ne _ _ (by decide)]; exact es719_725
              have es696_728 : en_728 1 = .inr (7, [.ref (ad 2), .ref (ad 3), .ref (ad 10), .ref (ad 11), .int (nI cnt), .int (nI d), .int (nI mm)]) := by rw [hen_728, va_up_ne _ _ (by decide)]; exact es696_725
              have es705_728 : en_728 70 = .inr (0, [.ref (ad 1), .ref (ad 71), .ref (ad 72), .ref (ad 73), .ref (ad ka), .ref (ad kb), .ref (ad kc), .int (nI sta_705), .int (nI cc_705), .int (nI ct_705), .int (nI j701), .int (ow_705 + 1), .int 1]) := by rw [hen_728]; exact va_up_self _ _ _
              have hI_728 : SC cy cs ad ka kb kc en_728 := by rw [hen_728]; exact up2_C hI_725 ⟨sta_705, cc_705, ct_705, (nI j701), (ow_705 + 1), 1, rfl, p0_705, p1_705, p2_705, (by omega)⟩
              have hf_728 : ∀ c, ((c < 70 ∨ 74 ≤ c) ∧ c ≠ ka ∧ c ≠ kb ∧ c ≠ kc) → en_728 c = en c := fun c hc => Eq.trans (show en_728 c = en_725 c from by rw [hen_728, va_up_ne _ _ (by omega)]) (hf_725 c hc)
              refine lv_iinc (v := (nI (j701 + 1))) (lv' := [(1, .int (nI (j701 + 1))), (0, .ref (ad 70))]) hx hb dX0_sumUp_94 hl (k := 0) rfl (nI_1 _) (by decide) rfl (fun ls hl => ?_)
              refine lv_goto (tgt := 18) hx hb dX0_sumUp_97 (by decide) ?_
              exact ih_701 ((j701 + 1))  en_728 ls H locs (by omega) (by omega) (by omega) hI_728 hf_728  (lv_sub hl [0, 1] rfl) hh
  exact loop_701 (2000 + 1) 0  en_700 ls _ _ (Nat.le_refl _) (by omega) (by omega) hI_700 hf_700  (lv_sub hl [0, 1] rfl) hh
theorem kw_X0_sumUp {R : Room} {s : State} {args : Array Value} {own : String} {idx : Nat} (hts : ∀ w ∈ TB, w.before args s = true) (hl : Cond.methodLink own idx yX0_sumUp ∈ TB) (hR : 3 + 1 ≤ R.frames ∧ 8 + (2 + 11) + 40 * 3 ≤ R.locals) : CallW R s args own RX0 idx yX0_sumUp cX0_sumUp 2 none (Cond.code yX0_sumUp cX0_sumUp 2 none :: TB) (rmN 3) 0 0 0 := cwV 0 hts (TB_V hl tw_629 ts_22 tw_5 tw_630) rfl rfl rfl (by decide +kernel) hR
set_option maxHeartbeats 4000000 in
set_option maxRecDepth 100000 in
/-- prepareRows -/
theorem c_X0_prepareRows (l : Launch) (D : va_G) (cy : Nat → ClassId) (sz : Nat) (cs : List Nat) (ad : Nat → Nat) (en : Nat → va_E) {ka kb kc : Nat} (hI : SC cy cs ad ka kb kc en)    : Met l yX0_prepareRows (Cond.code yX0_prepareRows cX0_prepareRows 1 none :: TB) (rmN 1) (va_Pc [.ref (ad 70)] (Pre D cy cs ad en sz)) (va_Qv (S := Nat → va_E) (fun en1 => SC cy cs ad ka kb kc en1 ∧ (∀ c, ((c < 70 ∨ 74 ≤ c) ∧ c ≠ ka ∧ c ≠ kb ∧ c ≠ kc) → en1 c = en c)) (PostM D cs ad) (Af cs ad sz)) 0 0 (Af cs ad sz) := by
  refine Met.ofW (cc := cX0_prepareRows) (maxL := 1) (ret := none) (by decide) rfl ?_
  intro p e s m args below meth c s₁ B hml hv
  obtain ⟨rfl, hsz, hP, hK, hD0⟩ := hv
  have hx := B.exec
  have hb := B.bytes
  have hr := B.returns
  have hts : ∀ w ∈ TB, w.before _ s = true := fun w h => atoms_spec (ws := _ :: TB) B.pre w (List.mem_cons_of_mem _ h)
  have hown : s.vm.findClass RX0 = some m.cls := findClass_of_methodNamed B.named
  have hlocks := B.notSynchronized
  have hh : Hp D (Af cs ad sz) (Af cs ad sz) s.heap s.heap [] cs ad en := ⟨hP, Af_self hD0, va_S.rf⟩
  have hA : ∀ q : Nat, s.heap.size ≤ q → Af cs ad sz q := fun q h => Or.inr (by rw [hsz] at h; exact h)
  have hl := lv_entry ([.ref (ad 70)]) (n := 1) (Nat.le_of_ble_eq_true rfl)
  rw [lg_entry_eq]
  generalize (lg_sl ([.ref (ad 70)]) ++ List.replicate (1 - (lg_sl ([.ref (ad 70)])).length) Slot.unset).toArray = ls at hl ⊢
  have hl : lv_has ls 1 [(0, .ref (ad 70))] := hl
  have hka1 : 115 ≤ ka := hI.2.1.2.2.2.1
  have hka2 : ka < kb := hI.2.1.2.2.2.2.1
  have hka3 : kb < kc := hI.2.1.2.2.2.2.2
  have hf0 : ∀ c, ((c < 70 ∨ 74 ≤ c) ∧ c ≠ ka ∧ c ≠ kb ∧ c ≠ kc) → en c = en c := fun _ _ => rfl
  obtain ⟨cnt, d, mm, es729, hcnt, hd2, hd3, hmm⟩ := get2_T hI
  obtain ⟨sta_730, cc_730, ct_730, un_730, ow_730, hn_730, es730, p0_730, p1_730, p2_730, p3_730⟩ := get2_C hI
  have hdd : d * d ≤ 9 := Nat.mul_le_mul hd3 hd3
  refine lv_aload_n hx hb dX0_prepareRows_0 rfl (lv_at hl 0 rfl) ?_
  refine hp_get hx hb hts ix0 hown hK hh (q := 70) rfl (hI.1.1 _ (by decide)) es730 rfl 4 (by decide) (hts _ tw_151) (fun _ h9 => h9) rfl dX0_prepareRows_1 ?_
  refine lv_ifnull hx hb dX0_prepareRows_4 ?_
  refine lv_aload_n hx hb dX0_prepareRows_7 rfl (lv_at hl 0 rfl) ?_
  refine hp_get hx hb hts ix0 hown hK hh (q := 70) rfl (hI.1.1 _ (by decide)) es730 rfl 5 (by decide) (hts _ tw_152) (fun _ h9 => h9) rfl dX0_prepareRows_8 ?_
  refine lv_ifnull hx hb dX0_prepareRows_11 ?_
  refine lv_aload_n hx hb dX0_prepareRows_14 rfl (lv_at hl 0 rfl) ?_
  refine hp_get hx hb hts ix0 hown hK hh (q := 70) rfl (hI.1.1 _ (by decide)) es730 rfl 6 (by decide) (hts _ tw_153) (fun _ h9 => h9) rfl dX0_prepareRows_15 ?_
  refine lv_ifnonnull (tgt := 48) hx hb dX0_prepareRows_18 (by decide) ?_
  refine lv_aload_n hx hb dX0_prepareRows_48 rfl (lv_at hl 0 rfl) ?_
  refine hp_get hx hb hts ix0 hown hK hh (q := 70) rfl (hI.1.1 _ (by decide)) es730 rfl 6 (by decide) (hts _ tw_153) (fun _ h9 => h9) rfl dX0_prepareRows_49 ?_
  refine lv_iconst (v := 0) hx hb dX0_prepareRows_52 (by decide) ?_
  obtain ⟨f_731, es731, p0_731⟩ := get2_ec hI
  refine hp_callMv (va_runS (As := [.ref (ad kc), .int 0]) (rest := []) ⟨hx, hb, hml, hown, hts⟩ (c_J7_fill_53178 l D cy _ cs ad en kc 4096 hI.2.1.2.2.1 (by decide) f_731 0 es731) (kw_J7_fill_53178 hts tw_590 ⟨by decide, by decide⟩) (preS_of hh hK) rfl rfl hl.1 rfl (lv_room (Nat.le_of_ble_eq_true rfl)) dX0_prepareRows_53 ⟨Nat.le_of_ble_eq_true rfl, Nat.le_of_ble_eq_true rfl⟩) hh hA (fun H locs en_732 hw_732 hh => ?_)
  obtain ⟨f_732, hen_732, hf9_732⟩ := hw_732
  have es729_732 : en_732 1 = .inr (7, [.ref (ad 2), .ref (ad 3), .ref (ad 10), .ref (ad 11), .int (nI cnt), .int (nI d), .int (nI mm)]) := by rw [hen_732, va_up_ne _ _ (by omega)]; exact es729
  have es730_732 : en_732 70 = .inr (0, [.ref (ad 1), .ref (ad 71), .ref (ad 72), .ref (ad 73), .ref (ad ka), .ref (ad kb), .ref (ad kc), .int (nI sta_730), .int (nI cc_730), .int (nI ct_730), .int un_730, .int ow_730, .int (nI hn_730)]) := by rw [hen_732, va_up_ne _ _ (by omega)]; exact es730
  have es731_732 : en_732 kc = .inl (cy 0, 4096, .inl f_732) := by rw [hen_732]; exact va_up_self _ _ _
  have hI_732 : SC cy cs ad ka kb kc en_732 := by rw [hen_732]; exact up2_ec hI ⟨f_732, rfl, (fun i hi => ⟨0, by decide, hf9_732 i hi⟩)⟩
  have hf_732 : ∀ c, ((c < 70 ∨ 74 ≤ c) ∧ c ≠ ka ∧ c ≠ kb ∧ c ≠ kc) → en_732 c = en c := fun c hc => Eq.trans (show en_732 c = en c from by rw [hen_732, va_up_ne _ _ (by omega)]) (hf0 c hc)
  refine lv_aload_n hx hb dX0_prepareRows_56 rfl (lv_at hl 0 rfl) ?_
  refine lv_aload_n hx hb dX0_prepareRows_57 rfl (lv_at hl 0 rfl) ?_
  refine hp_get hx hb hts ix0 hown hK hh (q := 70) rfl (hI.1.1 _ (by decide)) es730_732 rfl 0 (by decide) (hts _ tw_147) (fun _ h9 => h9) rfl dX0_prepareRows_58 ?_
  refine hp_callRi (va_runV (As := []) (rest := [.ref (ad 70)]) ⟨hx, hb, hml, hown, hts⟩ (c_X8_cellCount l D cy _ cs ad en_732 (hI.1.1 _ (by decide)) cnt d mm hcnt hd2 hd3 hmm  es729_732) (kw_X8_cellCount hts tw_591 ⟨by decide, by decide⟩) (preV_of hh hK (hI.1.1 _ (by decide)) es729_732 rfl) rfl rfl hl.1 rfl (lv_room (Nat.le_of_ble_eq_true rfl)) dX0_prepareRows_61 ⟨Nat.le_of_ble_eq_true rfl, Nat.le_of_ble_eq_true rfl⟩) hh hA (fun r_733 H locs hw_733 hh => ?_)
  obtain rfl : r_733 = nI (d * d) := hw_733
  refine hp_put hx hb hts ix0 tyX0 tyX0_ok nmX0 hown hK hh (q := 70) rfl (hI.1.1 _ (by decide)) es730_732 rfl 8 (by decide) (hts _ tw_155) (fun _ h9 => h9) rfl (ty := .int) (by decide +kernel) rfl rfl (Nat.le_of_ble_eq_true rfl) dX0_prepareRows_64 (fun H locs en_734 hen_734 hh => ?_)
  have es729_734 : en_734 1 = .inr (7, [.ref (ad 2), .ref (ad 3), .ref (ad 10), .ref (ad 11), .int (nI cnt), .int (nI d), .int (nI mm)]) := by rw [hen_734, va_up_ne _ _ (by decide)]; exact es729_732
  have es731_734 : en_734 kc = .inl (cy 0, 4096, .inl f_732) := by rw [hen_734, va_up_ne _ _ (by omega)]; exact es731_732
  have es730_734 : en_734 70 = .inr (0, [.ref (ad 1), .ref (ad 71), .ref (ad 72), .ref (ad 73), .ref (ad ka), .ref (ad kb), .ref (ad kc), .int (nI sta_730), .int (nI (d * d)), .int (nI ct_730), .int un_730, .int ow_730, .int (nI hn_730)]) := by rw [hen_734]; exact va_up_self _ _ _
  have hI_734 : SC cy cs ad ka kb kc en_734 := by rw [hen_734]; exact up2_C hI_732 ⟨sta_730, (d * d), ct_730, un_730, ow_730, hn_730, rfl, p0_730, (by omega), p2_730, p3_730⟩
  have hf_734 : ∀ c, ((c < 70 ∨ 74 ≤ c) ∧ c ≠ ka ∧ c ≠ kb ∧ c ≠ kc) → en_734 c = en c := fun c hc => Eq.trans (show en_734 c = en_732 c from by rw [hen_734, va_up_ne _ _ (by omega)]) (hf_732 c hc)
  refine lv_aload_n hx hb dX0_prepareRows_67 rfl (lv_at hl 0 rfl) ?_
  refine lv_iconst (v := 0) hx hb dX0_prepareRows_68 (by decide) ?_
  refine hp_put hx hb hts ix0 tyX0 tyX0_ok nmX0 hown hK hh (q := 70) rfl (hI.1.1 _ (by decide)) es730_734 rfl 9 (by decide) (hts _ tw_156) (fun _ h9 => h9) rfl (ty := .int) (by decide +kernel) rfl rfl (Nat.le_of_ble_eq_true rfl) dX0_prepareRows_69 (fun H locs en_735 hen_735 hh => ?_)
  have es729_735 : en_735 1 = .inr (7, [.ref (ad 2), .ref (ad 3), .ref (ad 10), .ref (ad 11), .int (nI cnt), .int (nI d), .int (nI mm)]) := by rw [hen_735, va_up_ne _ _ (by decide)]; exact es729_734
  have es731_735 : en_735 kc = .inl (cy 0, 4096, .inl f_732) := by rw [hen_735, va_up_ne _ _ (by omega)]; exact es731_734
  have es730_735 : en_735 70 = .inr (0, [.ref (ad 1), .ref (ad 71), .ref (ad 72), .ref (ad 73), .ref (ad ka), .ref (ad kb), .ref (ad kc), .int (nI sta_730), .int (nI (d * d)), .int 0, .int un_730, .int ow_730, .int (nI hn_730)]) := by rw [hen_735]; exact va_up_self _ _ _
  have hI_735 : SC cy cs ad ka kb kc en_735 := by rw [hen_735]; exact up2_C hI_734 ⟨sta_730, (d * d), 0, un_730, ow_730, hn_730, rfl, p0_730, (by omega), (by omega), p3_730⟩
  have hf_735 : ∀ c, ((c < 70 ∨ 74 ≤ c) ∧ c ≠ ka ∧ c ≠ kb ∧ c ≠ kc) → en_735 c = en c := fun c hc => Eq.trans (show en_735 c = en_734 c from by rw [hen_735, va_up_ne _ _ (by omega)]) (hf_734 c hc)
  exact hp_vretM hx hb hr hlocks hh (⟨hI_735, hf_735⟩) dX0_prepareRows_72
theorem kw_X0_prepareRows {R : Room} {s : State} {args : Array Value} {own : String} {idx : Nat} (hts : ∀ w ∈ TB, w.before args s = true) (hl : Cond.methodLink own idx yX0_prepareRows ∈ TB) (hR : 1 + 1 ≤ R.frames ∧ 8 + (1 + 11) + 40 * 1 ≤ R.locals) : CallW R s args own RX0 idx yX0_prepareRows cX0_prepareRows 1 none (Cond.code yX0_prepareRows cX0_prepareRows 1 none :: TB) (rmN 1) 0 0 0 := cwV 0 hts (TB_V hl tw_588 ts_14 tw_5 tw_589) rfl rfl rfl (by decide +kernel) hR
set_option maxHeartbeats 4000000 in
set_option maxRecDepth 100000 in
/-- findAll -/
theorem c_X0_findAll (l : Launch) (D : va_G) (cy : Nat → ClassId) (sz : Nat) (cs : List Nat) (ad : Nat → Nat) (en : Nat → va_E) {ka kb kc : Nat} (hI : SC cy cs ad ka kb kc en)    : Met l yX0_findAll (Cond.code yX0_findAll cX0_findAll 2 (some .boolean) :: TB) (rmN 4) (va_Pc [.ref (ad 70)] (Pre D cy cs ad en sz)) (va_Qi (S := Nat → va_E) (fun r en1 => SC cy cs ad ka kb kc en1 ∧ (∀ c, ((c < 70 ∨ 74 ≤ c) ∧ c ≠ ka ∧ c ≠ kb ∧ c ≠ kc) → en1 c = en c) ∧ (r = 0 ∨ r = 1)) (PostM D cs ad) (Af cs ad sz)) 0 0 (Af cs ad sz) := by
  refine Met.ofW (cc := cX0_findAll) (maxL := 2) (ret := (some .boolean)) (by decide) rfl ?_
  intro p e s m args below meth c s₁ B hml hv
  obtain ⟨rfl, hsz, hP, hK, hD0⟩ := hv
  have hx := B.exec
  have hb := B.bytes
  have hr := B.returns
  have hts : ∀ w ∈ TB, w.before _ s = true := fun w h => atoms_spec (ws := _ :: TB) B.pre w (List.mem_cons_of_mem _ h)
  have hown : s.vm.findClass RX0 = some m.cls := findClass_of_methodNamed B.named
  have hlocks := B.notSynchronized
  have hh : Hp D (Af cs ad sz) (Af cs ad sz) s.heap s.heap [] cs ad en := ⟨hP, Af_self hD0, va_S.rf⟩
  have hA : ∀ q : Nat, s.heap.size ≤ q → Af cs ad sz q := fun q h => Or.inr (by rw [hsz] at h; exact h)
  have hl := lv_entry ([.ref (ad 70)]) (n := 2) (Nat.le_of_ble_eq_true rfl)
  rw [lg_entry_eq]
  generalize (lg_sl ([.ref (ad 70)]) ++ List.replicate (2 - (lg_sl ([.ref (ad 70)])).length) Slot.unset).toArray = ls at hl ⊢
  have hl : lv_has ls 2 [(0, .ref (ad 70))] := hl
  have hka1 : 115 ≤ ka := hI.2.1.2.2.2.1
  have hka2 : ka < kb := hI.2.1.2.2.2.2.1
  have hka3 : kb < kc := hI.2.1.2.2.2.2.2
  have hf0 : ∀ c, ((c < 70 ∨ 74 ≤ c) ∧ c ≠ ka ∧ c ≠ kb ∧ c ≠ kc) → en c = en c := fun _ _ => rfl
  obtain ⟨cnt, d, mm, es736, hcnt, hd2, hd3, hmm⟩ := get2_T hI
  obtain ⟨sta_737, cc_737, ct_737, un_737, ow_737, hn_737, es737, p0_737, p1_737, p2_737, p3_737⟩ := get2_C hI
  refine lv_aload_n hx hb dX0_findAll_0 rfl (lv_at hl 0 rfl) ?_
  refine hp_callMv (va_runV (As := []) (rest := []) ⟨hx, hb, hml, hown, hts⟩ (c_X0_prepareRows l D cy _ cs ad en hI  ) (kw_X0_prepareRows hts tw_586 ⟨by decide, by decide⟩) (preV_of hh hK (hI.1.1 _ (by decide)) es737 rfl) rfl rfl hl.1 rfl (lv_room (Nat.le_of_ble_eq_true rfl)) dX0_findAll_1 ⟨Nat.le_of_ble_eq_true rfl, Nat.le_of_ble_eq_true rfl⟩) hh hA (fun H locs en_738 hw_738 hh => ?_)
  obtain ⟨hI_738, hu_738⟩ := hw_738
  have hf_738 : ∀ c, ((c < 70 ∨ 74 ≤ c) ∧ c ≠ ka ∧ c ≠ kb ∧ c ≠ kc) → en_738 c = en c := fun c hc => (hu_738 c (by omega)).trans (hf0 c hc)
  refine lv_iconst (v := 0) hx hb dX0_findAll_4 (by decide) ?_
  refine lv_istore_n (lv' := [(1, .int 0), (0, .ref (ad 70))]) hx hb dX0_findAll_5 rfl hl (by decide) rfl (fun ls hl => ?_)
  have loop_739 : ∀ (fu j739 : Nat)  (en_739 : Nat → va_E) (ls : Array Slot) (H : Heap) (locs : List Loc), 0 ≤ j739 → j739 ≤ cnt → cnt < j739 + fu → SC cy cs ad ka kb kc en_739 → (∀ c, ((c < 70 ∨ 74 ≤ c) ∧ c ≠ ka ∧ c ≠ kb ∧ c ≠ kc) → en_739 c = en c) →  lv_has ls 2 [(1, .int (nI j739)), (0, .ref (ad 70))] → Hp D (Af cs ad sz) (Af cs ad sz) s.heap H locs cs ad en_739 → W p l e (headSpec (Cond.code yX0_findAll cX0_findAll 2 (some .boolean) :: TB) (rmN 4)).room s m ([.ref (ad 70)] : List Value).toArray below meth c H locs 0 0 (MQ below (va_Qi (S := Nat → va_E) (fun r en1 => SC cy cs ad ka kb kc en1 ∧ (∀ c, ((c < 70 ∨ 74 ≤ c) ∧ c ≠ ka ∧ c ≠ kb ∧ c ≠ kc) → en1 c = en c) ∧ (r = 0 ∨ r = 1)) (PostM D cs ad) (Af cs ad sz)) ([.ref (ad 70)] : List Value).toArray s 0 0 (Af cs ad sz)) (F0 m 6 ls []) := by
    intro fu
    induction fu with
    | zero => intro j739  en_739 ls H locs h0 h1 h2; exact absurd h2 (by omega)
    | succ fu ih_739 =>
      intro j739  en_739 ls H locs hj0_739 hj_739 hfu_739 hI_739 hf_739  hl hh
      refine lv_iload_n hx hb dX0_findAll_6 rfl (lv_at hl 0 rfl) ?_
      refine lv_aload_n hx hb dX0_findAll_7 rfl (lv_at hl 1 rfl) ?_
      obtain ⟨sta_740, cc_740, ct_740, un_740, ow_740, hn_740, es740, p0_740, p1_740, p2_740, p3_740⟩ := get2_C hI_739
      refine hp_get hx hb hts ix0 hown hK hh (q := 70) rfl (hI.1.1 _ (by decide)) es740 rfl 0 (by decide) (hts _ tw_147) (fun _ h9 => h9) rfl dX0_findAll_8 ?_
      have es736_741 : en_739 1 = .inr (7, [.ref (ad 2), .ref (ad 3), .ref (ad 10), .ref (ad 11), .int (nI cnt), .int (nI d), .int (nI mm)]) := (hf_739 1 (by omega)).trans es736
      refine hp_callRi (va_runV (As := []) (rest := [.int (nI j739)]) ⟨hx, hb, hml, hown, hts⟩ (c_X8_count l D cy _ cs ad en_739 (hI.1.1 _ (by decide)) cnt d mm hcnt hd2 hd3 hmm  es736_741) (kw_X8_count hts tw_592 ⟨by decide, by decide⟩) (preV_of hh hK (hI.1.1 _ (by decide)) es736_741 rfl) rfl rfl hl.1 rfl (lv_room (Nat.le_of_ble_eq_true rfl)) dX0_findAll_11 ⟨Nat.le_of_ble_eq_true rfl, Nat.le_of_ble_eq_true rfl⟩) hh hA (fun r_742 H locs hw_742 hh => ?_)
      obtain rfl : r_742 = (nI cnt) := hw_742
      refine lv_icmp_ge (tgt := 41) hx hb dX0_findAll_14 (by decide) (fun c_743 => ?_) (fun c_743 => ?_)
      · have n_743 : cnt ≤ j739 := n_le (a := cnt) (b := j739) c_743 (by omega) (by omega)
        refine lv_iconst (v := 0) hx hb dX0_findAll_41 (by decide) ?_
        refine lv_istore_n (lv' := [(1, .int 0), (0, .ref (ad 70))]) hx hb dX0_findAll_42 rfl hl (by decide) rfl (fun ls hl => ?_)
        have loop_744 : ∀ (fu j744 : Nat)  (en_744 : Nat → va_E) (ls : Array Slot) (H : Heap) (locs : List Loc), 0 ≤ j744 → j744 ≤ 2000 → 2000 < j744 + fu → SC cy cs ad ka kb kc en_744 → (∀ c, ((c < 70 ∨ 74 ≤ c) ∧ c ≠ ka ∧ c ≠ kb ∧ c ≠ kc) → en_744 c = en c) →  lv_has ls 2 [(1, .int (nI j744)), (0, .ref (ad 70))] → Hp D (Af cs ad sz) (Af cs ad sz) s.heap H locs cs ad en_744 → W p l e (headSpec (Cond.code yX0_findAll cX0_findAll 2 (some .boolean) :: TB) (rmN 4)).room s m ([.ref (ad 70)] : List Value).toArray below meth c H locs 0 0 (MQ below (va_Qi (S := Nat → va_E) (fun r en1 => SC cy cs ad ka kb kc en1 ∧ (∀ c, ((c < 70 ∨ 74 ≤ c) ∧ c ≠ ka ∧ c ≠ kb ∧ c ≠ kc) → en1 c = en c) ∧ (r = 0 ∨ r = 1)) (PostM D cs ad) (Af cs ad sz)) ([.ref (ad 70)] : List Value).toArray s 0 0 (Af cs ad sz)) (F0 m 43 ls []) := by
          intro fu
          induction fu with
          | zero => intro j744  en_744 ls H locs h0 h1 h2; exact absurd h2 (by omega)
          | succ fu ih_744 =>
            intro j744  en_744 ls H locs hj0_744 hj_744 hfu_744 hI_744 hf_744  hl hh
            refine lv_iload_n hx hb dX0_findAll_43 rfl (lv_at hl 0 rfl) ?_
            refine lv_aload_n hx hb dX0_findAll_44 rfl (lv_at hl 1 rfl) ?_
            obtain ⟨sta_745, cc_745, ct_745, un_745, ow_745, hn_745, es745, p0_745, p1_745, p2_745, p3_745⟩ := get2_C hI_744
            refine hp_get hx hb hts ix0 hown hK hh (q := 70) rfl (hI.1.1 _ (by decide)) es745 rfl 9 (by decide) (hts _ tw_156) (fun _ h9 => h9) rfl dX0_findAll_45 ?_
            refine lv_icmp_ge (tgt := 74) hx hb dX0_findAll_48 (by decide) (fun c_746 => ?_) (fun c_746 => ?_)
            · have n_746 : ct_745 ≤ j744 := n_le (a := ct_745) (b := j744) c_746 (by omega) (by omega)
              refine lv_aload_n hx hb dX0_findAll_74 rfl (lv_at hl 1 rfl) ?_
              refine hp_callMv (va_runV (As := []) (rest := []) ⟨hx, hb, hml, hown, hts⟩ (c_X0_sumUp l D cy _ cs ad en_744 hI_744  ) (kw_X0_sumUp hts tw_627 ⟨by decide, by decide⟩) (preV_of hh hK (hI.1.1 _ (by decide)) es745 rfl) rfl rfl hl.1 rfl (lv_room (Nat.le_of_ble_eq_true rfl)) dX0_findAll_75 ⟨Nat.le_of_ble_eq_true rfl, Nat.le_of_ble_eq_true rfl⟩) hh hA (fun H locs en_747 hw_747 hh => ?_)
              obtain ⟨hI_747, hu_747⟩ := hw_747
              have hf_747 : ∀ c, ((c < 70 ∨ 74 ≤ c) ∧ c ≠ ka ∧ c ≠ kb ∧ c ≠ kc) → en_747 c = en c := fun c hc => (hu_747 c (by omega)).trans (hf_744 c hc)
              refine lv_iconst (v := 1) hx hb dX0_findAll_78 (by decide) ?_
              exact hp_iretM hx hb hr rfl hlocks hh (⟨hI_747, hf_747, Or.inr rfl⟩) dX0_findAll_79
            · have n_746 : j744 < ct_745 := n_nle (a := ct_745) (b := j744) c_746 (by omega) (by omega)
              refine lv_iload_n hx hb dX0_findAll_51 rfl (lv_at hl 0 rfl) ?_
              refine lv_sipush (v := 2000) hx hb dX0_findAll_52 (by decide) ?_
              refine lv_icmp_ge (tgt := 74) hx hb dX0_findAll_55 (by decide) (fun c_748 => ?_) (fun c_748 => ?_)
              · have n_748 : 2000 ≤ j744 := n_le (a := 2000) (b := j744) c_748 (by decide) (by omega)
                refine lv_aload_n hx hb dX0_findAll_74 rfl (lv_at hl 1 rfl) ?_
                refine hp_callMv (va_runV (As := []) (rest := []) ⟨hx, hb, hml, hown, hts⟩ (c_X0_sumUp l D cy _ cs ad en_744 hI_744  ) (kw_X0_sumUp hts tw_627 ⟨by decide, by decide⟩) (preV_of hh hK (hI.1.1 _ (by decide)) es745 rfl) rfl rfl hl.1 rfl (lv_room (Nat.le_of_ble_eq_true rfl)) dX0_findAll_75 ⟨Nat.le_of_ble_eq_true rfl, Nat.le_of_ble_eq_true rfl⟩) hh hA (fun H locs en_749 hw_749 hh => ?_)
                obtain ⟨hI_749, hu_749⟩ := hw_749
                have hf_749 : ∀ c, ((c < 70 ∨ 74 ≤ c) ∧ c ≠ ka ∧ c ≠ kb ∧ c ≠ kc) → en_749 c = en c := fun c hc => (hu_749 c (by omega)).trans (hf_744 c hc)
                refine lv_iconst (v := 1) hx hb dX0_findAll_78 (by decide) ?_
                exact hp_iretM hx hb hr rfl hlocks hh (⟨hI_749, hf_749, Or.inr rfl⟩) dX0_findAll_79
              · have n_748 : j744 < 2000 := n_nle (a := 2000) (b := j744) c_748 (by decide) (by omega)
                refine lv_aload_n hx hb dX0_findAll_58 rfl (lv_at hl 1 rfl) ?_
                refine lv_iload_n hx hb dX0_findAll_59 rfl (lv_at hl 0 rfl) ?_
                refine hp_callMi (va_runV (As := [.int (nI j744)]) (rest := []) ⟨hx, hb, hml, hown, hts⟩ (c_X0_extendByLetters l D cy _ cs ad en_744 hI_744 j744 (by omega)) (kw_X0_extendByLetters hts tw_618 ⟨by decide, by decide⟩) (preV_of hh hK (hI.1.1 _ (by decide)) es745 rfl) rfl rfl hl.1 rfl (lv_room (Nat.le_of_ble_eq_true rfl)) dX0_findAll_60 ⟨Nat.le_of_ble_eq_true rfl, Nat.le_of_ble_eq_true rfl⟩) hh hA (fun r_750 H locs en_750 hw_750 hh => ?_)
                obtain ⟨hI_750, hu_750, hx_750⟩ := hw_750
                have hf_750 : ∀ c, ((c < 70 ∨ 74 ≤ c) ∧ c ≠ ka ∧ c ≠ kb ∧ c ≠ kc) → en_750 c = en c := fun c hc => (hu_750 c (by omega)).trans (hf_744 c hc)
                have hw_750 := hx_750
                rcases hw_750 with hb_750 | hb_750
                · obtain rfl : r_750 = 0 := hb_750
                  refine lv_if_ne (tgt := 68) hx hb dX0_findAll_63 (by decide) (fun c_0 => absurd c_0 (by decide)) (fun _ => ?_)
                  refine lv_iconst (v := 0) hx hb dX0_findAll_66 (by decide) ?_
                  exact hp_iretM hx hb hr rfl hlocks hh (⟨hI_750, hf_750, Or.inl rfl⟩) dX0_findAll_67
                · obtain rfl : r_750 = 1 := hb_750
                  refine lv_if_ne (tgt := 68) hx hb dX0_findAll_63 (by decide) (fun _ => ?_) (fun c_0 => absurd c_0 (by decide))
                  refine lv_iinc (v := (nI (j744 + 1))) (lv' := [(1, .int (nI (j744 + 1))), (0, .ref (ad 70))]) hx hb dX0_findAll_68 hl (k := 0) rfl (nI_1 _) (by decide) rfl (fun ls hl => ?_)
                  refine lv_goto (tgt := 43) hx hb dX0_findAll_71 (by decide) ?_
                  exact ih_744 ((j744 + 1))  en_750 ls H locs (by omega) (by omega) (by omega) hI_750 hf_750  (lv_sub hl [0, 1] rfl) hh
        exact loop_744 (2000 + 1) 0  en_739 ls _ _ (Nat.le_refl _) (by omega) (by omega) hI_739 hf_739  (lv_sub hl [0, 1] rfl) hh
      · have n_743 : j739 < cnt := n_nle (a := cnt) (b := j739) c_743 (by omega) (by omega)
        refine lv_aload_n hx hb dX0_findAll_17 rfl (lv_at hl 1 rfl) ?_
        refine lv_aload_n hx hb dX0_findAll_18 rfl (lv_at hl 1 rfl) ?_
        refine hp_get hx hb hts ix0 hown hK hh (q := 70) rfl (hI.1.1 _ (by decide)) es740 rfl 0 (by decide) (hts _ tw_147) (fun _ h9 => h9) rfl dX0_findAll_19 ?_
        refine lv_iload_n hx hb dX0_findAll_22 rfl (lv_at hl 0 rfl) ?_
        have es751 := get2_rows hI_739
        unfold P_rows at es751
        refine hp_callRq (va_runV (As := [.int (nI j739)]) (rest := [.ref (ad 70)]) ⟨hx, hb, hml, hown, hts⟩ (c_X8_rowOf l D cy _ cs ad en_739 (hI.1.1 _ (by decide)) (hI.1.1 _ (by decide)) cnt d mm hcnt hd2 hd3 hmm j739 (by omega) es736_741 es751) (kw_X8_rowOf hts tw_593 ⟨by decide, by decide⟩) (preV_of hh hK (hI.1.1 _ (by decide)) es736_741 rfl) rfl rfl hl.1 rfl (lv_room (Nat.le_of_ble_eq_true rfl)) dX0_findAll_23 ⟨Nat.le_of_ble_eq_true rfl, Nat.le_of_ble_eq_true rfl⟩) hh hA (fun r_752 H locs hw_752 hh => ?_)
        obtain rfl : r_752 = some (ad (4 + j739)) := hw_752
        refine W.eq (g2 := F0 m 26 ls [.ref (ad (4 + j739)), .ref (ad 70)]) rfl ?_
        refine lv_iconst (v := 1) hx hb dX0_findAll_26 (by decide) ?_
        obtain ⟨f_753, es753⟩ := get2_row hI_739 (j := j739) (by omega)
        refine hp_callMi (va_runV (As := [.ref (ad (4 + j739)), .int 1]) (rest := []) ⟨hx, hb, hml, hown, hts⟩ (c_X0_take l D cy _ cs ad en_739 hI_739 (4 + j739) (hI.1.1 _ (by omega)) (by omega) f_753 1 es753) (kw_X0_take hts tw_594 ⟨by decide, by decide⟩) (preV_of hh hK (hI.1.1 _ (by decide)) es740 rfl) rfl rfl hl.1 rfl (lv_room (Nat.le_of_ble_eq_true rfl)) dX0_findAll_27 ⟨Nat.le_of_ble_eq_true rfl, Nat.le_of_ble_eq_true rfl⟩) hh hA (fun r_754 H locs en_754 hw_754 hh => ?_)
        obtain ⟨hI_754, hu_754, hx_754⟩ := hw_754
        have hf_754 : ∀ c, ((c < 70 ∨ 74 ≤ c) ∧ c ≠ ka ∧ c ≠ kb ∧ c ≠ kc) → en_754 c = en c := fun c hc => (hu_754 c (by omega)).trans (hf_739 c hc)
        have hw_754 := hx_754
        rcases hw_754 with hb_754 | hb_754
        · obtain rfl : r_754 = 0 := hb_754
          refine lv_if_ne (tgt := 35) hx hb dX0_findAll_30 (by decide) (fun c_0 => absurd c_0 (by decide)) (fun _ => ?_)
          refine lv_iconst (v := 0) hx hb dX0_findAll_33 (by decide) ?_
          exact hp_iretM hx hb hr rfl hlocks hh (⟨hI_754, hf_754, Or.inl rfl⟩) dX0_findAll_34
        · obtain rfl : r_754 = 1 := hb_754
          refine lv_if_ne (tgt := 35) hx hb dX0_findAll_30 (by decide) (fun _ => ?_) (fun c_0 => absurd c_0 (by decide))
          refine lv_iinc (v := (nI (j739 + 1))) (lv' := [(1, .int (nI (j739 + 1))), (0, .ref (ad 70))]) hx hb dX0_findAll_35 hl (k := 0) rfl (nI_1 _) (by decide) rfl (fun ls hl => ?_)
          refine lv_goto (tgt := 6) hx hb dX0_findAll_38 (by decide) ?_
          exact ih_739 ((j739 + 1))  en_754 ls H locs (by omega) (by omega) (by omega) hI_754 hf_754  (lv_sub hl [0, 1] rfl) hh
  exact loop_739 (cnt + 1) 0  en_738 ls _ _ (Nat.le_refl _) (by omega) (by omega) hI_738 hf_738  (lv_sub hl [0, 1] rfl) hh
theorem kw_X0_findAll {R : Room} {s : State} {args : Array Value} {own : String} {idx : Nat} (hts : ∀ w ∈ TB, w.before args s = true) (hl : Cond.methodLink own idx yX0_findAll ∈ TB) (hR : 4 + 1 ≤ R.frames ∧ 8 + (2 + 11) + 40 * 4 ≤ R.locals) : CallW R s args own RX0 idx yX0_findAll cX0_findAll 2 (some .boolean) (Cond.code yX0_findAll cX0_findAll 2 (some .boolean) :: TB) (rmN 4) 0 0 0 := cwV 0 hts (TB_V hl tw_584 ts_13 tw_5 tw_585) rfl rfl rfl (by decide +kernel) hR
set_option maxHeartbeats 4000000 in
set_option maxRecDepth 100000 in
/-- search -/
theorem c_X0_search (l : Launch) (D : va_G) (cy : Nat → ClassId) (sz : Nat) (cs : List Nat) (ad : Nat → Nat) (en : Nat → va_E) {ka kb kc : Nat} (hI : SC cy cs ad ka kb kc en)    : Met l yX0_search (Cond.code yX0_search cX0_search 1 (some .int) :: TB) (rmN 5) (va_Pc [.ref (ad 70)] (Pre D cy cs ad en sz)) (va_Qi (S := Nat → va_E) (fun r en1 => SC cy cs ad ka kb kc en1 ∧ (∀ c, ((c < 70 ∨ 74 ≤ c) ∧ c ≠ ka ∧ c ≠ kb ∧ c ≠ kc) → en1 c = en c)) (PostM D cs ad) (Af cs ad sz)) 0 0 (Af cs ad sz) := by
  refine Met.ofW (cc := cX0_search) (maxL := 1) (ret := (some .int)) (by decide) rfl ?_
  intro p e s m args below meth c s₁ B hml hv
  obtain ⟨rfl, hsz, hP, hK, hD0⟩ := hv
  have hx := B.exec
  have hb := B.bytes
  have hr := B.returns
  have hts : ∀ w ∈ TB, w.before _ s = true := fun w h => atoms_spec (ws := _ :: TB) B.pre w (List.mem_cons_of_mem _ h)
  have hown : s.vm.findClass RX0 = some m.cls := findClass_of_methodNamed B.named
  have hlocks := B.notSynchronized
  have hh : Hp D (Af cs ad sz) (Af cs ad sz) s.heap s.heap [] cs ad en := ⟨hP, Af_self hD0, va_S.rf⟩
  have hA : ∀ q : Nat, s.heap.size ≤ q → Af cs ad sz q := fun q h => Or.inr (by rw [hsz] at h; exact h)
  have hl := lv_entry ([.ref (ad 70)]) (n := 1) (Nat.le_of_ble_eq_true rfl)
  rw [lg_entry_eq]
  generalize (lg_sl ([.ref (ad 70)]) ++ List.replicate (1 - (lg_sl ([.ref (ad 70)])).length) Slot.unset).toArray = ls at hl ⊢
  have hl : lv_has ls 1 [(0, .ref (ad 70))] := hl
  have hka1 : 115 ≤ ka := hI.2.1.2.2.2.1
  have hka2 : ka < kb := hI.2.1.2.2.2.2.1
  have hka3 : kb < kc := hI.2.1.2.2.2.2.2
  have hf0 : ∀ c, ((c < 70 ∨ 74 ≤ c) ∧ c ≠ ka ∧ c ≠ kb ∧ c ≠ kc) → en c = en c := fun _ _ => rfl
  obtain ⟨cnt, d, mm, es755, hcnt, hd2, hd3, hmm⟩ := get2_T hI
  obtain ⟨sta_756, cc_756, ct_756, un_756, ow_756, hn_756, es756, p0_756, p1_756, p2_756, p3_756⟩ := get2_C hI
  refine lv_aload_n hx hb dX0_search_0 rfl (lv_at hl 0 rfl) ?_
  refine hp_get hx hb hts ix0 hown hK hh (q := 70) rfl (hI.1.1 _ (by decide)) es756 rfl 7 (by decide) (hts _ tw_154) (fun _ h9 => h9) rfl dX0_search_1 ?_
  refine lv_if_ne (tgt := 23) hx hb dX0_search_4 (by decide) (fun c_757 => ?_) (fun c_757 => ?_)
  · have n_757 : sta_756 ≠ 0 := n_neq (a := sta_756) (b := 0) c_757 (by omega) (by decide)
    refine lv_aload_n hx hb dX0_search_23 rfl (lv_at hl 0 rfl) ?_
    refine hp_get hx hb hts ix0 hown hK hh (q := 70) rfl (hI.1.1 _ (by decide)) es756 rfl 7 (by decide) (hts _ tw_154) (fun _ h9 => h9) rfl dX0_search_24 ?_
    refine lv_iconst (v := 1) hx hb dX0_search_27 (by decide) ?_
    refine lv_icmp_ne (tgt := 38) hx hb dX0_search_28 (by decide) (fun c_758 => ?_) (fun c_758 => ?_)
    · have n_758 : sta_756 ≠ 1 := n_neq (a := sta_756) (b := 1) c_758 (by omega) (by decide)
      refine lv_bipush (v := (-6)) hx hb dX0_search_38 (by decide) ?_
      exact hp_iretM hx hb hr rfl hlocks hh (⟨hI, hf0⟩) dX0_search_40
    · have n_758 : sta_756 = 1 := n_eq (a := sta_756) (b := 1) c_758 (by omega) (by decide)
      refine lv_aload_n hx hb dX0_search_31 rfl (lv_at hl 0 rfl) ?_
      refine hp_get hx hb hts ix0 hown hK hh (q := 70) rfl (hI.1.1 _ (by decide)) es756 rfl 9 (by decide) (hts _ tw_156) (fun _ h9 => h9) rfl dX0_search_32 ?_
      refine lv_goto (tgt := 40) hx hb dX0_search_35 (by decide) ?_
      exact hp_iretM hx hb hr rfl hlocks hh (⟨hI, hf0⟩) dX0_search_40
  · have n_757 : sta_756 = 0 := n_eq (a := sta_756) (b := 0) c_757 (by omega) (by decide)
    refine lv_aload_n hx hb dX0_search_7 rfl (lv_at hl 0 rfl) ?_
    refine lv_aload_n hx hb dX0_search_8 rfl (lv_at hl 0 rfl) ?_
    refine hp_callMi (va_runV (As := []) (rest := [.ref (ad 70)]) ⟨hx, hb, hml, hown, hts⟩ (c_X0_findAll l D cy _ cs ad en hI  ) (kw_X0_findAll hts tw_582 ⟨by decide, by decide⟩) (preV_of hh hK (hI.1.1 _ (by decide)) es756 rfl) rfl rfl hl.1 rfl (lv_room (Nat.le_of_ble_eq_true rfl)) dX0_search_9 ⟨Nat.le_of_ble_eq_true rfl, Nat.le_of_ble_eq_true rfl⟩) hh hA (fun r_759 H locs en_759 hw_759 hh => ?_)
    obtain ⟨hI_759, hu_759, hx_759⟩ := hw_759
    have hf_759 : ∀ c, ((c < 70 ∨ 74 ≤ c) ∧ c ≠ ka ∧ c ≠ kb ∧ c ≠ kc) → en_759 c = en c := fun c hc => (hu_759 c (by omega)).trans (hf0 c hc)
    have hw_759 := hx_759
    rcases hw_759 with hb_759 | hb_759
    · obtain rfl : r_759 = 0 := hb_759
      refine lv_if_eq (tgt := 19) hx hb dX0_search_12 (by decide) (fun _ => ?_) (fun c_0 => absurd c_0 (by decide))
      refine lv_iconst (v := 2) hx hb dX0_search_19 (by decide) ?_
      obtain ⟨sta_760, cc_760, ct_760, un_760, ow_760, hn_760, es760, p0_760, p1_760, p2_760, p3_760⟩ := get2_C hI_759
      refine hp_put hx hb hts ix0 tyX0 tyX0_ok nmX0 hown hK hh (q := 70) rfl (hI.1.1 _ (by decide)) es760 rfl 7 (by decide) (hts _ tw_154) (fun _ h9 => h9) rfl (ty := .int) (by decide +kernel) rfl rfl (Nat.le_of_ble_eq_true rfl) dX0_search_20 (fun H locs en_761 hen_761 hh => ?_)
      have es760_761 : en_761 70 = .inr (0, [.ref (ad 1), .ref (ad 71), .ref (ad 72), .ref (ad 73), .ref (ad ka), .ref (ad kb), .ref (ad kc), .int 2, .int (nI cc_760), .int (nI ct_760), .int un_760, .int ow_760, .int (nI hn_760)]) := by rw [hen_761]; exact va_up_self _ _ _
      have hI_761 : SC cy cs ad ka kb kc en_761 := by rw [hen_761]; exact up2_C hI_759 ⟨2, cc_760, ct_760, un_760, ow_760, hn_760, rfl, (by omega), p1_760, p2_760, p3_760⟩
      have hf_761 : ∀ c, ((c < 70 ∨ 74 ≤ c) ∧ c ≠ ka ∧ c ≠ kb ∧ c ≠ kc) → en_761 c = en c := fun c hc => Eq.trans (show en_761 c = en_759 c from by rw [hen_761, va_up_ne _ _ (by omega)]) (hf_759 c hc)
      refine lv_aload_n hx hb dX0_search_23 rfl (lv_at hl 0 rfl) ?_
      refine hp_get hx hb hts ix0 hown hK hh (q := 70) rfl (hI.1.1 _ (by decide)) es760_761 rfl 7 (by decide) (hts _ tw_154) (fun _ h9 => h9) rfl dX0_search_24 ?_
      refine lv_iconst (v := 1) hx hb dX0_search_27 (by decide) ?_
      refine lv_icmp_ne (tgt := 38) hx hb dX0_search_28 (by decide) (fun _ => ?_) (fun c_0 => absurd c_0 (by decide))
      refine lv_bipush (v := (-6)) hx hb dX0_search_38 (by decide) ?_
      exact hp_iretM hx hb hr rfl hlocks hh (⟨hI_761, hf_761⟩) dX0_search_40
    · obtain rfl : r_759 = 1 := hb_759
      refine lv_if_eq (tgt := 19) hx hb dX0_search_12 (by decide) (fun c_0 => absurd c_0 (by decide)) (fun _ => ?_)
      refine lv_iconst (v := 1) hx hb dX0_search_15 (by decide) ?_
      refine lv_goto (tgt := 20) hx hb dX0_search_16 (by decide) ?_
      obtain ⟨sta_762, cc_762, ct_762, un_762, ow_762, hn_762, es762, p0_762, p1_762, p2_762, p3_762⟩ := get2_C hI_759
      refine hp_put hx hb hts ix0 tyX0 tyX0_ok nmX0 hown hK hh (q := 70) rfl (hI.1.1 _ (by decide)) es762 rfl 7 (by decide) (hts _ tw_154) (fun _ h9 => h9) rfl (ty := .int) (by decide +kernel) rfl rfl (Nat.le_of_ble_eq_true rfl) dX0_search_20 (fun H locs en_763 hen_763 hh => ?_)
      have es762_763 : en_763 70 = .inr (0, [.ref (ad 1), .ref (ad 71), .ref (ad 72), .ref (ad 73), .ref (ad ka), .ref (ad kb), .ref (ad kc), .int 1, .int (nI cc_762), .int (nI ct_762), .int un_762, .int ow_762, .int (nI hn_762)]) := by rw [hen_763]; exact va_up_self _ _ _
      have hI_763 : SC cy cs ad ka kb kc en_763 := by rw [hen_763]; exact up2_C hI_759 ⟨1, cc_762, ct_762, un_762, ow_762, hn_762, rfl, (by omega), p1_762, p2_762, p3_762⟩
      have hf_763 : ∀ c, ((c < 70 ∨ 74 ≤ c) ∧ c ≠ ka ∧ c ≠ kb ∧ c ≠ kc) → en_763 c = en c := fun c hc => Eq.trans (show en_763 c = en_759 c from by rw [hen_763, va_up_ne _ _ (by omega)]) (hf_759 c hc)
      refine lv_aload_n hx hb dX0_search_23 rfl (lv_at hl 0 rfl) ?_
      refine hp_get hx hb hts ix0 hown hK hh (q := 70) rfl (hI.1.1 _ (by decide)) es762_763 rfl 7 (by decide) (hts _ tw_154) (fun _ h9 => h9) rfl dX0_search_24 ?_
      refine lv_iconst (v := 1) hx hb dX0_search_27 (by decide) ?_
      refine lv_icmp_ne (tgt := 38) hx hb dX0_search_28 (by decide) (fun c_0 => absurd c_0 (by decide)) (fun _ => ?_)
      refine lv_aload_n hx hb dX0_search_31 rfl (lv_at hl 0 rfl) ?_
      refine hp_get hx hb hts ix0 hown hK hh (q := 70) rfl (hI.1.1 _ (by decide)) es762_763 rfl 9 (by decide) (hts _ tw_156) (fun _ h9 => h9) rfl dX0_search_32 ?_
      refine lv_goto (tgt := 40) hx hb dX0_search_35 (by decide) ?_
      exact hp_iretM hx hb hr rfl hlocks hh (⟨hI_763, hf_763⟩) dX0_search_40
theorem kw_X0_search {R : Room} {s : State} {args : Array Value} {own : String} {idx : Nat} (hts : ∀ w ∈ TB, w.before args s = true) (hl : Cond.methodLink own idx yX0_search ∈ TB) (hR : 5 + 1 ≤ R.frames ∧ 8 + (1 + 11) + 40 * 5 ≤ R.locals) : CallW R s args own RX0 idx yX0_search cX0_search 1 (some .int) (Cond.code yX0_search cX0_search 1 (some .int) :: TB) (rmN 5) 0 0 0 := cwV 0 hts (TB_V hl tw_579 tw_580 tw_5 tw_581) rfl rfl rfl (by decide +kernel) hR
set_option maxHeartbeats 4000000 in
set_option maxRecDepth 100000 in
/-- close, the arrays made -/
theorem c_X11_close (l : Launch) (D : va_G) (cy : Nat → ClassId) (sz : Nat) (cs : List Nat) (ad : Nat → Nat) (en : Nat → va_E) {ka kb kc : Nat} (hI : SC cy cs ad ka kb kc en)    : Met l yX11_close (Cond.code yX11_close cX11_close 1 (some .int) :: TB) (rmN 6) (va_Pc [.ref (ad 0)] (Pre D cy cs ad en sz)) (va_Qi (S := Nat → va_E) (fun r en1 => SC cy cs ad ka kb kc en1 ∧ (∀ c, ((c < 70 ∨ 74 ≤ c) ∧ c ≠ ka ∧ c ≠ kb ∧ c ≠ kc) → en1 c = en c)) (PostM D cs ad) (Af cs ad sz)) 0 0 (Af cs ad sz) := by
  refine Met.ofW (cc := cX11_close) (maxL := 1) (ret := (some .int)) (by decide) rfl ?_
  intro p e s m args below meth c s₁ B hml hv
  obtain ⟨rfl, hsz, hP, hK, hD0⟩ := hv
  have hx := B.exec
  have hb := B.bytes
  have hr := B.returns
  have hts : ∀ w ∈ TB, w.before _ s = true := fun w h => atoms_spec (ws := _ :: TB) B.pre w (List.mem_cons_of_mem _ h)
  have hown : s.vm.findClass RX11 = some m.cls := findClass_of_methodNamed B.named
  have hlocks := B.notSynchronized
  have hh : Hp D (Af cs ad sz) (Af cs ad sz) s.heap s.heap [] cs ad en := ⟨hP, Af_self hD0, va_S.rf⟩
  have hA : ∀ q : Nat, s.heap.size ≤ q → Af cs ad sz q := fun q h => Or.inr (by rw [hsz] at h; exact h)
  have hl := lv_entry ([.ref (ad 0)]) (n := 1) (Nat.le_of_ble_eq_true rfl)
  rw [lg_entry_eq]
  generalize (lg_sl ([.ref (ad 0)]) ++ List.replicate (1 - (lg_sl ([.ref (ad 0)])).length) Slot.unset).toArray = ls at hl ⊢
  have hl : lv_has ls 1 [(0, .ref (ad 0))] := hl
  have hka1 : 115 ≤ ka := hI.2.1.2.2.2.1
  have hka2 : ka < kb := hI.2.1.2.2.2.2.1
  have hka3 : kb < kc := hI.2.1.2.2.2.2.2
  have hf0 : ∀ c, ((c < 70 ∨ 74 ≤ c) ∧ c ≠ ka ∧ c ≠ kb ∧ c ≠ kc) → en c = en c := fun _ _ => rfl
  obtain ⟨wc_764, lf_764, es764, p0_764⟩ := get2_A hI
  obtain ⟨cnt, d, mm, es765, hcnt, hd2, hd3, hmm⟩ := get2_T hI
  refine lv_aload_n hx hb dX11_close_0 rfl (lv_at hl 0 rfl) ?_
  refine hp_get hx hb hts ix11 hown hK hh (q := 0) rfl (hI.1.1 _ (by decide)) es764 rfl 0 (by decide) (hts _ tw_245) (fun _ h9 => h9) rfl dX11_close_1 ?_
  refine hp_callRi (va_runV (As := []) (rest := []) ⟨hx, hb, hml, hown, hts⟩ (c_X8_count l D cy _ cs ad en (hI.1.1 _ (by decide)) cnt d mm hcnt hd2 hd3 hmm  es765) (kw_X8_count hts tw_318 ⟨by decide, by decide⟩) (preV_of hh hK (hI.1.1 _ (by decide)) es765 rfl) rfl rfl hl.1 rfl (lv_room (Nat.le_of_ble_eq_true rfl)) dX11_close_4 ⟨Nat.le_of_ble_eq_true rfl, Nat.le_of_ble_eq_true rfl⟩) hh hA (fun r_766 H locs hw_766 hh => ?_)
  obtain rfl : r_766 = (nI cnt) := hw_766
  refine lv_if_ne (tgt := 15) hx hb dX11_close_7 (by decide) (fun c_767 => ?_) (fun c_767 => ?_)
  · have n_767 : cnt ≠ 0 := n_neq (a := cnt) (b := 0) c_767 (by omega) (by decide)
    refine lv_aload_n hx hb dX11_close_15 rfl (lv_at hl 0 rfl) ?_
    refine hp_get hx hb hts ix11 hown hK hh (q := 0) rfl (hI.1.1 _ (by decide)) es764 rfl 2 (by decide) (hts _ tw_247) (fun _ h9 => h9) rfl dX11_close_16 ?_
    obtain ⟨sta_768, cc_768, ct_768, un_768, ow_768, hn_768, es768, p0_768, p1_768, p2_768, p3_768⟩ := get2_C hI
    refine hp_callMi (va_runV (As := []) (rest := []) ⟨hx, hb, hml, hown, hts⟩ (c_X0_search l D cy _ cs ad en hI  ) (kw_X0_search hts tw_578 ⟨by decide, by decide⟩) (preV_of hh hK (hI.1.1 _ (by decide)) es768 rfl) rfl rfl hl.1 rfl (lv_room (Nat.le_of_ble_eq_true rfl)) dX11_close_19 ⟨Nat.le_of_ble_eq_true rfl, Nat.le_of_ble_eq_true rfl⟩) hh hA (fun r_769 H locs en_769 hw_769 hh => ?_)
    obtain ⟨hI_769, hu_769⟩ := hw_769
    have hf_769 : ∀ c, ((c < 70 ∨ 74 ≤ c) ∧ c ≠ ka ∧ c ≠ kb ∧ c ≠ kc) → en_769 c = en c := fun c hc => (hu_769 c (by omega)).trans (hf0 c hc)
    exact hp_iretM hx hb hr rfl hlocks hh (⟨hI_769, hf_769⟩) dX11_close_22
  · have n_767 : cnt = 0 := n_eq (a := cnt) (b := 0) c_767 (by omega) (by decide)
    refine lv_bipush (v := (-3)) hx hb dX11_close_10 (by decide) ?_
    refine lv_goto (tgt := 22) hx hb dX11_close_12 (by decide) ?_
    exact hp_iretM hx hb hr rfl hlocks hh (⟨hI, hf0⟩) dX11_close_22
theorem kw_X11_close {R : Room} {s : State} {args : Array Value} {own : String} {idx : Nat} (hts : ∀ w ∈ TB, w.before args s = true) (hl : Cond.methodLink own idx yX11_close ∈ TB) (hR : 6 + 1 ≤ R.frames ∧ 8 + (1 + 11) + 40 * 6 ≤ R.locals) : CallW R s args own RX11 idx yX11_close cX11_close 1 (some .int) (Cond.code yX11_close cX11_close 1 (some .int) :: TB) (rmN 6) 0 0 0 := cwV 0 hts (TB_V hl tw_575 tw_576 tw_1 tw_577) rfl rfl rfl (by decide +kernel) hR
set_option maxHeartbeats 4000000 in
set_option maxRecDepth 100000 in
/-- entryAt -/
theorem c_X0_entryAt (l : Launch) (D : va_G) (cy : Nat → ClassId) (sz : Nat) (cs : List Nat) (ad : Nat → Nat) (en : Nat → va_E) {ka kb kc : Nat} (hI : SC cy cs ad ka kb kc en) (k i : Nat) (hk : k < 2000) (hi9 : i < 9)   : Met l yX0_entryAt (Cond.code yX0_entryAt cX0_entryAt 3 (some .long) :: TB) (rmN 0) (va_Pc [.ref (ad 70), .int (nI k), .int (nI i)] (Pre D cy cs ad en sz)) (va_Ql (S := Unit) (fun _ _ => True) (fun _ _ => True) (Nf sz)) 0 0 (Nf sz) := by
  refine Met.ofW (cc := cX0_entryAt) (maxL := 3) (ret := (some .long)) (by decide) rfl ?_
  intro p e s m args below meth c s₁ B hml hv
  obtain ⟨rfl, hsz, hP, hK, hD0⟩ := hv
  have hx := B.exec
  have hb := B.bytes
  have hr := B.returns
  have hts : ∀ w ∈ TB, w.before _ s = true := fun w h => atoms_spec (ws := _ :: TB) B.pre w (List.mem_cons_of_mem _ h)
  have hown : s.vm.findClass RX0 = some m.cls := findClass_of_methodNamed B.named
  have hlocks := B.notSynchronized
  have hh : Hp D (Nf sz) (fun _ => True) s.heap s.heap [] cs ad en := ⟨hP, hD0, va_S.rf⟩
  have hA : ∀ q : Nat, s.heap.size ≤ q → Nf sz q := fun q h => by rw [hsz] at h; exact h
  have hl := lv_entry ([.ref (ad 70), .int (nI k), .int (nI i)]) (n := 3) (Nat.le_of_ble_eq_true rfl)
  rw [lg_entry_eq]
  generalize (lg_sl ([.ref (ad 70), .int (nI k), .int (nI i)]) ++ List.replicate (3 - (lg_sl ([.ref (ad 70), .int (nI k), .int (nI i)])).length) Slot.unset).toArray = ls at hl ⊢
  have hl : lv_has ls 3 [(0, .ref (ad 70)), (1, .int (nI k)), (2, .int (nI i))] := hl
  have hka1 : 115 ≤ ka := hI.2.1.2.2.2.1
  have hka2 : ka < kb := hI.2.1.2.2.2.2.1
  have hka3 : kb < kc := hI.2.1.2.2.2.2.2
  obtain ⟨sta_770, cc_770, ct_770, un_770, ow_770, hn_770, es770, p0_770, p1_770, p2_770, p3_770⟩ := get2_C hI
  refine lv_aload_n hx hb dX0_entryAt_0 rfl (lv_at hl 0 rfl) ?_
  refine hp_get hx hb hts ix0 hown hK hh (q := 70) rfl (hI.1.1 _ (by decide)) es770 rfl 4 (by decide) (hts _ tw_151) (fun _ h9 => h9) rfl dX0_entryAt_1 ?_
  refine lv_iload_n hx hb dX0_entryAt_4 rfl (lv_at hl 1 rfl) ?_
  refine lv_bipush (v := 9) hx hb dX0_entryAt_5 (by decide) ?_
  refine lv_imul hx hb dX0_entryAt_7 ?_
  rw [show (9 : Int32) = nI 9 from rfl, pk_mul k 9]
  refine lv_iload_n hx hb dX0_entryAt_8 rfl (lv_at hl 2 rfl) ?_
  refine lv_iadd hx hb dX0_entryAt_9 ?_
  rw [nI_add (k * 9) i]
  obtain ⟨f_771, es771⟩ := get2_ea hI
  refine hp_lald hx hb hK hh (q := ka) rfl hI.2.1.1 es771 (vp_in_nI (n := ((k * 9) + i)) (by omega) (by decide)) dX0_entryAt_10 ?_
  rw [nI_clamp (n := ((k * 9) + i)) (by omega)]
  exact hp_lretR hx hb hr hlocks hsz hh (trivial) dX0_entryAt_11
theorem kw_X0_entryAt {R : Room} {s : State} {args : Array Value} {own : String} {idx : Nat} (hts : ∀ w ∈ TB, w.before args s = true) (hl : Cond.methodLink own idx yX0_entryAt ∈ TB) (hR : 0 + 1 ≤ R.frames ∧ 8 + (3 + 11) + 40 * 0 ≤ R.locals) : CallW R s args own RX0 idx yX0_entryAt cX0_entryAt 3 (some .long) (Cond.code yX0_entryAt cX0_entryAt 3 (some .long) :: TB) (rmN 0) 0 0 2 := cwV 2 hts (TB_V hl tw_662 tw_663 tw_5 tw_664) rfl rfl rfl (by decide +kernel) hR
set_option maxHeartbeats 4000000 in
set_option maxRecDepth 100000 in
/-- lastWordLength -/
theorem c_X0_lastWordLength (l : Launch) (D : va_G) (cy : Nat → ClassId) (sz : Nat) (cs : List Nat) (ad : Nat → Nat) (en : Nat → va_E) {ka kb kc : Nat} (hI : SC cy cs ad ka kb kc en)    : Met l yX0_lastWordLength (Cond.code yX0_lastWordLength cX0_lastWordLength 1 (some .int) :: TB) (rmN 0) (va_Pc [.ref (ad 70)] (Pre D cy cs ad en sz)) (va_Qi (S := Unit) (fun _ _ => True) (fun _ _ => True) (Nf sz)) 0 0 (Nf sz) := by
  refine Met.ofW (cc := cX0_lastWordLength) (maxL := 1) (ret := (some .int)) (by decide) rfl ?_
  intro p e s m args below meth c s₁ B hml hv
  obtain ⟨rfl, hsz, hP, hK, hD0⟩ := hv
  have hx := B.exec
  have hb := B.bytes
  have hr := B.returns
  have hts : ∀ w ∈ TB, w.before _ s = true := fun w h => atoms_spec (ws := _ :: TB) B.pre w (List.mem_cons_of_mem _ h)
  have hown : s.vm.findClass RX0 = some m.cls := findClass_of_methodNamed B.named
  have hlocks := B.notSynchronized
  have hh : Hp D (Nf sz) (fun _ => True) s.heap s.heap [] cs ad en := ⟨hP, hD0, va_S.rf⟩
  have hA : ∀ q : Nat, s.heap.size ≤ q → Nf sz q := fun q h => by rw [hsz] at h; exact h
  have hl := lv_entry ([.ref (ad 70)]) (n := 1) (Nat.le_of_ble_eq_true rfl)
  rw [lg_entry_eq]
  generalize (lg_sl ([.ref (ad 70)]) ++ List.replicate (1 - (lg_sl ([.ref (ad 70)])).length) Slot.unset).toArray = ls at hl ⊢
  have hl : lv_has ls 1 [(0, .ref (ad 70))] := hl
  have hka1 : 115 ≤ ka := hI.2.1.2.2.2.1
  have hka2 : ka < kb := hI.2.1.2.2.2.2.1
  have hka3 : kb < kc := hI.2.1.2.2.2.2.2
  obtain ⟨sta_772, cc_772, ct_772, un_772, ow_772, hn_772, es772, p0_772, p1_772, p2_772, p3_772⟩ := get2_C hI
  refine lv_aload_n hx hb dX0_lastWordLength_0 rfl (lv_at hl 0 rfl) ?_
  refine hp_get hx hb hts ix0 hown hK hh (q := 70) rfl (hI.1.1 _ (by decide)) es772 rfl 9 (by decide) (hts _ tw_156) (fun _ h9 => h9) rfl dX0_lastWordLength_1 ?_
  refine lv_if_le (tgt := 21) hx hb dX0_lastWordLength_4 (by decide) (fun c_773 => ?_) (fun c_773 => ?_)
  · have n_773 : ct_772 ≤ 0 := n_le (a := ct_772) (b := 0) c_773 (by omega) (by decide)
    refine lv_iconst (v := 0) hx hb dX0_lastWordLength_21 (by decide) ?_
    exact hp_iretR hx hb hr rfl hlocks hsz hh (trivial) dX0_lastWordLength_22
  · have n_773 : 0 < ct_772 := n_nle (a := ct_772) (b := 0) c_773 (by omega) (by decide)
    refine lv_aload_n hx hb dX0_lastWordLength_7 rfl (lv_at hl 0 rfl) ?_
    refine hp_get hx hb hts ix0 hown hK hh (q := 70) rfl (hI.1.1 _ (by decide)) es772 rfl 5 (by decide) (hts _ tw_152) (fun _ h9 => h9) rfl dX0_lastWordLength_8 ?_
    refine lv_aload_n hx hb dX0_lastWordLength_11 rfl (lv_at hl 0 rfl) ?_
    refine hp_get hx hb hts ix0 hown hK hh (q := 70) rfl (hI.1.1 _ (by decide)) es772 rfl 9 (by decide) (hts _ tw_156) (fun _ h9 => h9) rfl dX0_lastWordLength_12 ?_
    refine lv_iconst (v := 1) hx hb dX0_lastWordLength_15 (by decide) ?_
    refine lv_isub hx hb dX0_lastWordLength_16 ?_
    rw [show (1 : Int32) = nI 1 from rfl, pk_sub (a := ct_772) (b := 1) (by omega)]
    obtain ⟨f_774, es774⟩ := get2_eb hI
    refine hp_iald hx hb hK hh (q := kb) rfl hI.2.1.2.1 es774 (vp_in_nI (n := (ct_772 - 1)) (by omega) (by decide)) dX0_lastWordLength_17 ?_
    rw [nI_clamp (n := (ct_772 - 1)) (by omega)]
    refine lv_goto (tgt := 22) hx hb dX0_lastWordLength_18 (by decide) ?_
    exact hp_iretR hx hb hr rfl hlocks hsz hh (trivial) dX0_lastWordLength_22
theorem kw_X0_lastWordLength {R : Room} {s : State} {args : Array Value} {own : String} {idx : Nat} (hts : ∀ w ∈ TB, w.before args s = true) (hl : Cond.methodLink own idx yX0_lastWordLength ∈ TB) (hR : 0 + 1 ≤ R.frames ∧ 8 + (1 + 11) + 40 * 0 ≤ R.locals) : CallW R s args own RX0 idx yX0_lastWordLength cX0_lastWordLength 1 (some .int) (Cond.code yX0_lastWordLength cX0_lastWordLength 1 (some .int) :: TB) (rmN 0) 0 0 0 := cwV 0 hts (TB_V hl tw_649 tw_650 tw_5 tw_651) rfl rfl rfl (by decide +kernel) hR
set_option maxHeartbeats 4000000 in
set_option maxRecDepth 100000 in
/-- numberOfProduct -/
theorem c_X0_numberOfProduct (l : Launch) (D : va_G) (cy : Nat → ClassId) (sz : Nat) (cs : List Nat) (ad : Nat → Nat) (en : Nat → va_E) {ka kb kc : Nat} (hI : SC cy cs ad ka kb kc en) (k j : Nat) (hk : k < 2000) (hj : j < 2000)   : Met l yX0_numberOfProduct (Cond.code yX0_numberOfProduct cX0_numberOfProduct 4 (some .int) :: TB) (rmN 3) (va_Pc [.ref (ad 70), .int (nI k), .int (nI j)] (Pre D cy cs ad en sz)) (va_Qi (S := Nat → va_E) (fun r en1 => SC cy cs ad ka kb kc en1 ∧ (∀ c, (c < 71 ∨ 74 ≤ c) → en1 c = en c)) (PostM D cs ad) (Af cs ad sz)) 0 0 (Af cs ad sz) := by
  refine Met.ofW (cc := cX0_numberOfProduct) (maxL := 4) (ret := (some .int)) (by decide) rfl ?_
  intro p e s m args below meth c s₁ B hml hv
  obtain ⟨rfl, hsz, hP, hK, hD0⟩ := hv
  have hx := B.exec
  have hb := B.bytes
  have hr := B.returns
  have hts : ∀ w ∈ TB, w.before _ s = true := fun w h => atoms_spec (ws := _ :: TB) B.pre w (List.mem_cons_of_mem _ h)
  have hown : s.vm.findClass RX0 = some m.cls := findClass_of_methodNamed B.named
  have hlocks := B.notSynchronized
  have hh : Hp D (Af cs ad sz) (Af cs ad sz) s.heap s.heap [] cs ad en := ⟨hP, Af_self hD0, va_S.rf⟩
  have hA : ∀ q : Nat, s.heap.size ≤ q → Af cs ad sz q := fun q h => Or.inr (by rw [hsz] at h; exact h)
  have hl := lv_entry ([.ref (ad 70), .int (nI k), .int (nI j)]) (n := 4) (Nat.le_of_ble_eq_true rfl)
  rw [lg_entry_eq]
  generalize (lg_sl ([.ref (ad 70), .int (nI k), .int (nI j)]) ++ List.replicate (4 - (lg_sl ([.ref (ad 70), .int (nI k), .int (nI j)])).length) Slot.unset).toArray = ls at hl ⊢
  have hl : lv_has ls 4 [(0, .ref (ad 70)), (1, .int (nI k)), (2, .int (nI j))] := hl
  have hka1 : 115 ≤ ka := hI.2.1.2.2.2.1
  have hka2 : ka < kb := hI.2.1.2.2.2.2.1
  have hka3 : kb < kc := hI.2.1.2.2.2.2.2
  have hf0 : ∀ c, (c < 71 ∨ 74 ≤ c) → en c = en c := fun _ _ => rfl
  obtain ⟨cnt, d, mm, es775, hcnt, hd2, hd3, hmm⟩ := get2_T hI
  obtain ⟨sta_776, cc_776, ct_776, un_776, ow_776, hn_776, es776, p0_776, p1_776, p2_776, p3_776⟩ := get2_C hI
  refine lv_aload_n hx hb dX0_numberOfProduct_0 rfl (lv_at hl 0 rfl) ?_
  refine lv_iload_n hx hb dX0_numberOfProduct_1 rfl (lv_at hl 1 rfl) ?_
  refine lv_iload_n hx hb dX0_numberOfProduct_2 rfl (lv_at hl 2 rfl) ?_
  refine hp_callMv (va_runV (As := [.int (nI k), .int (nI j)]) (rest := []) ⟨hx, hb, hml, hown, hts⟩ (c_X0_multiplyNumbered l D cy _ cs ad en hI k j (by omega) (by omega)) (kw_X0_multiplyNumbered hts tw_631 ⟨by decide, by decide⟩) (preV_of hh hK (hI.1.1 _ (by decide)) es776 rfl) rfl rfl hl.1 rfl (lv_room (Nat.le_of_ble_eq_true rfl)) dX0_numberOfProduct_3 ⟨Nat.le_of_ble_eq_true rfl, Nat.le_of_ble_eq_true rfl⟩) hh hA (fun H locs en_777 hw_777 hh => ?_)
  obtain ⟨hI_777, hu_777⟩ := hw_777
  have hf_777 : ∀ c, (c < 71 ∨ 74 ≤ c) → en_777 c = en c := fun c hc => (hu_777 c (by omega)).trans (hf0 c hc)
  refine lv_aload_n hx hb dX0_numberOfProduct_6 rfl (lv_at hl 0 rfl) ?_
  refine lv_aload_n hx hb dX0_numberOfProduct_7 rfl (lv_at hl 0 rfl) ?_
  have es776_778 : en_777 70 = .inr (0, [.ref (ad 1), .ref (ad 71), .ref (ad 72), .ref (ad 73), .ref (ad ka), .ref (ad kb), .ref (ad kc), .int (nI sta_776), .int (nI cc_776), .int (nI ct_776), .int un_776, .int ow_776, .int (nI hn_776)]) := (hf_777 70 (by omega)).trans es776
  refine hp_get hx hb hts ix0 hown hK hh (q := 70) rfl (hI.1.1 _ (by decide)) es776_778 rfl 3 (by decide) (hts _ tw_150) (fun _ h9 => h9) rfl dX0_numberOfProduct_8 ?_
  obtain ⟨f_779, es779⟩ := get2_cd hI_777
  refine hp_callRi (va_runV (As := [.ref (ad 73)]) (rest := []) ⟨hx, hb, hml, hown, hts⟩ (c_X0_slotOf l D cy _ cs ad en_777 hI_777  73 (hI.1.1 _ (by decide)) (by omega) f_779  es779) (kw_X0_slotOf hts tw_604 ⟨by decide, by decide⟩) (preV_of hh hK (hI.1.1 _ (by decide)) es776_778 rfl) rfl rfl hl.1 rfl (lv_room (Nat.le_of_ble_eq_true rfl)) dX0_numberOfProduct_11 ⟨Nat.le_of_ble_eq_true rfl, Nat.le_of_ble_eq_true rfl⟩) hh hA (fun r_780 H locs hw_780 hh => ?_)
  obtain ⟨S_780, hS_780, rfl⟩ := hw_780
  refine lv_istore_n (lv' := [(3, .int (nI S_780)), (0, .ref (ad 70)), (1, .int (nI k)), (2, .int (nI j))]) hx hb dX0_numberOfProduct_14 rfl hl (by decide) rfl (fun ls hl => ?_)
  refine lv_aload_n hx hb dX0_numberOfProduct_15 rfl (lv_at hl 1 rfl) ?_
  refine hp_get hx hb hts ix0 hown hK hh (q := 70) rfl (hI.1.1 _ (by decide)) es776_778 rfl 6 (by decide) (hts _ tw_153) (fun _ h9 => h9) rfl dX0_numberOfProduct_16 ?_
  refine lv_iload_n hx hb dX0_numberOfProduct_19 rfl (lv_at hl 0 rfl) ?_
  obtain ⟨f_781, es781, p0_781⟩ := get2_ec hI_777
  refine hp_iald hx hb hK hh (q := kc) rfl hI.2.1.2.2.1 es781 (vp_in_nI (n := S_780) (by omega) (by decide)) dX0_numberOfProduct_20 ?_
  rw [nI_clamp (n := S_780) (by omega)]
  obtain ⟨v_782, hv_782, hfv_782⟩ := p0_781 S_780 (by omega)
  rw [hfv_782]
  refine lv_if_ne (tgt := 28) hx hb dX0_numberOfProduct_21 (by decide) (fun c_783 => ?_) (fun c_783 => ?_)
  · have n_783 : v_782 ≠ 0 := n_neq (a := v_782) (b := 0) c_783 (by omega) (by decide)
    refine lv_aload_n hx hb dX0_numberOfProduct_28 rfl (lv_at hl 1 rfl) ?_
    refine hp_get hx hb hts ix0 hown hK hh (q := 70) rfl (hI.1.1 _ (by decide)) es776_778 rfl 6 (by decide) (hts _ tw_153) (fun _ h9 => h9) rfl dX0_numberOfProduct_29 ?_
    refine lv_iload_n hx hb dX0_numberOfProduct_32 rfl (lv_at hl 0 rfl) ?_
    refine hp_iald hx hb hK hh (q := kc) rfl hI.2.1.2.2.1 es781 (vp_in_nI (n := S_780) (by omega) (by decide)) dX0_numberOfProduct_33 ?_
    rw [nI_clamp (n := S_780) (by omega)]
    rw [hfv_782]
    refine lv_iconst (v := 1) hx hb dX0_numberOfProduct_34 (by decide) ?_
    refine lv_isub hx hb dX0_numberOfProduct_35 ?_
    rw [show (1 : Int32) = nI 1 from rfl, pk_sub (a := v_782) (b := 1) (by omega)]
    exact hp_iretM hx hb hr rfl hlocks hh (⟨hI_777, hf_777⟩) dX0_numberOfProduct_36
  · have n_783 : v_782 = 0 := n_eq (a := v_782) (b := 0) c_783 (by omega) (by decide)
    refine lv_iconst (v := (-1)) hx hb dX0_numberOfProduct_24 (by decide) ?_
    refine lv_goto (tgt := 36) hx hb dX0_numberOfProduct_25 (by decide) ?_
    exact hp_iretM hx hb hr rfl hlocks hh (⟨hI_777, hf_777⟩) dX0_numberOfProduct_36
theorem kw_X0_numberOfProduct {R : Room} {s : State} {args : Array Value} {own : String} {idx : Nat} (hts : ∀ w ∈ TB, w.before args s = true) (hl : Cond.methodLink own idx yX0_numberOfProduct ∈ TB) (hR : 3 + 1 ≤ R.frames ∧ 8 + (4 + 11) + 40 * 3 ≤ R.locals) : CallW R s args own RX0 idx yX0_numberOfProduct cX0_numberOfProduct 4 (some .int) (Cond.code yX0_numberOfProduct cX0_numberOfProduct 4 (some .int) :: TB) (rmN 3) 0 0 2 := cwV 2 hts (TB_V hl tw_670 tw_671 tw_5 tw_672) rfl rfl rfl (by decide +kernel) hR
set_option maxHeartbeats 4000000 in
set_option maxRecDepth 100000 in
/-- forget -/
theorem c_X0_forget (l : Launch) (D : va_G) (cy : Nat → ClassId) (sz : Nat) (cs : List Nat) (ad : Nat → Nat) (en : Nat → va_E) (hI : SX cy cs ad en)    : Met l yX0_forget (Cond.code yX0_forget cX0_forget 1 none :: TB) (rmN 0) (va_Pc [.ref (ad 70)] (Pre D cy cs ad en sz)) (va_Qv (S := Nat → va_E) (fun en1 => SX cy cs ad en1 ∧ (∀ c, (c ≠ 70) → en1 c = en c) ∧ (∃ (ea eb ec : Option Nat) (st0 cc0 ct0 un0 ow0 hn0 : Int32), en 70 = .inr (0, [.ref (ad 1), .ref (ad 71), .ref (ad 72), .ref (ad 73), va_rf ea, va_rf eb, va_rf ec, .int st0, .int cc0, .int ct0, .int un0, .int ow0, .int hn0]) ∧ en1 70 = .inr (0, [.ref (ad 1), .ref (ad 71), .ref (ad 72), .ref (ad 73), va_rf ea, va_rf eb, va_rf ec, .int 0, .int cc0, .int ct0, .int un0, .int ow0, .int hn0]))) (PostM D cs ad) (Af cs ad sz)) 0 0 (Af cs ad sz) := by
  refine Met.ofW (cc := cX0_forget) (maxL := 1) (ret := none) (by decide) rfl ?_
  intro p e s m args below meth c s₁ B hml hv
  obtain ⟨rfl, hsz, hP, hK, hD0⟩ := hv
  have hx := B.exec
  have hb := B.bytes
  have hr := B.returns
  have hts : ∀ w ∈ TB, w.before _ s = true := fun w h => atoms_spec (ws := _ :: TB) B.pre w (List.mem_cons_of_mem _ h)
  have hown : s.vm.findClass RX0 = some m.cls := findClass_of_methodNamed B.named
  have hlocks := B.notSynchronized
  have hh : Hp D (Af cs ad sz) (Af cs ad sz) s.heap s.heap [] cs ad en := ⟨hP, Af_self hD0, va_S.rf⟩
  have hA : ∀ q : Nat, s.heap.size ≤ q → Af cs ad sz q := fun q h => Or.inr (by rw [hsz] at h; exact h)
  have hl := lv_entry ([.ref (ad 70)]) (n := 1) (Nat.le_of_ble_eq_true rfl)
  rw [lg_entry_eq]
  generalize (lg_sl ([.ref (ad 70)]) ++ List.replicate (1 - (lg_sl ([.ref (ad 70)])).length) Slot.unset).toArray = ls at hl ⊢
  have hl : lv_has ls 1 [(0, .ref (ad 70))] := hl
  have hf0 : ∀ c, (c ≠ 70) → en c = en c := fun _ _ => rfl
  obtain ⟨ea_784, eb_784, ec_784, st0_784, cc0_784, ct0_784, un0_784, ow0_784, hn0_784, es784⟩ := get_C hI
  refine lv_aload_n hx hb dX0_forget_0 rfl (lv_at hl 0 rfl) ?_
  refine lv_iconst (v := 0) hx hb dX0_forget_1 (by decide) ?_
  refine hp_put hx hb hts ix0 tyX0 tyX0_ok nmX0 hown hK hh (q := 70) rfl (hI.1 _ (by decide)) es784 rfl 7 (by decide) (hts _ tw_154) (fun _ h9 => h9) rfl (ty := .int) (by decide +kernel) rfl rfl (Nat.le_of_ble_eq_true rfl) dX0_forget_2 (fun H locs en_785 hen_785 hh => ?_)
  have es784_785 : en_785 70 = .inr (0, [.ref (ad 1), .ref (ad 71), .ref (ad 72), .ref (ad 73), va_rf ea_784, va_rf eb_784, va_rf ec_784, .int 0, .int cc0_784, .int ct0_784, .int un0_784, .int ow0_784, .int hn0_784]) := by rw [hen_785]; exact va_up_self _ _ _
  have hI_785 : SX cy cs ad en_785 := by rw [hen_785]; exact up_C hI ⟨ea_784, eb_784, ec_784, 0, cc0_784, ct0_784, un0_784, ow0_784, hn0_784, rfl⟩
  have hf_785 : ∀ c, (c ≠ 70) → en_785 c = en c := fun c hc => Eq.trans (show en_785 c = en c from by rw [hen_785, va_up_ne _ _ (by omega)]) (hf0 c hc)
  exact hp_vretM hx hb hr hlocks hh (⟨hI_785, hf_785, ⟨ea_784, eb_784, ec_784, st0_784, cc0_784, ct0_784, un0_784, ow0_784, hn0_784, es784, es784_785⟩⟩) dX0_forget_5
theorem kw_X0_forget {R : Room} {s : State} {args : Array Value} {own : String} {idx : Nat} (hts : ∀ w ∈ TB, w.before args s = true) (hl : Cond.methodLink own idx yX0_forget ∈ TB) (hR : 0 + 1 ≤ R.frames ∧ 8 + (1 + 11) + 40 * 0 ≤ R.locals) : CallW R s args own RX0 idx yX0_forget cX0_forget 1 none (Cond.code yX0_forget cX0_forget 1 none :: TB) (rmN 0) 0 0 0 := cwV 0 hts (TB_V hl tw_286 tw_287 tw_5 tw_288) rfl rfl rfl (by decide +kernel) hR
set_option maxHeartbeats 4000000 in
set_option maxRecDepth 100000 in
/-- isFound -/
theorem c_X0_isFound (l : Launch) (D : va_G) (cy : Nat → ClassId) (sz : Nat) (cs : List Nat) (ad : Nat → Nat) (en : Nat → va_E) (hI : SX cy cs ad en)    : Met l yX0_isFound (Cond.code yX0_isFound cX0_isFound 1 (some .boolean) :: TB) (rmN 0) (va_Pc [.ref (ad 70)] (Pre D cy cs ad en sz)) (va_Qi (S := Unit) (fun r _ => r = if rdI (en 70) 7 = 1 then 1 else 0) (fun _ _ => True) (Nf sz)) 0 0 (Nf sz) := by
  refine Met.ofW (cc := cX0_isFound) (maxL := 1) (ret := (some .boolean)) (by decide) rfl ?_
  intro p e s m args below meth c s₁ B hml hv
  obtain ⟨rfl, hsz, hP, hK, hD0⟩ := hv
  have hx := B.exec
  have hb := B.bytes
  have hr := B.returns
  have hts : ∀ w ∈ TB, w.before _ s = true := fun w h => atoms_spec (ws := _ :: TB) B.pre w (List.mem_cons_of_mem _ h)
  have hown : s.vm.findClass RX0 = some m.cls := findClass_of_methodNamed B.named
  have hlocks := B.notSynchronized
  have hh : Hp D (Nf sz) (fun _ => True) s.heap s.heap [] cs ad en := ⟨hP, hD0, va_S.rf⟩
  have hA : ∀ q : Nat, s.heap.size ≤ q → Nf sz q := fun q h => by rw [hsz] at h; exact h
  have hl := lv_entry ([.ref (ad 70)]) (n := 1) (Nat.le_of_ble_eq_true rfl)
  rw [lg_entry_eq]
  generalize (lg_sl ([.ref (ad 70)]) ++ List.replicate (1 - (lg_sl ([.ref (ad 70)])).length) Slot.unset).toArray = ls at hl ⊢
  have hl : lv_has ls 1 [(0, .ref (ad 70))] := hl
  obtain ⟨ea_786, eb_786, ec_786, st0_786, cc0_786, ct0_786, un0_786, ow0_786, hn0_786, es786⟩ := get_C hI
  refine lv_aload_n hx hb dX0_isFound_0 rfl (lv_at hl 0 rfl) ?_
  refine hp_get hx hb hts ix0 hown hK hh (q := 70) rfl (hI.1 _ (by decide)) es786 rfl 7 (by decide) (hts _ tw_154) (fun _ h9 => h9) rfl dX0_isFound_1 ?_
  refine lv_iconst (v := 1) hx hb dX0_isFound_4 (by decide) ?_
  refine lv_icmp_ne (tgt := 12) hx hb dX0_isFound_5 (by decide) (fun c_787 => ?_) (fun c_787 => ?_)
  · refine lv_iconst (v := 0) hx hb dX0_isFound_12 (by decide) ?_
    exact hp_iretR hx hb hr rfl hlocks hsz hh ((by rw [show rdI (en 70) 7 = st0_786 from by rw [es786]; rfl]; exact (if_neg c_787).symm)) dX0_isFound_13
  · refine lv_iconst (v := 1) hx hb dX0_isFound_8 (by decide) ?_
    refine lv_goto (tgt := 13) hx hb dX0_isFound_9 (by decide) ?_
    exact hp_iretR hx hb hr rfl hlocks hsz hh ((by rw [show rdI (en 70) 7 = st0_786 from by rw [es786]; rfl]; exact (if_pos c_787).symm)) dX0_isFound_13
theorem kw_X0_isFound {R : Room} {s : State} {args : Array Value} {own : String} {idx : Nat} (hts : ∀ w ∈ TB, w.before args s = true) (hl : Cond.methodLink own idx yX0_isFound ∈ TB) (hR : 0 + 1 ≤ R.frames ∧ 8 + (1 + 11) + 40 * 0 ≤ R.locals) : CallW R s args own RX0 idx yX0_isFound cX0_isFound 1 (some .boolean) (Cond.code yX0_isFound cX0_isFound 1 (some .boolean) :: TB) (rmN 0) 0 0 0 := cwV 0 hts (TB_V hl tw_645 tw_646 tw_5 tw_647) rfl rfl rfl (by decide +kernel) hR
set_option maxHeartbeats 4000000 in
set_option maxRecDepth 100000 in
/-- has -/
theorem c_X0_has (l : Launch) (D : va_G) (cy : Nat → ClassId) (sz : Nat) (cs : List Nat) (ad : Nat → Nat) (en : Nat → va_E) (hI : SX cy cs ad en) (k : Int32)   : Met l yX0_has (Cond.code yX0_has cX0_has 2 (some .boolean) :: TB) (rmN 1) (va_Pc [.ref (ad 70), .int k] (Pre D cy cs ad en sz)) (va_Qi (S := Unit) (fun r _ => r = if (rdI (en 70) 7 = 1 ∧ 0 ≤ k.toInt ∧ k.toInt < (rdI (en 70) 9).toInt) then 1 else 0) (fun _ _ => True) (Nf sz)) 0 0 (Nf sz) := by
  refine Met.ofW (cc := cX0_has) (maxL := 2) (ret := (some .boolean)) (by decide) rfl ?_
  intro p e s m args below meth c s₁ B hml hv
  obtain ⟨rfl, hsz, hP, hK, hD0⟩ := hv
  have hx := B.exec
  have hb := B.bytes
  have hr := B.returns
  have hts : ∀ w ∈ TB, w.before _ s = true := fun w h => atoms_spec (ws := _ :: TB) B.pre w (List.mem_cons_of_mem _ h)
  have hown : s.vm.findClass RX0 = some m.cls := findClass_of_methodNamed B.named
  have hlocks := B.notSynchronized
  have hh : Hp D (Nf sz) (fun _ => True) s.heap s.heap [] cs ad en := ⟨hP, hD0, va_S.rf⟩
  have hA : ∀ q : Nat, s.heap.size ≤ q → Nf sz q := fun q h => by rw [hsz] at h; exact h
  have hl := lv_entry ([.ref (ad 70), .int k]) (n := 2) (Nat.le_of_ble_eq_true rfl)
  rw [lg_entry_eq]
  generalize (lg_sl ([.ref (ad 70), .int k]) ++ List.replicate (2 - (lg_sl ([.ref (ad 70), .int k])).length) Slot.unset).toArray = ls at hl ⊢
  have hl : lv_has ls 2 [(0, .ref (ad 70)), (1, .int k)] := hl
  obtain ⟨ea_788, eb_788, ec_788, st0_788, cc0_788, ct0_788, un0_788, ow0_788, hn0_788, es788⟩ := get_C hI
  refine lv_aload_n hx hb dX0_has_0 rfl (lv_at hl 0 rfl) ?_
  refine hp_callRi (va_runV (As := []) (rest := []) ⟨hx, hb, hml, hown, hts⟩ (c_X0_isFound l D cy _ cs ad en hI) (kw_X0_isFound hts tw_660 ⟨by decide, by decide⟩) (preV_of hh hK (hI.1 _ (by decide)) es788 rfl) rfl rfl hl.1 rfl (lv_room (Nat.le_of_ble_eq_true rfl)) dX0_has_1 ⟨Nat.le_of_ble_eq_true rfl, Nat.le_of_ble_eq_true rfl⟩) hh hA (fun r_789 H locs hw_789 hh => ?_)
  rcases Decidable.em (rdI (en 70) 7 = 1) with hp_789 | hp_789
  · obtain rfl : r_789 = 1 := Eq.trans hw_789 (if_pos hp_789)
    refine lv_if_eq (tgt := 23) hx hb dX0_has_4 (by decide) (fun c_0 => absurd c_0 (by decide)) (fun _ => ?_)
    refine lv_iload_n hx hb dX0_has_7 rfl (lv_at hl 1 rfl) ?_
    refine lv_if_lt (tgt := 23) hx hb dX0_has_8 (by decide) (fun c_790 => ?_) (fun c_790 => ?_)
    · refine lv_iconst (v := 0) hx hb dX0_has_23 (by decide) ?_
      have : (0 : Int32).toInt = 0 := by decide
      have : (1 : Int32).toInt = 1 := by decide
      have : (7 : Int32).toInt = 7 := by decide
      have : (70 : Int32).toInt = 70 := by decide
      have := i_eq hp_789
      have := i_lt c_790
      have hct9 : rdI (en 70) 9 = ct0_788 := by rw [es788]; rfl
      exact hp_iretR hx hb hr rfl hlocks hsz hh ((by rw [hct9]; exact (if_neg (fun q => by have q1 := q.2.1; have q2 := q.2.2; omega)).symm)) dX0_has_24
    · refine lv_iload_n hx hb dX0_has_11 rfl (lv_at hl 1 rfl) ?_
      refine lv_aload_n hx hb dX0_has_12 rfl (lv_at hl 0 rfl) ?_
      refine hp_get hx hb hts ix0 hown hK hh (q := 70) rfl (hI.1 _ (by decide)) es788 rfl 9 (by decide) (hts _ tw_156) (fun _ h9 => h9) rfl dX0_has_13 ?_
      refine lv_icmp_ge (tgt := 23) hx hb dX0_has_16 (by decide) (fun c_791 => ?_) (fun c_791 => ?_)
      · refine lv_iconst (v := 0) hx hb dX0_has_23 (by decide) ?_
        have : (0 : Int32).toInt = 0 := by decide
        have : (1 : Int32).toInt = 1 := by decide
        have : (7 : Int32).toInt = 7 := by decide
        have : (70 : Int32).toInt = 70 := by decide
        have := i_eq hp_789
        have := i_nlt c_790
        have := i_le c_791
        have hct9 : rdI (en 70) 9 = ct0_788 := by rw [es788]; rfl
        exact hp_iretR hx hb hr rfl hlocks hsz hh ((by rw [hct9]; exact (if_neg (fun q => by have q1 := q.2.1; have q2 := q.2.2; omega)).symm)) dX0_has_24
      · refine lv_iconst (v := 1) hx hb dX0_has_19 (by decide) ?_
        refine lv_goto (tgt := 24) hx hb dX0_has_20 (by decide) ?_
        have : (0 : Int32).toInt = 0 := by decide
        have : (1 : Int32).toInt = 1 := by decide
        have : (7 : Int32).toInt = 7 := by decide
        have : (70 : Int32).toInt = 70 := by decide
        have := i_eq hp_789
        have := i_nlt c_790
        have := i_nle c_791
        have hct9 : rdI (en 70) 9 = ct0_788 := by rw [es788]; rfl
        exact hp_iretR hx hb hr rfl hlocks hsz hh ((by rw [hct9]; exact (if_pos ⟨hp_789, by omega, by omega⟩).symm)) dX0_has_24
  · obtain rfl : r_789 = 0 := Eq.trans hw_789 (if_neg hp_789)
    refine lv_if_eq (tgt := 23) hx hb dX0_has_4 (by decide) (fun _ => ?_) (fun c_0 => absurd c_0 (by decide))
    refine lv_iconst (v := 0) hx hb dX0_has_23 (by decide) ?_
    have : (0 : Int32).toInt = 0 := by decide
    have : (1 : Int32).toInt = 1 := by decide
    have : (7 : Int32).toInt = 7 := by decide
    have : (70 : Int32).toInt = 70 := by decide
    have := i_neq hp_789
    have hct9 : rdI (en 70) 9 = ct0_788 := by rw [es788]; rfl
    exact hp_iretR hx hb hr rfl hlocks hsz hh ((by rw [hct9]; exact (if_neg (fun q => hp_789 q.1)).symm)) dX0_has_24
theorem kw_X0_has {R : Room} {s : State} {args : Array Value} {own : String} {idx : Nat} (hts : ∀ w ∈ TB, w.before args s = true) (hl : Cond.methodLink own idx yX0_has ∈ TB) (hR : 1 + 1 ≤ R.frames ∧ 8 + (2 + 11) + 40 * 1 ≤ R.locals) : CallW R s args own RX0 idx yX0_has cX0_has 2 (some .boolean) (Cond.code yX0_has cX0_has 2 (some .boolean) :: TB) (rmN 1) 0 0 1 := cwV 1 hts (TB_V hl tw_657 tw_658 tw_5 tw_659) rfl rfl rfl (by decide +kernel) hR
set_option maxHeartbeats 4000000 in
set_option maxRecDepth 100000 in
/-- closed -/
theorem c_X11_closed (l : Launch) (D : va_G) (cy : Nat → ClassId) (sz : Nat) (cs : List Nat) (ad : Nat → Nat) (en : Nat → va_E) (hI : SX cy cs ad en) (z : Int32) (hC : CP cy cs ad en)   : Met l yX11_closed (Cond.code yX11_closed cX11_closed 2 (some .int) :: TB) (rmN 2) (va_Pc [.ref (ad 0), .int z] (Pre D cy cs ad en sz)) (va_Qi (S := Unit) (fun _ _ => True) (fun _ _ => True) (Nf sz)) 0 0 (Nf sz) := by
  refine Met.ofW (cc := cX11_closed) (maxL := 2) (ret := (some .int)) (by decide) rfl ?_
  intro p e s m args below meth c s₁ B hml hv
  obtain ⟨rfl, hsz, hP, hK, hD0⟩ := hv
  have hx := B.exec
  have hb := B.bytes
  have hr := B.returns
  have hts : ∀ w ∈ TB, w.before _ s = true := fun w h => atoms_spec (ws := _ :: TB) B.pre w (List.mem_cons_of_mem _ h)
  have hown : s.vm.findClass RX11 = some m.cls := findClass_of_methodNamed B.named
  have hlocks := B.notSynchronized
  have hh : Hp D (Nf sz) (fun _ => True) s.heap s.heap [] cs ad en := ⟨hP, hD0, va_S.rf⟩
  have hA : ∀ q : Nat, s.heap.size ≤ q → Nf sz q := fun q h => by rw [hsz] at h; exact h
  have hl := lv_entry ([.ref (ad 0), .int z]) (n := 2) (Nat.le_of_ble_eq_true rfl)
  rw [lg_entry_eq]
  generalize (lg_sl ([.ref (ad 0), .int z]) ++ List.replicate (2 - (lg_sl ([.ref (ad 0), .int z])).length) Slot.unset).toArray = ls at hl ⊢
  have hl : lv_has ls 2 [(0, .ref (ad 0)), (1, .int z)] := hl
  obtain ⟨wc_792, lf_792, es792, p0_792⟩ := get_A hI
  refine lv_iload_n hx hb dX11_closed_0 rfl (lv_at hl 1 rfl) ?_
  refine lv_iconst (v := 0) hx hb dX11_closed_1 (by decide) ?_
  refine lv_iconst (v := 4) hx hb dX11_closed_2 (by decide) ?_
  refine hp_callRi (va_runS (As := [.int z, .int 0, .int 4]) (rest := []) ⟨hx, hb, hml, hown, hts⟩ (c_X11_isWithin l D cy _ cs ad en z 0 4) (kw_X11_isWithin hts tw_274 ⟨by decide, by decide⟩) (preS_of hh hK) rfl rfl hl.1 rfl (lv_room (Nat.le_of_ble_eq_true rfl)) dX11_closed_3 ⟨Nat.le_of_ble_eq_true rfl, Nat.le_of_ble_eq_true rfl⟩) hh hA (fun r_793 H locs hw_793 hh => ?_)
  rcases Decidable.em (wi z 0 4) with hp_793 | hp_793
  · obtain rfl : r_793 = 1 := Eq.trans hw_793 (if_pos hp_793)
    obtain ⟨N_793, rfl, hA_793, hB_793⟩ := wi_natB hp_793 0 4 (by decide) (by decide)
    refine lv_if_ne (tgt := 12) hx hb dX11_closed_6 (by decide) (fun _ => ?_) (fun c_0 => absurd c_0 (by decide))
    refine lv_aload_n hx hb dX11_closed_12 rfl (lv_at hl 0 rfl) ?_
    refine hp_get hx hb hts ix11 hown hK hh (q := 0) rfl (hI.1 _ (by decide)) es792 rfl 2 (by decide) (hts _ tw_247) (fun _ h9 => h9) rfl dX11_closed_13 ?_
    obtain ⟨ea_794, eb_794, ec_794, st0_794, cc0_794, ct0_794, un0_794, ow0_794, hn0_794, es794⟩ := get_C hI
    refine hp_callRi (va_runV (As := []) (rest := []) ⟨hx, hb, hml, hown, hts⟩ (c_X0_isFound l D cy _ cs ad en hI) (kw_X0_isFound hts tw_644 ⟨by decide, by decide⟩) (preV_of hh hK (hI.1 _ (by decide)) es794 rfl) rfl rfl hl.1 rfl (lv_room (Nat.le_of_ble_eq_true rfl)) dX11_closed_16 ⟨Nat.le_of_ble_eq_true rfl, Nat.le_of_ble_eq_true rfl⟩) hh hA (fun r_795 H locs hw_795 hh => ?_)
    rcases Decidable.em (rdI (en 70) 7 = 1) with hp_795 | hp_795
    · obtain rfl : r_795 = 1 := Eq.trans hw_795 (if_pos hp_795)
      refine lv_if_ne (tgt := 25) hx hb dX11_closed_19 (by decide) (fun _ => ?_) (fun c_0 => absurd c_0 (by decide))
      obtain ⟨ka_9, kb_9, kc_9, hKK_9, hPC_9⟩ := CP_found hC hp_795
      refine lv_iload_n hx hb dX11_closed_25 rfl (lv_at hl 1 rfl) ?_
      by_cases q_796_0 : (nI N_793) = 0
      · refine lv_tableIn (off := 30) (tgt := 56) hx hb dX11_closed_26 (by rw [q_796_0]; decide) (by rw [q_796_0]; decide) (by rw [q_796_0]; decide) (by decide) ?_
        refine lv_aload_n hx hb dX11_closed_56 rfl (lv_at hl 0 rfl) ?_
        refine hp_get hx hb hts ix11 hown hK hh (q := 0) rfl (hI.1 _ (by decide)) es792 rfl 2 (by decide) (hts _ tw_247) (fun _ h9 => h9) rfl dX11_closed_57 ?_
        refine hp_get hx hb hts ix0 hown hK hh (q := 70) rfl (hI.1 _ (by decide)) es794 rfl 9 (by decide) (hts _ tw_157) (fun _ h9 => h9) rfl dX11_closed_60 ?_
        exact hp_iretR hx hb hr rfl hlocks hsz hh (trivial) dX11_closed_63
      by_cases q_796_1 : (nI N_793) = 1
      · refine lv_tableIn (off := 38) (tgt := 64) hx hb dX11_closed_26 (by rw [q_796_1]; decide) (by rw [q_796_1]; decide) (by rw [q_796_1]; decide) (by decide) ?_
        refine lv_aload_n hx hb dX11_closed_64 rfl (lv_at hl 0 rfl) ?_
        refine hp_get hx hb hts ix11 hown hK hh (q := 0) rfl (hI.1 _ (by decide)) es792 rfl 2 (by decide) (hts _ tw_247) (fun _ h9 => h9) rfl dX11_closed_65 ?_
        refine hp_get hx hb hts ix0 hown hK hh (q := 70) rfl (hI.1 _ (by decide)) es794 rfl 12 (by decide) (hts _ tw_162) (fun _ h9 => h9) rfl dX11_closed_68 ?_
        refine lv_if_eq (tgt := 78) hx hb dX11_closed_71 (by decide) (fun c_797 => ?_) (fun c_797 => ?_)
        · refine lv_iconst (v := 0) hx hb dX11_closed_78 (by decide) ?_
          exact hp_iretR hx hb hr rfl hlocks hsz hh (trivial) dX11_closed_79
        · refine lv_iconst (v := 1) hx hb dX11_closed_74 (by decide) ?_
          refine lv_goto (tgt := 79) hx hb dX11_closed_75 (by decide) ?_
          exact hp_iretR hx hb hr rfl hlocks hsz hh (trivial) dX11_closed_79
      by_cases q_796_2 : (nI N_793) = 2
      · refine lv_tableIn (off := 54) (tgt := 80) hx hb dX11_closed_26 (by rw [q_796_2]; decide) (by rw [q_796_2]; decide) (by rw [q_796_2]; decide) (by decide) ?_
        refine lv_aload_n hx hb dX11_closed_80 rfl (lv_at hl 0 rfl) ?_
        refine hp_get hx hb hts ix11 hown hK hh (q := 0) rfl (hI.1 _ (by decide)) es792 rfl 2 (by decide) (hts _ tw_247) (fun _ h9 => h9) rfl dX11_closed_81 ?_
        refine hp_get hx hb hts ix0 hown hK hh (q := 70) rfl (hI.1 _ (by decide)) es794 rfl 10 (by decide) (hts _ tw_158) (fun _ h9 => h9) rfl dX11_closed_84 ?_
        exact hp_iretR hx hb hr rfl hlocks hsz hh (trivial) dX11_closed_87
      by_cases q_796_3 : (nI N_793) = 3
      · refine lv_tableIn (off := 62) (tgt := 88) hx hb dX11_closed_26 (by rw [q_796_3]; decide) (by rw [q_796_3]; decide) (by rw [q_796_3]; decide) (by decide) ?_
        refine lv_aload_n hx hb dX11_closed_88 rfl (lv_at hl 0 rfl) ?_
        refine hp_get hx hb hts ix11 hown hK hh (q := 0) rfl (hI.1 _ (by decide)) es792 rfl 2 (by decide) (hts _ tw_247) (fun _ h9 => h9) rfl dX11_closed_89 ?_
        refine hp_get hx hb hts ix0 hown hK hh (q := 70) rfl (hI.1 _ (by decide)) es794 rfl 11 (by decide) (hts _ tw_160) (fun _ h9 => h9) rfl dX11_closed_92 ?_
        exact hp_iretR hx hb hr rfl hlocks hsz hh (trivial) dX11_closed_95
      refine lv_tableOut (tgt := 96) hx hb dX11_closed_26 (tb_out 4 (by decide) (by decide) (fun j hj => by rcases (show j = 0 ∨ j = 1 ∨ j = 2 ∨ j = 3 by omega) with rfl | rfl | rfl | rfl <;> first | exact lv_neT q_796_0 (by decide) | exact lv_neT q_796_1 (by decide) | exact lv_neT q_796_2 (by decide) | exact lv_neT q_796_3 (by decide))) (by decide) ?_
      refine lv_aload_n hx hb dX11_closed_96 rfl (lv_at hl 0 rfl) ?_
      refine hp_get hx hb hts ix11 hown hK hh (q := 0) rfl (hI.1 _ (by decide)) es792 rfl 2 (by decide) (hts _ tw_247) (fun _ h9 => h9) rfl dX11_closed_97 ?_
      refine hp_callRi (va_runV (As := []) (rest := []) ⟨hx, hb, hml, hown, hts⟩ (c_X0_lastWordLength l D cy _ cs ad en (ka := ka_9) (kb := kb_9) (kc := kc_9) ⟨hI, hKK_9, hPC_9⟩) (kw_X0_lastWordLength hts tw_648 ⟨by decide, by decide⟩) (preV_of hh hK (hI.1 _ (by decide)) es794 rfl) rfl rfl hl.1 rfl (lv_room (Nat.le_of_ble_eq_true rfl)) dX11_closed_100 ⟨Nat.le_of_ble_eq_true rfl, Nat.le_of_ble_eq_true rfl⟩) hh hA (fun r_798 H locs hw_798 hh => ?_)
      exact hp_iretR hx hb hr rfl hlocks hsz hh (trivial) dX11_closed_103
    · obtain rfl : r_795 = 0 := Eq.trans hw_795 (if_neg hp_795)
      refine lv_if_ne (tgt := 25) hx hb dX11_closed_19 (by decide) (fun c_0 => absurd c_0 (by decide)) (fun _ => ?_)
      refine lv_bipush (v := (-3)) hx hb dX11_closed_22 (by decide) ?_
      exact hp_iretR hx hb hr rfl hlocks hsz hh (trivial) dX11_closed_24
  · obtain rfl : r_793 = 0 := Eq.trans hw_793 (if_neg hp_793)
    refine lv_if_ne (tgt := 12) hx hb dX11_closed_6 (by decide) (fun c_0 => absurd c_0 (by decide)) (fun _ => ?_)
    refine lv_bipush (v := (-2)) hx hb dX11_closed_9 (by decide) ?_
    exact hp_iretR hx hb hr rfl hlocks hsz hh (trivial) dX11_closed_11
theorem kw_X11_closed {R : Room} {s : State} {args : Array Value} {own : String} {idx : Nat} (hts : ∀ w ∈ TB, w.before args s = true) (hl : Cond.methodLink own idx yX11_closed ∈ TB) (hR : 2 + 1 ≤ R.frames ∧ 8 + (2 + 11) + 40 * 2 ≤ R.locals) : CallW R s args own RX11 idx yX11_closed cX11_closed 2 (some .int) (Cond.code yX11_closed cX11_closed 2 (some .int) :: TB) (rmN 2) 0 0 1 := cwV 1 hts (TB_V hl tw_641 tw_642 tw_1 tw_643) rfl rfl rfl (by decide +kernel) hR
set_option maxHeartbeats 4000000 in
set_option maxRecDepth 100000 in
/-- product -/
theorem c_X11_product (l : Launch) (D : va_G) (cy : Nat → ClassId) (sz : Nat) (cs : List Nat) (ad : Nat → Nat) (en : Nat → va_E) (hI : SX cy cs ad en) (k a b : Int32) (hC : CP cy cs ad en)   : Met l yX11_product (Cond.code yX11_product cX11_product 4 (some .long) :: TB) (rmN 2) (va_Pc [.ref (ad 0), .int k, .int a, .int b] (Pre D cy cs ad en sz)) (va_Ql (S := Unit) (fun _ _ => True) (fun _ _ => True) (Nf sz)) 0 0 (Nf sz) := by
  refine Met.ofW (cc := cX11_product) (maxL := 4) (ret := (some .long)) (by decide) rfl ?_
  intro p e s m args below meth c s₁ B hml hv
  obtain ⟨rfl, hsz, hP, hK, hD0⟩ := hv
  have hx := B.exec
  have hb := B.bytes
  have hr := B.returns
  have hts : ∀ w ∈ TB, w.before _ s = true := fun w h => atoms_spec (ws := _ :: TB) B.pre w (List.mem_cons_of_mem _ h)
  have hown : s.vm.findClass RX11 = some m.cls := findClass_of_methodNamed B.named
  have hlocks := B.notSynchronized
  have hh : Hp D (Nf sz) (fun _ => True) s.heap s.heap [] cs ad en := ⟨hP, hD0, va_S.rf⟩
  have hA : ∀ q : Nat, s.heap.size ≤ q → Nf sz q := fun q h => by rw [hsz] at h; exact h
  have hl := lv_entry ([.ref (ad 0), .int k, .int a, .int b]) (n := 4) (Nat.le_of_ble_eq_true rfl)
  rw [lg_entry_eq]
  generalize (lg_sl ([.ref (ad 0), .int k, .int a, .int b]) ++ List.replicate (4 - (lg_sl ([.ref (ad 0), .int k, .int a, .int b])).length) Slot.unset).toArray = ls at hl ⊢
  have hl : lv_has ls 4 [(0, .ref (ad 0)), (1, .int k), (2, .int a), (3, .int b)] := hl
  obtain ⟨wc_799, lf_799, es799, p0_799⟩ := get_A hI
  obtain ⟨cnt, d, mm, es800, hcnt, hd2, hd3, hmm⟩ := get_T hI
  refine lv_aload_n hx hb dX11_product_0 rfl (lv_at hl 0 rfl) ?_
  refine hp_get hx hb hts ix11 hown hK hh (q := 0) rfl (hI.1 _ (by decide)) es799 rfl 2 (by decide) (hts _ tw_247) (fun _ h9 => h9) rfl dX11_product_1 ?_
  refine lv_iload_n hx hb dX11_product_4 rfl (lv_at hl 1 rfl) ?_
  obtain ⟨ea_801, eb_801, ec_801, st0_801, cc0_801, ct0_801, un0_801, ow0_801, hn0_801, es801⟩ := get_C hI
  refine hp_callRi (va_runV (As := [.int k]) (rest := []) ⟨hx, hb, hml, hown, hts⟩ (c_X0_has l D cy _ cs ad en hI k ) (kw_X0_has hts tw_656 ⟨by decide, by decide⟩) (preV_of hh hK (hI.1 _ (by decide)) es801 rfl) rfl rfl hl.1 rfl (lv_room (Nat.le_of_ble_eq_true rfl)) dX11_product_5 ⟨Nat.le_of_ble_eq_true rfl, Nat.le_of_ble_eq_true rfl⟩) hh hA (fun r_802 H locs hw_802 hh => ?_)
  rcases Decidable.em (rdI (en 70) 7 = 1 ∧ 0 ≤ k.toInt ∧ k.toInt < (rdI (en 70) 9).toInt) with hp_802 | hp_802
  · obtain rfl : r_802 = 1 := Eq.trans hw_802 (if_pos hp_802)
    obtain ⟨ka_802, kb_802, kc_802, hKK_802, hPC_802⟩ := CP_found hC hp_802.1
    obtain ⟨ct_802, hct_802, hcte_802⟩ := PC_ct hPC_802
    obtain ⟨K_802, rfl, hK_802⟩ := has_nat (c := ct_802) ⟨hp_802.2.1, by have h9 := hp_802.2.2; rw [hcte_802, nI_toInt (by omega)] at h9; exact h9⟩
    refine lv_if_eq (tgt := 23) hx hb dX11_product_8 (by decide) (fun c_0 => absurd c_0 (by decide)) (fun _ => ?_)
    refine lv_aload_n hx hb dX11_product_11 rfl (lv_at hl 0 rfl) ?_
    refine hp_get hx hb hts ix11 hown hK hh (q := 0) rfl (hI.1 _ (by decide)) es799 rfl 0 (by decide) (hts _ tw_245) (fun _ h9 => h9) rfl dX11_product_12 ?_
    refine lv_iload_n hx hb dX11_product_15 rfl (lv_at hl 2 rfl) ?_
    refine lv_iload_n hx hb dX11_product_16 rfl (lv_at hl 3 rfl) ?_
    refine hp_callRi (va_runV (As := [.int a, .int b]) (rest := []) ⟨hx, hb, hml, hown, hts⟩ (c_X8_isPlace l D cy _ cs ad en (hI.1 _ (by decide)) cnt d mm hcnt hd2 hd3 hmm a b es800) (kw_X8_isPlace hts tw_416 ⟨by decide, by decide⟩) (preV_of hh hK (hI.1 _ (by decide)) es800 rfl) rfl rfl hl.1 rfl (lv_room (Nat.le_of_ble_eq_true rfl)) dX11_product_17 ⟨Nat.le_of_ble_eq_true rfl, Nat.le_of_ble_eq_true rfl⟩) hh hA (fun r_803 H locs hw_803 hh => ?_)
    rcases Decidable.em ((0 ≤ a.toInt ∧ a.toInt < (d : Int)) ∧ 0 ≤ b.toInt ∧ b.toInt < (d : Int)) with hp_803 | hp_803
    · obtain rfl : r_803 = 1 := Eq.trans hw_803 (if_pos hp_803)
      obtain ⟨A_803, rfl, hA_803⟩ := has_nat hp_803.1
      obtain ⟨B_803, rfl, hB_803⟩ := has_nat hp_803.2
      refine lv_if_ne (tgt := 27) hx hb dX11_product_20 (by decide) (fun _ => ?_) (fun c_0 => absurd c_0 (by decide))
      refine lv_aload_n hx hb dX11_product_27 rfl (lv_at hl 0 rfl) ?_
      refine hp_get hx hb hts ix11 hown hK hh (q := 0) rfl (hI.1 _ (by decide)) es799 rfl 2 (by decide) (hts _ tw_247) (fun _ h9 => h9) rfl dX11_product_28 ?_
      refine lv_iload_n hx hb dX11_product_31 rfl (lv_at hl 1 rfl) ?_
      refine lv_aload_n hx hb dX11_product_32 rfl (lv_at hl 0 rfl) ?_
      refine hp_get hx hb hts ix11 hown hK hh (q := 0) rfl (hI.1 _ (by decide)) es799 rfl 0 (by decide) (hts _ tw_245) (fun _ h9 => h9) rfl dX11_product_33 ?_
      refine lv_iload_n hx hb dX11_product_36 rfl (lv_at hl 2 rfl) ?_
      refine lv_iload_n hx hb dX11_product_37 rfl (lv_at hl 3 rfl) ?_
      refine hp_callRi (va_runV (As := [.int (nI A_803), .int (nI B_803)]) (rest := [.int (nI K_802), .ref (ad 70)]) ⟨hx, hb, hml, hown, hts⟩ (c_X8_cellOf l D cy _ cs ad en (hI.1 _ (by decide)) cnt d mm hcnt hd2 hd3 hmm A_803 B_803 es800) (kw_X8_cellOf hts tw_425 ⟨by decide, by decide⟩) (preV_of hh hK (hI.1 _ (by decide)) es800 rfl) rfl rfl hl.1 rfl (lv_room (Nat.le_of_ble_eq_true rfl)) dX11_product_38 ⟨Nat.le_of_ble_eq_true rfl, Nat.le_of_ble_eq_true rfl⟩) hh hA (fun r_804 H locs hw_804 hh => ?_)
      obtain rfl : r_804 = nI (A_803 * d + B_803) := hw_804
      have hi_805 : (A_803 * d + B_803) < 9 := md3 (by omega) (by omega) hd3
      refine hp_callRl (va_runV (As := [.int (nI K_802), .int (nI (A_803 * d + B_803))]) (rest := []) ⟨hx, hb, hml, hown, hts⟩ (c_X0_entryAt l D cy _ cs ad en (ka := ka_802) (kb := kb_802) (kc := kc_802) ⟨hI, hKK_802, hPC_802⟩ K_802 (A_803 * d + B_803) (by omega) (by omega)) (kw_X0_entryAt hts tw_661 ⟨by decide, by decide⟩) (preV_of hh hK (hI.1 _ (by decide)) es801 rfl) rfl rfl hl.1 rfl (lv_room (Nat.le_of_ble_eq_true rfl)) dX11_product_41 ⟨Nat.le_of_ble_eq_true rfl, Nat.le_of_ble_eq_true rfl⟩) hh hA (fun r_806 H locs hw_806 hh => ?_)
      exact hp_lretR hx hb hr hlocks hsz hh (trivial) dX11_product_44
    · obtain rfl : r_803 = 0 := Eq.trans hw_803 (if_neg hp_803)
      refine lv_if_ne (tgt := 27) hx hb dX11_product_20 (by decide) (fun c_0 => absurd c_0 (by decide)) (fun _ => ?_)
      refine lv_ldc2 hx hb hown (hts _ tw_420) dX11_product_23 ?_
      exact hp_lretR hx hb hr hlocks hsz hh (trivial) dX11_product_26
  · obtain rfl : r_802 = 0 := Eq.trans hw_802 (if_neg hp_802)
    refine lv_if_eq (tgt := 23) hx hb dX11_product_8 (by decide) (fun _ => ?_) (fun c_0 => absurd c_0 (by decide))
    refine lv_ldc2 hx hb hown (hts _ tw_420) dX11_product_23 ?_
    exact hp_lretR hx hb hr hlocks hsz hh (trivial) dX11_product_26
theorem kw_X11_product {R : Room} {s : State} {args : Array Value} {own : String} {idx : Nat} (hts : ∀ w ∈ TB, w.before args s = true) (hl : Cond.methodLink own idx yX11_product ∈ TB) (hR : 2 + 1 ≤ R.frames ∧ 8 + (4 + 11) + 40 * 2 ≤ R.locals) : CallW R s args own RX11 idx yX11_product cX11_product 4 (some .long) (Cond.code yX11_product cX11_product 4 (some .long) :: TB) (rmN 2) 0 0 3 := cwV 3 hts (TB_V hl tw_653 tw_654 tw_1 tw_655) rfl rfl rfl (by decide +kernel) hR
set_option maxHeartbeats 4000000 in
set_option maxRecDepth 100000 in
/-- times -/
theorem c_X11_times (l : Launch) (D : va_G) (cy : Nat → ClassId) (sz : Nat) (cs : List Nat) (ad : Nat → Nat) (en : Nat → va_E) (hI : SX cy cs ad en) (k j : Int32) (hC : CP cy cs ad en)   : Met l yX11_times (Cond.code yX11_times cX11_times 3 (some .int) :: TB) (rmN 4) (va_Pc [.ref (ad 0), .int k, .int j] (Pre D cy cs ad en sz)) (va_Qi (S := Nat → va_E) (fun r en1 => SX cy cs ad en1 ∧ (∀ c, (c < 71 ∨ 74 ≤ c) → en1 c = en c)) (PostM D cs ad) (Af cs ad sz)) 0 0 (Af cs ad sz) := by
  refine Met.ofW (cc := cX11_times) (maxL := 3) (ret := (some .int)) (by decide) rfl ?_
  intro p e s m args below meth c s₁ B hml hv
  obtain ⟨rfl, hsz, hP, hK, hD0⟩ := hv
  have hx := B.exec
  have hb := B.bytes
  have hr := B.returns
  have hts : ∀ w ∈ TB, w.before _ s = true := fun w h => atoms_spec (ws := _ :: TB) B.pre w (List.mem_cons_of_mem _ h)
  have hown : s.vm.findClass RX11 = some m.cls := findClass_of_methodNamed B.named
  have hlocks := B.notSynchronized
  have hh : Hp D (Af cs ad sz) (Af cs ad sz) s.heap s.heap [] cs ad en := ⟨hP, Af_self hD0, va_S.rf⟩
  have hA : ∀ q : Nat, s.heap.size ≤ q → Af cs ad sz q := fun q h => Or.inr (by rw [hsz] at h; exact h)
  have hl := lv_entry ([.ref (ad 0), .int k, .int j]) (n := 3) (Nat.le_of_ble_eq_true rfl)
  rw [lg_entry_eq]
  generalize (lg_sl ([.ref (ad 0), .int k, .int j]) ++ List.replicate (3 - (lg_sl ([.ref (ad 0), .int k, .int j])).length) Slot.unset).toArray = ls at hl ⊢
  have hl : lv_has ls 3 [(0, .ref (ad 0)), (1, .int k), (2, .int j)] := hl
  have hf0 : ∀ c, (c < 71 ∨ 74 ≤ c) → en c = en c := fun _ _ => rfl
  obtain ⟨wc_807, lf_807, es807, p0_807⟩ := get_A hI
  obtain ⟨cnt, d, mm, es808, hcnt, hd2, hd3, hmm⟩ := get_T hI
  refine lv_aload_n hx hb dX11_times_0 rfl (lv_at hl 0 rfl) ?_
  refine hp_get hx hb hts ix11 hown hK hh (q := 0) rfl (hI.1 _ (by decide)) es807 rfl 2 (by decide) (hts _ tw_247) (fun _ h9 => h9) rfl dX11_times_1 ?_
  refine lv_iload_n hx hb dX11_times_4 rfl (lv_at hl 1 rfl) ?_
  obtain ⟨ea_809, eb_809, ec_809, st0_809, cc0_809, ct0_809, un0_809, ow0_809, hn0_809, es809⟩ := get_C hI
  refine hp_callRi (va_runV (As := [.int k]) (rest := []) ⟨hx, hb, hml, hown, hts⟩ (c_X0_has l D cy _ cs ad en hI k ) (kw_X0_has hts tw_656 ⟨by decide, by decide⟩) (preV_of hh hK (hI.1 _ (by decide)) es809 rfl) rfl rfl hl.1 rfl (lv_room (Nat.le_of_ble_eq_true rfl)) dX11_times_5 ⟨Nat.le_of_ble_eq_true rfl, Nat.le_of_ble_eq_true rfl⟩) hh hA (fun r_810 H locs hw_810 hh => ?_)
  rcases Decidable.em (rdI (en 70) 7 = 1 ∧ 0 ≤ k.toInt ∧ k.toInt < (rdI (en 70) 9).toInt) with hp_810 | hp_810
  · obtain rfl : r_810 = 1 := Eq.trans hw_810 (if_pos hp_810)
    obtain ⟨ka_810, kb_810, kc_810, hKK_810, hPC_810⟩ := CP_found hC hp_810.1
    obtain ⟨ct_810, hct_810, hcte_810⟩ := PC_ct hPC_810
    obtain ⟨K_810, rfl, hK_810⟩ := has_nat (c := ct_810) ⟨hp_810.2.1, by have h9 := hp_810.2.2; rw [hcte_810, nI_toInt (by omega)] at h9; exact h9⟩
    refine lv_if_eq (tgt := 22) hx hb dX11_times_8 (by decide) (fun c_0 => absurd c_0 (by decide)) (fun _ => ?_)
    refine lv_aload_n hx hb dX11_times_11 rfl (lv_at hl 0 rfl) ?_
    refine hp_get hx hb hts ix11 hown hK hh (q := 0) rfl (hI.1 _ (by decide)) es807 rfl 2 (by decide) (hts _ tw_247) (fun _ h9 => h9) rfl dX11_times_12 ?_
    refine lv_iload_n hx hb dX11_times_15 rfl (lv_at hl 2 rfl) ?_
    refine hp_callRi (va_runV (As := [.int j]) (rest := []) ⟨hx, hb, hml, hown, hts⟩ (c_X0_has l D cy _ cs ad en hI j ) (kw_X0_has hts tw_656 ⟨by decide, by decide⟩) (preV_of hh hK (hI.1 _ (by decide)) es809 rfl) rfl rfl hl.1 rfl (lv_room (Nat.le_of_ble_eq_true rfl)) dX11_times_16 ⟨Nat.le_of_ble_eq_true rfl, Nat.le_of_ble_eq_true rfl⟩) hh hA (fun r_811 H locs hw_811 hh => ?_)
    rcases Decidable.em (rdI (en 70) 7 = 1 ∧ 0 ≤ j.toInt ∧ j.toInt < (rdI (en 70) 9).toInt) with hp_811 | hp_811
    · obtain rfl : r_811 = 1 := Eq.trans hw_811 (if_pos hp_811)
      obtain ⟨ka_811, kb_811, kc_811, hKK_811, hPC_811⟩ := CP_found hC hp_811.1
      obtain ⟨ct_811, hct_811, hcte_811⟩ := PC_ct hPC_811
      obtain ⟨K_811, rfl, hK_811⟩ := has_nat (c := ct_811) ⟨hp_811.2.1, by have h9 := hp_811.2.2; rw [hcte_811, nI_toInt (by omega)] at h9; exact h9⟩
      refine lv_if_ne (tgt := 24) hx hb dX11_times_19 (by decide) (fun _ => ?_) (fun c_0 => absurd c_0 (by decide))
      refine lv_aload_n hx hb dX11_times_24 rfl (lv_at hl 0 rfl) ?_
      refine hp_get hx hb hts ix11 hown hK hh (q := 0) rfl (hI.1 _ (by decide)) es807 rfl 2 (by decide) (hts _ tw_247) (fun _ h9 => h9) rfl dX11_times_25 ?_
      refine lv_iload_n hx hb dX11_times_28 rfl (lv_at hl 1 rfl) ?_
      refine lv_iload_n hx hb dX11_times_29 rfl (lv_at hl 2 rfl) ?_
      refine hp_callMi (va_runV (As := [.int (nI K_810), .int (nI K_811)]) (rest := []) ⟨hx, hb, hml, hown, hts⟩ (c_X0_numberOfProduct l D cy _ cs ad en (ka := ka_811) (kb := kb_811) (kc := kc_811) ⟨hI, hKK_811, hPC_811⟩ K_810 K_811 (by omega) (by omega)) (kw_X0_numberOfProduct hts tw_669 ⟨by decide, by decide⟩) (preV_of hh hK (hI.1 _ (by decide)) es809 rfl) rfl rfl hl.1 rfl (lv_room (Nat.le_of_ble_eq_true rfl)) dX11_times_30 ⟨Nat.le_of_ble_eq_true rfl, Nat.le_of_ble_eq_true rfl⟩) hh hA (fun r_812 H locs en_812 hw_812 hh => ?_)
      obtain ⟨hS_812, hu_812⟩ := hw_812
      have hI_812 := hS_812.1
      have hf_812 : ∀ c, (c < 71 ∨ 74 ≤ c) → en_812 c = en c := fun c hc => (hu_812 c (by omega)).trans (hf0 c hc)
      exact hp_iretM hx hb hr rfl hlocks hh (⟨hI_812, hf_812⟩) dX11_times_33
    · obtain rfl : r_811 = 0 := Eq.trans hw_811 (if_neg hp_811)
      refine lv_if_ne (tgt := 24) hx hb dX11_times_19 (by decide) (fun c_0 => absurd c_0 (by decide)) (fun _ => ?_)
      refine lv_iconst (v := (-1)) hx hb dX11_times_22 (by decide) ?_
      exact hp_iretM hx hb hr rfl hlocks hh (⟨hI, hf0⟩) dX11_times_23
  · obtain rfl : r_810 = 0 := Eq.trans hw_810 (if_neg hp_810)
    refine lv_if_eq (tgt := 22) hx hb dX11_times_8 (by decide) (fun _ => ?_) (fun c_0 => absurd c_0 (by decide))
    refine lv_iconst (v := (-1)) hx hb dX11_times_22 (by decide) ?_
    exact hp_iretM hx hb hr rfl hlocks hh (⟨hI, hf0⟩) dX11_times_23
theorem kw_X11_times {R : Room} {s : State} {args : Array Value} {own : String} {idx : Nat} (hts : ∀ w ∈ TB, w.before args s = true) (hl : Cond.methodLink own idx yX11_times ∈ TB) (hR : 4 + 1 ≤ R.frames ∧ 8 + (3 + 11) + 40 * 4 ≤ R.locals) : CallW R s args own RX11 idx yX11_times cX11_times 3 (some .int) (Cond.code yX11_times cX11_times 3 (some .int) :: TB) (rmN 4) 0 0 2 := cwV 2 hts (TB_V hl tw_666 tw_667 tw_1 tw_668) rfl rfl rfl (by decide +kernel) hR
