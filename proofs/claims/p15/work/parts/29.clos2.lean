set_option maxHeartbeats 4000000 in
set_option maxRecDepth 100000 in
/-- take -/
theorem c_X0_take (l : Launch) (D : va_G) (cy : Nat → ClassId) (sz : Nat) (cs : List Nat) (ad : Nat → Nat) (en : Nat → va_E) {ka kb kc : Nat} (hI : SC cy cs ad ka kb kc en) (q : Nat) (hq : q ∈ cs) (hq9 : q < 70 ∨ (70 < q ∧ q < 115)) (fa : Nat → Int64) (wl : Int32) (n : Nat) (S : CR) (hCL : CL9 ka kb kc n en S) (eq : en q = .inl (cy 1, 9, .inr (.inl fa)))  : Met l yX0_take (Cond.code yX0_take cX0_take 4 (some .boolean) :: TB) (rmN 2) (va_Pc [.ref (ad 70), .ref (ad q), .int wl] (Pre D cy cs ad en sz)) (va_Qi (S := Nat → va_E) (fun r en1 => SC cy cs ad ka kb kc en1 ∧ (∀ c, (c ≠ 70 ∧ c ≠ ka ∧ c ≠ kb ∧ c ≠ kc) → en1 c = en c) ∧ TKR ka kb kc n r en1 S (vec n fa) wl) (PostM D cs ad) (Af cs ad sz)) 0 0 (Af cs ad sz) := by
  refine Met.ofW (cc := cX0_take) (maxL := 4) (ret := (some .boolean)) (by decide) rfl ?_
  intro p e s m args below meth c s₁ B hml hv
  obtain ⟨rfl, hsz, hP, hK, hD0⟩ := hv
  have hx := B.exec
  have hb := B.bytes
  have hr := B.returns
  have hts : ∀ w ∈ TB, w.before _ s = true := fun w h => atoms_spec (ws := _ :: TB) B.pre w (List.mem_cons_of_mem _ h)
  have hown : s.vm.findClass RX0 = some m.cls := findClass_of_methodNamed B.named
  have hlocks := B.notSynchronized
  have hh : Hp D (Af cs ad sz) (Af cs ad sz) s.heap s.heap [] cs ad en := ⟨hP, Af_self hD0, va_S.rf⟩
  have hA : ∀ q : Nat, s.heap.size ≤ q → Af cs ad sz q := fun q h => Or.inr (by rw [hsz] at h; exact h)
  have hl := lv_entry ([.ref (ad 70), .ref (ad q), .int wl]) (n := 4) (Nat.le_of_ble_eq_true rfl)
  rw [lg_entry_eq]
  generalize (lg_sl ([.ref (ad 70), .ref (ad q), .int wl]) ++ List.replicate (4 - (lg_sl ([.ref (ad 70), .ref (ad q), .int wl])).length) Slot.unset).toArray = ls at hl ⊢
  have hl : lv_has ls 4 [(0, .ref (ad 70)), (1, .ref (ad q)), (2, .int wl)] := hl
  have hka1 : 115 ≤ ka := hI.2.1.2.2.2.1
  have hka2 : ka < kb := hI.2.1.2.2.2.2.1
  have hka3 : kb < kc := hI.2.1.2.2.2.2.2
  have hf0 : ∀ c, (c ≠ 70 ∧ c ≠ ka ∧ c ≠ kb ∧ c ≠ kc) → en c = en c := fun _ _ => rfl
  obtain ⟨sta_665, cc_665, ct_665, un_665, ow_665, hn_665, es665, p0_665, p1_665, p2_665, p3_665⟩ := get2_C hI
  obtain ⟨f_666, es666⟩ := get2_ea hI
  obtain ⟨f_667, es667⟩ := get2_eb hI
  obtain ⟨f_668, es668, p0_668⟩ := get2_ec hI
  have hn9 := hCL.1
  have hS2 := hCL.2.2.2.1.1
  have hct9 : ct_665 = S.length := n_eq ((show nI ct_665 = rdI (en 70) 9 from by rw [es665]; rfl).trans hCL.2.2.1) (by omega) (by have := hCL.2.2.2.1.1; omega)
  have hcc9 : cc_665 = n := n_eq ((show nI cc_665 = rdI (en 70) 8 from by rw [es665]; rfl).trans hCL.2.1) (by omega) (by omega)
  have hka9 : rdL (en ka) = f_666 := by rw [es666]; rfl
  have hkb9 : rdF (en kb) = f_667 := by rw [es667]; rfl
  have hkc9 : rdF (en kc) = f_668 := by rw [es668]; rfl
  refine lv_aload_n hx hb dX0_take_0 rfl (lv_at hl 0 rfl) ?_
  refine lv_aload_n hx hb dX0_take_1 rfl (lv_at hl 1 rfl) ?_
  refine hp_callRi (va_runV (As := [.ref (ad q)]) (rest := []) ⟨hx, hb, hml, hown, hts⟩ (c_X0_isBeyond l D cy _ cs ad en hI  q hq (by omega) fa n hCL.1 hCL.2.1 eq) (kw_X0_isBeyond hts tw_598 ⟨by decide, by decide⟩) (preV_of hh hK (hI.1.1 _ (by decide)) es665 rfl) rfl rfl hl.1 rfl (lv_room (Nat.le_of_ble_eq_true rfl)) dX0_take_2 ⟨Nat.le_of_ble_eq_true rfl, Nat.le_of_ble_eq_true rfl⟩) hh hA (fun r_669 H locs hw_669 hh => ?_)
  rcases hw_669 with ⟨hb_669, hy_669⟩ | ⟨hb_669, hy_669⟩
  · obtain rfl : r_669 = 1 := hb_669
    refine lv_if_eq (tgt := 10) hx hb dX0_take_5 (by decide) (fun c_0 => absurd c_0 (by decide)) (fun _ => ?_)
    refine lv_iconst (v := 0) hx hb dX0_take_8 (by decide) ?_
    exact hp_iretM hx hb hr rfl hlocks hh (⟨hI, hf0, Or.inr ⟨rfl, tk_bey hy_669⟩⟩) dX0_take_9
  · obtain rfl : r_669 = 0 := hb_669
    refine lv_if_eq (tgt := 10) hx hb dX0_take_5 (by decide) (fun _ => ?_) (fun c_0 => absurd c_0 (by decide))
    refine lv_aload_n hx hb dX0_take_10 rfl (lv_at hl 0 rfl) ?_
    refine lv_aload_n hx hb dX0_take_11 rfl (lv_at hl 1 rfl) ?_
    refine hp_callRi (va_runV (As := [.ref (ad q)]) (rest := []) ⟨hx, hb, hml, hown, hts⟩ (c_X0_slotOf l D cy _ cs ad en hI q hq (by omega) fa n S hCL eq) (kw_X0_slotOf hts tw_604 ⟨by decide, by decide⟩) (preV_of hh hK (hI.1.1 _ (by decide)) es665 rfl) rfl rfl hl.1 rfl (lv_room (Nat.le_of_ble_eq_true rfl)) dX0_take_12 ⟨Nat.le_of_ble_eq_true rfl, Nat.le_of_ble_eq_true rfl⟩) hh hA (fun r_670 H locs hw_670 hh => ?_)
    obtain ⟨S_670, hS_670, hr_670, hso_670⟩ := hw_670
    rw [hr_670]
    refine lv_istore_n (lv' := [(3, .int (nI S_670)), (0, .ref (ad 70)), (1, .ref (ad q)), (2, .int wl)]) hx hb dX0_take_15 rfl hl (by decide) rfl (fun ls hl => ?_)
    refine lv_aload_n hx hb dX0_take_16 rfl (lv_at hl 1 rfl) ?_
    refine hp_get hx hb hts ix0 hown hK hh (q := 70) rfl (hI.1.1 _ (by decide)) es665 rfl 6 (by decide) (hts _ tw_153) (fun _ h9 => h9) rfl dX0_take_17 ?_
    refine lv_iload_n hx hb dX0_take_20 rfl (lv_at hl 0 rfl) ?_
    refine hp_iald hx hb hK hh (q := kc) rfl hI.2.1.2.2.1 es668 (vp_in_nI (n := S_670) (by omega) (by decide)) dX0_take_21 ?_
    rw [nI_clamp (n := S_670) (by omega)]
    obtain ⟨v_671, hv_671, hfv_671⟩ := p0_668 S_670 (by omega)
    rw [hfv_671]
    refine lv_if_eq (tgt := 27) hx hb dX0_take_22 (by decide) (fun c_672 => ?_) (fun c_672 => ?_)
    · have n_672 : v_671 = 0 := n_eq (a := v_671) (b := 0) c_672 (by omega) (by decide)
      refine lv_aload_n hx hb dX0_take_27 rfl (lv_at hl 1 rfl) ?_
      refine hp_get hx hb hts ix0 hown hK hh (q := 70) rfl (hI.1.1 _ (by decide)) es665 rfl 9 (by decide) (hts _ tw_156) (fun _ h9 => h9) rfl dX0_take_28 ?_
      refine lv_sipush (v := 2000) hx hb dX0_take_31 (by decide) ?_
      refine lv_icmp_lt (tgt := 39) hx hb dX0_take_34 (by decide) (fun c_673 => ?_) (fun c_673 => ?_)
      · have n_673 : ct_665 < 2000 := n_lt (a := ct_665) (b := 2000) c_673 (by omega) (by decide)
        refine lv_aload_n hx hb dX0_take_39 rfl (lv_at hl 2 rfl) ?_
        refine lv_iconst (v := 0) hx hb dX0_take_40 (by decide) ?_
        refine lv_aload_n hx hb dX0_take_41 rfl (lv_at hl 1 rfl) ?_
        refine hp_get hx hb hts ix0 hown hK hh (q := 70) rfl (hI.1.1 _ (by decide)) es665 rfl 4 (by decide) (hts _ tw_151) (fun _ h9 => h9) rfl dX0_take_42 ?_
        refine lv_aload_n hx hb dX0_take_45 rfl (lv_at hl 1 rfl) ?_
        refine hp_get hx hb hts ix0 hown hK hh (q := 70) rfl (hI.1.1 _ (by decide)) es665 rfl 9 (by decide) (hts _ tw_156) (fun _ h9 => h9) rfl dX0_take_46 ?_
        refine lv_bipush (v := 9) hx hb dX0_take_49 (by decide) ?_
        refine lv_imul hx hb dX0_take_51 ?_
        rw [show (9 : Int32) = nI 9 from rfl, pk_mul ct_665 9]
        refine lv_aload_n hx hb dX0_take_52 rfl (lv_at hl 1 rfl) ?_
        refine hp_get hx hb hts ix0 hown hK hh (q := 70) rfl (hI.1.1 _ (by decide)) es665 rfl 8 (by decide) (hts _ tw_155) (fun _ h9 => h9) rfl dX0_take_53 ?_
        refine W.eq (g2 := F0 m 56 ls [.int (nI cc_665), .int (nI (ct_665 * 9)), .ref (ad ka), .int (nI 0), .ref (ad q)]) rfl ?_
        refine hp_copyl hx hb (hml.trans hl.1.symm) hown (hts _ tw_617) (hts _ tw_340) (hts _ tw_339) (hts _ tw_12) hK hh hq hI.2.1.1 eq es666 0 (ct_665 * 9) cc_665 (by decide) (by omega) (by omega) (by omega) (by omega) (Nat.le_of_ble_eq_true rfl) (Nat.le_of_ble_eq_true rfl) dX0_take_56 (fun H locs en_674 hen_674 hh => ?_)
        have eq_674 : en_674 q = .inl (cy 1, 9, .inr (.inl fa)) := by rw [hen_674, va_up_ne _ _ (by omega)]; exact eq
        have es665_674 : en_674 70 = .inr (0, [.ref (ad 1), .ref (ad 71), .ref (ad 72), .ref (ad 73), .ref (ad ka), .ref (ad kb), .ref (ad kc), .int (nI sta_665), .int (nI cc_665), .int (nI ct_665), .int un_665, .int ow_665, .int (nI hn_665)]) := by rw [hen_674, va_up_ne _ _ (by omega)]; exact es665
        have es667_674 : en_674 kb = .inl (cy 0, 2000, .inl f_667) := by rw [hen_674, va_up_ne _ _ (by omega)]; exact es667
        have es668_674 : en_674 kc = .inl (cy 0, 4096, .inl f_668) := by rw [hen_674, va_up_ne _ _ (by omega)]; exact es668
        have es666_674 : en_674 ka = .inl (cy 1, 18000, .inr (.inl (va_cpy fa f_666 0 (ct_665 * 9) cc_665))) := by rw [hen_674]; exact va_up_self _ _ _
        have hI_674 : SC cy cs ad ka kb kc en_674 := by rw [hen_674]; exact up2_ea hI ⟨(va_cpy fa f_666 0 (ct_665 * 9) cc_665), rfl⟩
        have hf_674 : ∀ c, (c ≠ 70 ∧ c ≠ ka ∧ c ≠ kb ∧ c ≠ kc) → en_674 c = en c := fun c hc => Eq.trans (show en_674 c = en c from by rw [hen_674, va_up_ne _ _ (by omega)]) (hf0 c hc)
        refine lv_aload_n hx hb dX0_take_59 rfl (lv_at hl 1 rfl) ?_
        refine hp_get hx hb hts ix0 hown hK hh (q := 70) rfl (hI.1.1 _ (by decide)) es665_674 rfl 5 (by decide) (hts _ tw_152) (fun _ h9 => h9) rfl dX0_take_60 ?_
        refine lv_aload_n hx hb dX0_take_63 rfl (lv_at hl 1 rfl) ?_
        refine hp_get hx hb hts ix0 hown hK hh (q := 70) rfl (hI.1.1 _ (by decide)) es665_674 rfl 9 (by decide) (hts _ tw_156) (fun _ h9 => h9) rfl dX0_take_64 ?_
        refine lv_iload_n hx hb dX0_take_67 rfl (lv_at hl 3 rfl) ?_
        refine hp_iast hx hb hK hh (q := kb) rfl hI.2.1.2.1 es667_674 (vp_in_nI (n := ct_665) (by omega) (by decide)) dX0_take_68 (fun H locs en_675 hen_675 hh => ?_)
        rw [nI_clamp (n := ct_665) (by omega)] at hen_675
        have eq_675 : en_675 q = .inl (cy 1, 9, .inr (.inl fa)) := by rw [hen_675, va_up_ne _ _ (by omega)]; exact eq_674
        have es665_675 : en_675 70 = .inr (0, [.ref (ad 1), .ref (ad 71), .ref (ad 72), .ref (ad 73), .ref (ad ka), .ref (ad kb), .ref (ad kc), .int (nI sta_665), .int (nI cc_665), .int (nI ct_665), .int un_665, .int ow_665, .int (nI hn_665)]) := by rw [hen_675, va_up_ne _ _ (by omega)]; exact es665_674
        have es668_675 : en_675 kc = .inl (cy 0, 4096, .inl f_668) := by rw [hen_675, va_up_ne _ _ (by omega)]; exact es668_674
        have es666_675 : en_675 ka = .inl (cy 1, 18000, .inr (.inl (va_cpy fa f_666 0 (ct_665 * 9) cc_665))) := by rw [hen_675, va_up_ne _ _ (by omega)]; exact es666_674
        have es667_675 : en_675 kb = .inl (cy 0, 2000, .inl (upd f_667 ct_665 wl)) := by rw [hen_675]; exact va_up_self _ _ _
        have hI_675 : SC cy cs ad ka kb kc en_675 := by rw [hen_675]; exact up2_eb hI_674 ⟨(upd f_667 ct_665 wl), rfl⟩
        have hf_675 : ∀ c, (c ≠ 70 ∧ c ≠ ka ∧ c ≠ kb ∧ c ≠ kc) → en_675 c = en c := fun c hc => Eq.trans (show en_675 c = en_674 c from by rw [hen_675, va_up_ne _ _ (by omega)]) (hf_674 c hc)
        refine lv_aload_n hx hb dX0_take_69 rfl (lv_at hl 1 rfl) ?_
        refine lv_dup hx hb dX0_take_70 rfl ?_
        refine hp_get hx hb hts ix0 hown hK hh (q := 70) rfl (hI.1.1 _ (by decide)) es665_675 rfl 9 (by decide) (hts _ tw_156) (fun _ h9 => h9) rfl dX0_take_71 ?_
        refine lv_iconst (v := 1) hx hb dX0_take_74 (by decide) ?_
        refine lv_iadd hx hb dX0_take_75 ?_
        rw [show (1 : Int32) = nI 1 from rfl, nI_add ct_665 1]
        refine hp_put hx hb hts ix0 tyX0 tyX0_ok nmX0 hown hK hh (q := 70) rfl (hI.1.1 _ (by decide)) es665_675 rfl 9 (by decide) (hts _ tw_156) (fun _ h9 => h9) rfl (ty := .int) (by decide +kernel) rfl rfl (Nat.le_of_ble_eq_true rfl) dX0_take_76 (fun H locs en_676 hen_676 hh => ?_)
        have eq_676 : en_676 q = .inl (cy 1, 9, .inr (.inl fa)) := by rw [hen_676, va_up_ne _ _ (by omega)]; exact eq_675
        have es668_676 : en_676 kc = .inl (cy 0, 4096, .inl f_668) := by rw [hen_676, va_up_ne _ _ (by omega)]; exact es668_675
        have es666_676 : en_676 ka = .inl (cy 1, 18000, .inr (.inl (va_cpy fa f_666 0 (ct_665 * 9) cc_665))) := by rw [hen_676, va_up_ne _ _ (by omega)]; exact es666_675
        have es667_676 : en_676 kb = .inl (cy 0, 2000, .inl (upd f_667 ct_665 wl)) := by rw [hen_676, va_up_ne _ _ (by omega)]; exact es667_675
        have es665_676 : en_676 70 = .inr (0, [.ref (ad 1), .ref (ad 71), .ref (ad 72), .ref (ad 73), .ref (ad ka), .ref (ad kb), .ref (ad kc), .int (nI sta_665), .int (nI cc_665), .int (nI (ct_665 + 1)), .int un_665, .int ow_665, .int (nI hn_665)]) := by rw [hen_676]; exact va_up_self _ _ _
        have hI_676 : SC cy cs ad ka kb kc en_676 := by rw [hen_676]; exact up2_C hI_675 ⟨sta_665, cc_665, (ct_665 + 1), un_665, ow_665, hn_665, rfl, p0_665, p1_665, (by omega), p3_665⟩
        have hf_676 : ∀ c, (c ≠ 70 ∧ c ≠ ka ∧ c ≠ kb ∧ c ≠ kc) → en_676 c = en c := fun c hc => Eq.trans (show en_676 c = en_675 c from by rw [hen_676, va_up_ne _ _ (by omega)]) (hf_675 c hc)
        refine lv_aload_n hx hb dX0_take_79 rfl (lv_at hl 1 rfl) ?_
        refine hp_get hx hb hts ix0 hown hK hh (q := 70) rfl (hI.1.1 _ (by decide)) es665_676 rfl 6 (by decide) (hts _ tw_153) (fun _ h9 => h9) rfl dX0_take_80 ?_
        refine lv_iload_n hx hb dX0_take_83 rfl (lv_at hl 0 rfl) ?_
        refine lv_aload_n hx hb dX0_take_84 rfl (lv_at hl 1 rfl) ?_
        refine hp_get hx hb hts ix0 hown hK hh (q := 70) rfl (hI.1.1 _ (by decide)) es665_676 rfl 9 (by decide) (hts _ tw_156) (fun _ h9 => h9) rfl dX0_take_85 ?_
        refine hp_iast hx hb hK hh (q := kc) rfl hI.2.1.2.2.1 es668_676 (vp_in_nI (n := S_670) (by omega) (by decide)) dX0_take_88 (fun H locs en_677 hen_677 hh => ?_)
        rw [nI_clamp (n := S_670) (by omega)] at hen_677
        have eq_677 : en_677 q = .inl (cy 1, 9, .inr (.inl fa)) := by rw [hen_677, va_up_ne _ _ (by omega)]; exact eq_676
        have es666_677 : en_677 ka = .inl (cy 1, 18000, .inr (.inl (va_cpy fa f_666 0 (ct_665 * 9) cc_665))) := by rw [hen_677, va_up_ne _ _ (by omega)]; exact es666_676
        have es667_677 : en_677 kb = .inl (cy 0, 2000, .inl (upd f_667 ct_665 wl)) := by rw [hen_677, va_up_ne _ _ (by omega)]; exact es667_676
        have es665_677 : en_677 70 = .inr (0, [.ref (ad 1), .ref (ad 71), .ref (ad 72), .ref (ad 73), .ref (ad ka), .ref (ad kb), .ref (ad kc), .int (nI sta_665), .int (nI cc_665), .int (nI (ct_665 + 1)), .int un_665, .int ow_665, .int (nI hn_665)]) := by rw [hen_677, va_up_ne _ _ (by omega)]; exact es665_676
        have es668_677 : en_677 kc = .inl (cy 0, 4096, .inl (upd f_668 S_670 (nI (ct_665 + 1)))) := by rw [hen_677]; exact va_up_self _ _ _
        have hI_677 : SC cy cs ad ka kb kc en_677 := by rw [hen_677]; exact up2_ec hI_676 ⟨(upd f_668 S_670 (nI (ct_665 + 1))), rfl, (vals_updB p0_668 (by omega))⟩
        have hf_677 : ∀ c, (c ≠ 70 ∧ c ≠ ka ∧ c ≠ kb ∧ c ≠ kc) → en_677 c = en c := fun c hc => Eq.trans (show en_677 c = en_676 c from by rw [hen_677, va_up_ne _ _ (by omega)]) (hf_676 c hc)
        refine lv_iconst (v := 1) hx hb dX0_take_89 (by decide) ?_
        exact hp_iretM hx hb hr rfl hlocks hh (⟨hI_677, hf_677, Or.inl ⟨rfl, CL_add hCL hct9 (by omega) hy_669 hso_670 (by rw [hkc9, hfv_671, n_672]; rfl) (by rw [es665_677, es665]; rfl) (by rw [es665_677]; rfl) (by rw [es666_677, hka9, ← hcc9]; rfl) (by rw [es667_677, hkb9]; rfl) (by rw [es668_677, hkc9]; rfl)⟩⟩) dX0_take_90
      · have n_673 : 2000 ≤ ct_665 := n_nlt (a := ct_665) (b := 2000) c_673 (by omega) (by decide)
        refine lv_iconst (v := 0) hx hb dX0_take_37 (by decide) ?_
        exact hp_iretM hx hb hr rfl hlocks hh (⟨hI, hf0, Or.inr ⟨rfl, tk_full hy_669 (SO_out hS2 hso_670 (by rw [hkc9, hfv_671, n_672]; rfl)) (by omega)⟩⟩) dX0_take_38
    · have n_672 : v_671 ≠ 0 := n_neq (a := v_671) (b := 0) c_672 (by omega) (by decide)
      refine lv_iconst (v := 1) hx hb dX0_take_25 (by decide) ?_
      exact hp_iretM hx hb hr rfl hlocks hh (⟨hI, hf0, Or.inl ⟨rfl, S, tk_in hy_669 (SO_in hso_670 (fun q9 => n_672 (n_eq (a := v_671) (b := 0) (by rw [hkc9, hfv_671] at q9; exact q9) (by omega) (by decide)))), hCL⟩⟩) dX0_take_26
theorem kw_X0_take {R : Room} {s : State} {args : Array Value} {own : String} {idx : Nat} (hts : ∀ w ∈ TB, w.before args s = true) (hl : Cond.methodLink own idx yX0_take ∈ TB) (hR : 2 + 1 ≤ R.frames ∧ 8 + (4 + 11) + 40 * 2 ≤ R.locals) : CallW R s args own RX0 idx yX0_take cX0_take 4 (some .boolean) (Cond.code yX0_take cX0_take 4 (some .boolean) :: TB) (rmN 2) 0 0 2 := cwV 2 hts (TB_V hl tw_596 ts_15 tw_5 tw_597) rfl rfl rfl (by decide +kernel) hR
set_option maxHeartbeats 4000000 in
set_option maxRecDepth 100000 in
/-- extendByLetters -/
theorem c_X0_extendByLetters (l : Launch) (D : va_G) (cy : Nat → ClassId) (sz : Nat) (cs : List Nat) (ad : Nat → Nat) (en : Nat → va_E) {ka kb kc : Nat} (hI : SC cy cs ad ka kb kc en) (k : Nat) (hk : k < 2000) (n : Nat) (S : CR) (hCL : CL9 ka kb kc n en S) (hnd : n = dC en * dC en) (x : List Int64 × Int32) (hgx : S[k]? = some x)   : Met l yX0_extendByLetters (Cond.code yX0_extendByLetters cX0_extendByLetters 3 (some .boolean) :: TB) (rmN 3) (va_Pc [.ref (ad 70), .int (nI k)] (Pre D cy cs ad en sz)) (va_Qi (S := Nat → va_E) (fun r en1 => SC cy cs ad ka kb kc en1 ∧ (∀ c, ((c < 70 ∨ 74 ≤ c) ∧ c ≠ ka ∧ c ≠ kb ∧ c ≠ kc) → en1 c = en c) ∧ ((r = 1 ∧ ∃ T, ex9 bX (MC en) x.1 x.2 S (kC en) = some T ∧ CL9 ka kb kc n en1 T) ∨ (r = 0 ∧ ex9 bX (MC en) x.1 x.2 S (kC en) = none))) (PostM D cs ad) (Af cs ad sz)) 0 0 (Af cs ad sz) := by
  refine Met.ofW (cc := cX0_extendByLetters) (maxL := 3) (ret := (some .boolean)) (by decide) rfl ?_
  intro p e s m args below meth c s₁ B hml hv
  obtain ⟨rfl, hsz, hP, hK, hD0⟩ := hv
  have hx := B.exec
  have hb := B.bytes
  have hr := B.returns
  have hts : ∀ w ∈ TB, w.before _ s = true := fun w h => atoms_spec (ws := _ :: TB) B.pre w (List.mem_cons_of_mem _ h)
  have hown : s.vm.findClass RX0 = some m.cls := findClass_of_methodNamed B.named
  have hlocks := B.notSynchronized
  have hh : Hp D (Af cs ad sz) (Af cs ad sz) s.heap s.heap [] cs ad en := ⟨hP, Af_self hD0, va_S.rf⟩
  have hA : ∀ q : Nat, s.heap.size ≤ q → Af cs ad sz q := fun q h => Or.inr (by rw [hsz] at h; exact h)
  have hl := lv_entry ([.ref (ad 70), .int (nI k)]) (n := 3) (Nat.le_of_ble_eq_true rfl)
  rw [lg_entry_eq]
  generalize (lg_sl ([.ref (ad 70), .int (nI k)]) ++ List.replicate (3 - (lg_sl ([.ref (ad 70), .int (nI k)])).length) Slot.unset).toArray = ls at hl ⊢
  have hl : lv_has ls 3 [(0, .ref (ad 70)), (1, .int (nI k))] := hl
  have hka1 : 115 ≤ ka := hI.2.1.2.2.2.1
  have hka2 : ka < kb := hI.2.1.2.2.2.2.1
  have hka3 : kb < kc := hI.2.1.2.2.2.2.2
  have hf0 : ∀ c, ((c < 70 ∨ 74 ≤ c) ∧ c ≠ ka ∧ c ≠ kb ∧ c ≠ kc) → en c = en c := fun _ _ => rfl
  obtain ⟨cnt, d, mm, es678, hcnt, hd2, hd3, hmm⟩ := get2_T hI
  obtain ⟨sta_679, cc_679, ct_679, un_679, ow_679, hn_679, es679, p0_679, p1_679, p2_679, p3_679⟩ := get2_C hI
  obtain ⟨f_680, es680⟩ := get2_ea hI
  have hn9 := hCL.1
  have hS2 := hCL.2.2.2.1.1
  have hct9 : ct_679 = S.length := n_eq ((show nI ct_679 = rdI (en 70) 9 from by rw [es679]; rfl).trans hCL.2.2.1) (by omega) (by have := hCL.2.2.2.1.1; omega)
  have hk9 : kC en = cnt := by unfold kC; rw [show rdI (en 1) 4 = nI cnt from by rw [es678]; rfl]; exact nI_clamp (by omega)
  have hd9 : dC en = d := by unfold dC; rw [show rdI (en 1) 5 = nI d from by rw [es678]; rfl]; exact nI_clamp (by omega)
  have hm9 : mC en = mm := by unfold mC; rw [show rdI (en 1) 6 = nI mm from by rw [es678]; rfl]; exact nI_clamp (by omega)
  have hka9 : rdL (en ka) = f_680 := by rw [es680]; rfl
  have hnd9 : n = d * d := by rw [hnd, hd9]
  have hkS := ge_lt hgx
  refine lv_aload_n hx hb dX0_extendByLetters_0 rfl (lv_at hl 0 rfl) ?_
  refine lv_iload_n hx hb dX0_extendByLetters_1 rfl (lv_at hl 1 rfl) ?_
  refine lv_aload_n hx hb dX0_extendByLetters_2 rfl (lv_at hl 0 rfl) ?_
  refine hp_get hx hb hts ix0 hown hK hh (q := 70) rfl (hI.1.1 _ (by decide)) es679 rfl 1 (by decide) (hts _ tw_148) (fun _ h9 => h9) rfl dX0_extendByLetters_3 ?_
  obtain ⟨f_681, es681⟩ := get2_cl hI
  refine hp_callMv (va_runV (As := [.int (nI k), .ref (ad 71)]) (rest := []) ⟨hx, hb, hml, hown, hts⟩ (c_X0_load l D cy _ cs ad en ka kb kc k (by omega) (hI.1.1 _ (by decide)) hI.2.1.1 71 (hI.1.1 _ (by decide)) (by omega) (by omega) sta_679 cc_679 ct_679 un_679 ow_679 hn_679 f_680 f_681 es679 es680 es681   ) (kw_X0_load hts tw_622 ⟨by decide, by decide⟩) (preV_of hh hK (hI.1.1 _ (by decide)) es679 rfl) rfl rfl hl.1 rfl (lv_room (Nat.le_of_ble_eq_true rfl)) dX0_extendByLetters_6 ⟨Nat.le_of_ble_eq_true rfl, Nat.le_of_ble_eq_true rfl⟩) hh hA (fun H locs en_682 hw_682 hh => ?_)
  have hen_682 := hw_682
  have es678_682 : en_682 1 = .inr (7, [.ref (ad 2), .ref (ad 3), .ref (ad 10), .ref (ad 11), .int (nI cnt), .int (nI d), .int (nI mm)]) := by rw [hen_682, va_up_ne _ _ (by decide)]; exact es678
  have es679_682 : en_682 70 = .inr (0, [.ref (ad 1), .ref (ad 71), .ref (ad 72), .ref (ad 73), .ref (ad ka), .ref (ad kb), .ref (ad kc), .int (nI sta_679), .int (nI cc_679), .int (nI ct_679), .int un_679, .int ow_679, .int (nI hn_679)]) := by rw [hen_682, va_up_ne _ _ (by decide)]; exact es679
  have es680_682 : en_682 ka = .inl (cy 1, 18000, .inr (.inl f_680)) := by rw [hen_682, va_up_ne _ _ (by omega)]; exact es680
  have es681_682 : en_682 71 = .inl (cy 1, 9, .inr (.inl (va_cpy f_680 f_681 (k * 9) 0 9))) := by rw [hen_682]; exact va_up_self _ _ _
  have hI_682 : SC cy cs ad ka kb kc en_682 := by rw [hen_682]; exact up2_cl hI ⟨(va_cpy f_680 f_681 (k * 9) 0 9), rfl⟩
  have hf_682 : ∀ c, ((c < 70 ∨ 74 ≤ c) ∧ c ≠ ka ∧ c ≠ kb ∧ c ≠ kc) → en_682 c = en c := fun c hc => Eq.trans (show en_682 c = en c from by rw [hen_682, va_up_ne _ _ (by omega)]) (hf0 c hc)
  have hCL_682 := CL_k (e1 := en_682) hCL (by rw [hen_682, va_up_ne _ _ (by omega)]) (by rw [hen_682, va_up_ne _ _ (by omega)]) (by rw [hen_682, va_up_ne _ _ (by omega)]) (by rw [hen_682, va_up_ne _ _ (by omega)])
  have hl0 : ∀ i, i < n → rdL (en_682 71) i = vg x.1 i := CL_ld hCL hgx (by rw [es681_682, hka9]; rfl)
  refine lv_iconst (v := 0) hx hb dX0_extendByLetters_9 (by decide) ?_
  refine lv_istore_n (lv' := [(2, .int 0), (0, .ref (ad 70)), (1, .int (nI k))]) hx hb dX0_extendByLetters_10 rfl hl (by decide) rfl (fun ls hl => ?_)
  have loop_683 : ∀ (fu j683 : Nat)  (en_683 : Nat → va_E) (ls : Array Slot) (H : Heap) (locs : List Loc), 0 ≤ j683 → j683 ≤ cnt → cnt < j683 + fu → SC cy cs ad ka kb kc en_683 → (∀ c, ((c < 70 ∨ 74 ≤ c) ∧ c ≠ ka ∧ c ≠ kb ∧ c ≠ kc) → en_683 c = en c) → (∃ T, ex9 bX (MC en) x.1 x.2 S j683 = some T ∧ CL9 ka kb kc n en_683 T ∧ ∀ i, i < n → rdL (en_683 71) i = vg x.1 i) → lv_has ls 3 [(2, .int (nI j683)), (0, .ref (ad 70)), (1, .int (nI k))] → Hp D (Af cs ad sz) (Af cs ad sz) s.heap H locs cs ad en_683 → W p l e (headSpec (Cond.code yX0_extendByLetters cX0_extendByLetters 3 (some .boolean) :: TB) (rmN 3)).room s m ([.ref (ad 70), .int (nI k)] : List Value).toArray below meth c H locs 0 0 (MQ below (va_Qi (S := Nat → va_E) (fun r en1 => SC cy cs ad ka kb kc en1 ∧ (∀ c, ((c < 70 ∨ 74 ≤ c) ∧ c ≠ ka ∧ c ≠ kb ∧ c ≠ kc) → en1 c = en c) ∧ ((r = 1 ∧ ∃ T, ex9 bX (MC en) x.1 x.2 S (kC en) = some T ∧ CL9 ka kb kc n en1 T) ∨ (r = 0 ∧ ex9 bX (MC en) x.1 x.2 S (kC en) = none))) (PostM D cs ad) (Af cs ad sz)) ([.ref (ad 70), .int (nI k)] : List Value).toArray s 0 0 (Af cs ad sz)) (F0 m 11 ls []) := by
    intro fu
    induction fu with
    | zero => intro j683  en_683 ls H locs h0 h1 h2; exact absurd h2 (by omega)
    | succ fu ih_683 =>
      intro j683  en_683 ls H locs hj0_683 hj_683 hfu_683 hI_683 hf_683 i0_683 hl hh
      obtain ⟨T_683, hT_683, hc_683, hle_683⟩ := i0_683
      refine lv_iload_n hx hb dX0_extendByLetters_11 rfl (lv_at hl 0 rfl) ?_
      refine lv_aload_n hx hb dX0_extendByLetters_12 rfl (lv_at hl 1 rfl) ?_
      obtain ⟨sta_684, cc_684, ct_684, un_684, ow_684, hn_684, es684, p0_684, p1_684, p2_684, p3_684⟩ := get2_C hI_683
      refine hp_get hx hb hts ix0 hown hK hh (q := 70) rfl (hI.1.1 _ (by decide)) es684 rfl 0 (by decide) (hts _ tw_147) (fun _ h9 => h9) rfl dX0_extendByLetters_13 ?_
      have es678_685 : en_683 1 = .inr (7, [.ref (ad 2), .ref (ad 3), .ref (ad 10), .ref (ad 11), .int (nI cnt), .int (nI d), .int (nI mm)]) := (hf_683 1 (by omega)).trans es678
      refine hp_callRi (va_runV (As := []) (rest := [.int (nI j683)]) ⟨hx, hb, hml, hown, hts⟩ (c_X8_count l D cy _ cs ad en_683 (hI.1.1 _ (by decide)) cnt d mm hcnt hd2 hd3 hmm  es678_685) (kw_X8_count hts tw_592 ⟨by decide, by decide⟩) (preV_of hh hK (hI.1.1 _ (by decide)) es678_685 rfl) rfl rfl hl.1 rfl (lv_room (Nat.le_of_ble_eq_true rfl)) dX0_extendByLetters_16 ⟨Nat.le_of_ble_eq_true rfl, Nat.le_of_ble_eq_true rfl⟩) hh hA (fun r_686 H locs hw_686 hh => ?_)
      obtain rfl : r_686 = (nI cnt) := hw_686
      refine lv_icmp_ge (tgt := 72) hx hb dX0_extendByLetters_19 (by decide) (fun c_687 => ?_) (fun c_687 => ?_)
      · have n_687 : cnt ≤ j683 := n_le (a := cnt) (b := j683) c_687 (by omega) (by omega)
        refine lv_iconst (v := 1) hx hb dX0_extendByLetters_72 (by decide) ?_
        exact hp_iretM hx hb hr rfl hlocks hh (⟨hI_683, hf_683, Or.inl ⟨rfl, T_683, by rw [hk9]; have e9 : j683 = cnt := (by omega); rw [e9] at hT_683; exact hT_683, hc_683⟩⟩) dX0_extendByLetters_73
      · have n_687 : j683 < cnt := n_nle (a := cnt) (b := j683) c_687 (by omega) (by omega)
        refine lv_aload_n hx hb dX0_extendByLetters_22 rfl (lv_at hl 1 rfl) ?_
        refine hp_get hx hb hts ix0 hown hK hh (q := 70) rfl (hI.1.1 _ (by decide)) es684 rfl 0 (by decide) (hts _ tw_147) (fun _ h9 => h9) rfl dX0_extendByLetters_23 ?_
        refine lv_aload_n hx hb dX0_extendByLetters_26 rfl (lv_at hl 1 rfl) ?_
        refine hp_get hx hb hts ix0 hown hK hh (q := 70) rfl (hI.1.1 _ (by decide)) es684 rfl 1 (by decide) (hts _ tw_148) (fun _ h9 => h9) rfl dX0_extendByLetters_27 ?_
        refine lv_aload_n hx hb dX0_extendByLetters_30 rfl (lv_at hl 1 rfl) ?_
        refine hp_get hx hb hts ix0 hown hK hh (q := 70) rfl (hI.1.1 _ (by decide)) es684 rfl 0 (by decide) (hts _ tw_147) (fun _ h9 => h9) rfl dX0_extendByLetters_31 ?_
        refine lv_iload_n hx hb dX0_extendByLetters_34 rfl (lv_at hl 0 rfl) ?_
        have es688 := get2_rows hI_683
        unfold P_rows at es688
        refine hp_callRq (va_runV (As := [.int (nI j683)]) (rest := [.ref (ad 71), .ref (ad 1)]) ⟨hx, hb, hml, hown, hts⟩ (c_X8_rowOf l D cy _ cs ad en_683 (hI.1.1 _ (by decide)) (hI.1.1 _ (by decide)) cnt d mm hcnt hd2 hd3 hmm j683 (by omega) es678_685 es688) (kw_X8_rowOf hts tw_593 ⟨by decide, by decide⟩) (preV_of hh hK (hI.1.1 _ (by decide)) es678_685 rfl) rfl rfl hl.1 rfl (lv_room (Nat.le_of_ble_eq_true rfl)) dX0_extendByLetters_35 ⟨Nat.le_of_ble_eq_true rfl, Nat.le_of_ble_eq_true rfl⟩) hh hA (fun r_689 H locs hw_689 hh => ?_)
        obtain rfl : r_689 = some (ad (4 + j683)) := hw_689
        refine W.eq (g2 := F0 m 38 ls [.ref (ad (4 + j683)), .ref (ad 71), .ref (ad 1)]) rfl ?_
        refine lv_aload_n hx hb dX0_extendByLetters_38 rfl (lv_at hl 1 rfl) ?_
        refine hp_get hx hb hts ix0 hown hK hh (q := 70) rfl (hI.1.1 _ (by decide)) es684 rfl 3 (by decide) (hts _ tw_150) (fun _ h9 => h9) rfl dX0_extendByLetters_39 ?_
        obtain ⟨f_690, es690⟩ := get2_cl hI_683
        obtain ⟨f_691, es691⟩ := get2_row hI_683 (j := j683) (by omega)
        have hf71_683 : ∀ i, i < n → f_690 i = vg x.1 i := fun i hi => (show f_690 i = rdL (en_683 71) i from by rw [es690]; rfl).trans (hle_683 i hi)
        have hfr_683 : f_691 = rdL (en (4 + j683)) := (show f_691 = rdL (en_683 (4 + j683)) from by rw [es691]; rfl).trans (congrArg rdL (hf_683 (4 + j683) (by omega)))
        obtain ⟨f_692, es692⟩ := get2_cd hI_683
        refine hp_callMv (va_runV (As := [.ref (ad 71), .ref (ad (4 + j683)), .ref (ad 73)]) (rest := []) ⟨hx, hb, hml, hown, hts⟩ (c_X8_multiply l D cy _ cs ad en_683 (hI.1.1 _ (by decide)) cnt d mm hcnt hd2 hd3 hmm 71 (4 + j683) 73 (hI.1.1 _ (by decide)) (hI.1.1 _ (by omega)) (hI.1.1 _ (by decide)) (by omega) (by omega) (by omega) f_690 f_691 f_692 es678_685 es690 es691 es692) (kw_X8_multiply hts tw_626 ⟨by decide, by decide⟩) (preV_of hh hK (hI.1.1 _ (by decide)) es678_685 rfl) rfl rfl hl.1 rfl (lv_room (Nat.le_of_ble_eq_true rfl)) dX0_extendByLetters_42 ⟨Nat.le_of_ble_eq_true rfl, Nat.le_of_ble_eq_true rfl⟩) hh hA (fun H locs en_693 hw_693 hh => ?_)
        obtain ⟨g_693, hen_693, hg_693⟩ := hw_693
        have es684_693 : en_693 70 = .inr (0, [.ref (ad 1), .ref (ad 71), .ref (ad 72), .ref (ad 73), .ref (ad ka), .ref (ad kb), .ref (ad kc), .int (nI sta_684), .int (nI cc_684), .int (nI ct_684), .int un_684, .int ow_684, .int (nI hn_684)]) := by rw [hen_693, va_up_ne _ _ (by decide)]; exact es684
        have es678_693 : en_693 1 = .inr (7, [.ref (ad 2), .ref (ad 3), .ref (ad 10), .ref (ad 11), .int (nI cnt), .int (nI d), .int (nI mm)]) := by rw [hen_693, va_up_ne _ _ (by decide)]; exact es678_685
        have es688_693 : en_693 3 = .inl (cy 8, 6, .inr (.inr (.inr (.inr (rfA ad 6 4))))) := by rw [hen_693, va_up_ne _ _ (by decide)]; exact es688
        have es690_693 : en_693 71 = .inl (cy 1, 9, .inr (.inl f_690)) := by rw [hen_693, va_up_ne _ _ (by decide)]; exact es690
        have es691_693 : en_693 (4 + j683) = .inl (cy 1, 9, .inr (.inl f_691)) := by rw [hen_693, va_up_ne _ _ (by omega)]; exact es691
        have es692_693 : en_693 73 = .inl (cy 1, 9, .inr (.inl g_693)) := by rw [hen_693]; exact va_up_self _ _ _
        have hI_693 : SC cy cs ad ka kb kc en_693 := by rw [hen_693]; exact up2_cd hI_683 ⟨g_693, rfl⟩
        have hf_693 : ∀ c, ((c < 70 ∨ 74 ≤ c) ∧ c ≠ ka ∧ c ≠ kb ∧ c ≠ kc) → en_693 c = en c := fun c hc => Eq.trans (show en_693 c = en_683 c from by rw [hen_693, va_up_ne _ _ (by omega)]) (hf_683 c hc)
        have hCL_693 := CL_k (e1 := en_693) hc_683 (by rw [hen_693, va_up_ne _ _ (by omega)]) (by rw [hen_693, va_up_ne _ _ (by omega)]) (by rw [hen_693, va_up_ne _ _ (by omega)]) (by rw [hen_693, va_up_ne _ _ (by omega)])
        have hvc_683 : vec n g_693 = MC en x.1 j683 := MC_eq hd9 hm9 hnd9 hg_693 hf71_683 hfr_683
        refine lv_aload_n hx hb dX0_extendByLetters_45 rfl (lv_at hl 1 rfl) ?_
        refine lv_aload_n hx hb dX0_extendByLetters_46 rfl (lv_at hl 1 rfl) ?_
        refine hp_get hx hb hts ix0 hown hK hh (q := 70) rfl (hI.1.1 _ (by decide)) es684_693 rfl 3 (by decide) (hts _ tw_150) (fun _ h9 => h9) rfl dX0_extendByLetters_47 ?_
        refine lv_aload_n hx hb dX0_extendByLetters_50 rfl (lv_at hl 1 rfl) ?_
        refine hp_get hx hb hts ix0 hown hK hh (q := 70) rfl (hI.1.1 _ (by decide)) es684_693 rfl 5 (by decide) (hts _ tw_152) (fun _ h9 => h9) rfl dX0_extendByLetters_51 ?_
        refine lv_iload_n hx hb dX0_extendByLetters_54 rfl (lv_at hl 2 rfl) ?_
        obtain ⟨f_694, es694⟩ := get2_eb hI_693
        refine hp_iald hx hb hK hh (q := kb) rfl hI.2.1.2.1 es694 (vp_in_nI (n := k) (by omega) (by decide)) dX0_extendByLetters_55 ?_
        rw [nI_clamp (n := k) (by omega)]
        refine lv_iconst (v := 1) hx hb dX0_extendByLetters_56 (by decide) ?_
        refine lv_iadd hx hb dX0_extendByLetters_57 ?_
        have hwl_683 : f_694 k = x.2 := (show f_694 k = rdF (en_693 kb) k from by rw [es694]; rfl).trans (CL_len hCL_693 ((ex_wf hCL.2.2.2.1 _ _ hT_683).2.2 k x hgx))
        have hst_683 : ex9 bX (MC en) x.1 x.2 S (j683 + 1) = tk bX T_683 (vec n g_693) (f_694 k + 1) := by rw [ex_s hT_683, hvc_683, hwl_683]
        refine hp_callMi (va_runV (As := [.ref (ad 73), .int ((f_694 k) + 1)]) (rest := []) ⟨hx, hb, hml, hown, hts⟩ (c_X0_take l D cy _ cs ad en_693 hI_693 73 (hI.1.1 _ (by decide)) (by omega) g_693 ((f_694 k) + 1) n T_683 hCL_693 es692_693) (kw_X0_take hts tw_594 ⟨by decide, by decide⟩) (preV_of hh hK (hI.1.1 _ (by decide)) es684_693 rfl) rfl rfl hl.1 rfl (lv_room (Nat.le_of_ble_eq_true rfl)) dX0_extendByLetters_58 ⟨Nat.le_of_ble_eq_true rfl, Nat.le_of_ble_eq_true rfl⟩) hh hA (fun r_695 H locs en_695 hw_695 hh => ?_)
        obtain ⟨hI_695, hu_695, hx_695⟩ := hw_695
        have hf_695 : ∀ c, ((c < 70 ∨ 74 ≤ c) ∧ c ≠ ka ∧ c ≠ kb ∧ c ≠ kc) → en_695 c = en c := fun c hc => (hu_695 c (by omega)).trans (hf_693 c hc)
        rcases hx_695 with ⟨hb_695, T_695, ht_695, hc_695⟩ | ⟨hb_695, ht_695⟩
        · obtain rfl : r_695 = 1 := hb_695
          refine lv_if_ne (tgt := 66) hx hb dX0_extendByLetters_61 (by decide) (fun _ => ?_) (fun c_0 => absurd c_0 (by decide))
          refine lv_iinc (v := (nI (j683 + 1))) (lv' := [(2, .int (nI (j683 + 1))), (0, .ref (ad 70)), (1, .int (nI k))]) hx hb dX0_extendByLetters_66 hl (k := 0) rfl (nI_1 _) (by decide) rfl (fun ls hl => ?_)
          refine lv_goto (tgt := 11) hx hb dX0_extendByLetters_69 (by decide) ?_
          exact ih_683 ((j683 + 1))  en_695 ls H locs (by omega) (by omega) (by omega) hI_695 hf_695 (⟨T_695, hst_683.trans ht_695, hc_695, fun i hi => by rw [hu_695 71 (by omega), es690_693]; exact hf71_683 i hi⟩) (lv_sub hl [0, 1, 2] rfl) hh
        · obtain rfl : r_695 = 0 := hb_695
          refine lv_if_ne (tgt := 66) hx hb dX0_extendByLetters_61 (by decide) (fun c_0 => absurd c_0 (by decide)) (fun _ => ?_)
          refine lv_iconst (v := 0) hx hb dX0_extendByLetters_64 (by decide) ?_
          exact hp_iretM hx hb hr rfl hlocks hh (⟨hI_695, hf_695, Or.inr ⟨rfl, by rw [hk9]; exact ex_none (hst_683.trans ht_695) (by omega)⟩⟩) dX0_extendByLetters_65
  exact loop_683 (cnt + 1) 0  en_682 ls _ _ (Nat.le_refl _) (by omega) (by omega) hI_682 hf_682 (⟨S, rfl, hCL_682, hl0⟩) (lv_sub hl [0, 1, 2] rfl) hh
theorem kw_X0_extendByLetters {R : Room} {s : State} {args : Array Value} {own : String} {idx : Nat} (hts : ∀ w ∈ TB, w.before args s = true) (hl : Cond.methodLink own idx yX0_extendByLetters ∈ TB) (hR : 3 + 1 ≤ R.frames ∧ 8 + (3 + 11) + 40 * 3 ≤ R.locals) : CallW R s args own RX0 idx yX0_extendByLetters cX0_extendByLetters 3 (some .boolean) (Cond.code yX0_extendByLetters cX0_extendByLetters 3 (some .boolean) :: TB) (rmN 3) 0 0 1 := cwV 1 hts (TB_V hl tw_620 ts_20 tw_5 tw_621) rfl rfl rfl (by decide +kernel) hR
set_option maxHeartbeats 4000000 in
set_option maxRecDepth 100000 in
/-- sumUp -/
theorem c_X0_sumUp (l : Launch) (D : va_G) (cy : Nat → ClassId) (sz : Nat) (cs : List Nat) (ad : Nat → Nat) (en : Nat → va_E) {ka kb kc : Nat} (hI : SC cy cs ad ka kb kc en) (n : Nat) (S : CR) (hCL : CL9 ka kb kc n en S) (hnd : n = dC en * dC en)   : Met l yX0_sumUp (Cond.code yX0_sumUp cX0_sumUp 2 none :: TB) (rmN 3) (va_Pc [.ref (ad 70)] (Pre D cy cs ad en sz)) (va_Qv (S := Nat → va_E) (fun en1 => SC cy cs ad ka kb kc en1 ∧ (∀ c, ((c < 70 ∨ 74 ≤ c) ∧ c ≠ ka ∧ c ≠ kb ∧ c ≠ kc) → en1 c = en c) ∧ CL9 ka kb kc n en1 S ∧ SU9 en1 (dC en) (mC en) S) (PostM D cs ad) (Af cs ad sz)) 0 0 (Af cs ad sz) := by
  refine Met.ofW (cc := cX0_sumUp) (maxL := 2) (ret := none) (by decide) rfl ?_
  intro p e s m args below meth c s₁ B hml hv
  obtain ⟨rfl, hsz, hP, hK, hD0⟩ := hv
  have hx := B.exec
  have hb := B.bytes
  have hr := B.returns
  have hts : ∀ w ∈ TB, w.before _ s = true := fun w h => atoms_spec (ws := _ :: TB) B.pre w (List.mem_cons_of_mem _ h)
  have hown : s.vm.findClass RX0 = some m.cls := findClass_of_methodNamed B.named
  have hlocks := B.notSynchronized
  have hh : Hp D (Af cs ad sz) (Af cs ad sz) s.heap s.heap [] cs ad en := ⟨hP, Af_self hD0, va_S.rf⟩
  have hA : ∀ q : Nat, s.heap.size ≤ q → Af cs ad sz q := fun q h => Or.inr (by rw [hsz] at h; exact h)
  have hl := lv_entry ([.ref (ad 70)]) (n := 2) (Nat.le_of_ble_eq_true rfl)
  rw [lg_entry_eq]
  generalize (lg_sl ([.ref (ad 70)]) ++ List.replicate (2 - (lg_sl ([.ref (ad 70)])).length) Slot.unset).toArray = ls at hl ⊢
  have hl : lv_has ls 2 [(0, .ref (ad 70))] := hl
  have hka1 : 115 ≤ ka := hI.2.1.2.2.2.1
  have hka2 : ka < kb := hI.2.1.2.2.2.2.1
  have hka3 : kb < kc := hI.2.1.2.2.2.2.2
  have hf0 : ∀ c, ((c < 70 ∨ 74 ≤ c) ∧ c ≠ ka ∧ c ≠ kb ∧ c ≠ kc) → en c = en c := fun _ _ => rfl
  obtain ⟨cnt, d, mm, es696, hcnt, hd2, hd3, hmm⟩ := get2_T hI
  obtain ⟨sta_697, cc_697, ct_697, un_697, ow_697, hn_697, es697, p0_697, p1_697, p2_697, p3_697⟩ := get2_C hI
  have hn9 := hCL.1
  have hS2 := hCL.2.2.2.1.1
  have hct9 : ct_697 = S.length := n_eq ((show nI ct_697 = rdI (en 70) 9 from by rw [es697]; rfl).trans hCL.2.2.1) (by omega) (by have := hCL.2.2.2.1.1; omega)
  have hk9 : kC en = cnt := by unfold kC; rw [show rdI (en 1) 4 = nI cnt from by rw [es696]; rfl]; exact nI_clamp (by omega)
  have hd9 : dC en = d := by unfold dC; rw [show rdI (en 1) 5 = nI d from by rw [es696]; rfl]; exact nI_clamp (by omega)
  have hm9 : mC en = mm := by unfold mC; rw [show rdI (en 1) 6 = nI mm from by rw [es696]; rfl]; exact nI_clamp (by omega)
  have hnd9 : n = d * d := by rw [hnd, hd9]
  refine lv_aload_n hx hb dX0_sumUp_0 rfl (lv_at hl 0 rfl) ?_
  refine lv_iconst (v := 0) hx hb dX0_sumUp_1 (by decide) ?_
  refine hp_put hx hb hts ix0 tyX0 tyX0_ok nmX0 hown hK hh (q := 70) rfl (hI.1.1 _ (by decide)) es697 rfl 12 (by decide) (hts _ tw_163) (fun _ h9 => h9) rfl (ty := .boolean) (by decide +kernel) rfl rfl (Nat.le_of_ble_eq_true rfl) dX0_sumUp_2 (fun H locs en_698 hen_698 hh => ?_)
  have es696_698 : en_698 1 = .inr (7, [.ref (ad 2), .ref (ad 3), .ref (ad 10), .ref (ad 11), .int (nI cnt), .int (nI d), .int (nI mm)]) := by rw [hen_698, va_up_ne _ _ (by decide)]; exact es696
  have es697_698 : en_698 70 = .inr (0, [.ref (ad 1), .ref (ad 71), .ref (ad 72), .ref (ad 73), .ref (ad ka), .ref (ad kb), .ref (ad kc), .int (nI sta_697), .int (nI cc_697), .int (nI ct_697), .int un_697, .int ow_697, .int 0]) := by rw [hen_698]; exact va_up_self _ _ _
  have hI_698 : SC cy cs ad ka kb kc en_698 := by rw [hen_698]; exact up2_C hI ⟨sta_697, cc_697, ct_697, un_697, ow_697, 0, rfl, p0_697, p1_697, p2_697, (by omega)⟩
  have hf_698 : ∀ c, ((c < 70 ∨ 74 ≤ c) ∧ c ≠ ka ∧ c ≠ kb ∧ c ≠ kc) → en_698 c = en c := fun c hc => Eq.trans (show en_698 c = en c from by rw [hen_698, va_up_ne _ _ (by omega)]) (hf0 c hc)
  have hCL_698 := CL_kp (e1 := en_698) hCL (by rw [es697_698, es697]; rfl) (by rw [es697_698, es697]; rfl) (by rw [hen_698, va_up_ne _ _ (by omega)]) (by rw [hen_698, va_up_ne _ _ (by omega)]) (by rw [hen_698, va_up_ne _ _ (by omega)])
  refine lv_aload_n hx hb dX0_sumUp_5 rfl (lv_at hl 0 rfl) ?_
  refine lv_bipush (v := (-9)) hx hb dX0_sumUp_6 (by decide) ?_
  refine hp_put hx hb hts ix0 tyX0 tyX0_ok nmX0 hown hK hh (q := 70) rfl (hI.1.1 _ (by decide)) es697_698 rfl 10 (by decide) (hts _ tw_159) (fun _ h9 => h9) rfl (ty := .int) (by decide +kernel) rfl rfl (Nat.le_of_ble_eq_true rfl) dX0_sumUp_8 (fun H locs en_699 hen_699 hh => ?_)
  have es696_699 : en_699 1 = .inr (7, [.ref (ad 2), .ref (ad 3), .ref (ad 10), .ref (ad 11), .int (nI cnt), .int (nI d), .int (nI mm)]) := by rw [hen_699, va_up_ne _ _ (by decide)]; exact es696_698
  have es697_699 : en_699 70 = .inr (0, [.ref (ad 1), .ref (ad 71), .ref (ad 72), .ref (ad 73), .ref (ad ka), .ref (ad kb), .ref (ad kc), .int (nI sta_697), .int (nI cc_697), .int (nI ct_697), .int (-9), .int ow_697, .int 0]) := by rw [hen_699]; exact va_up_self _ _ _
  have hI_699 : SC cy cs ad ka kb kc en_699 := by rw [hen_699]; exact up2_C hI_698 ⟨sta_697, cc_697, ct_697, (-9), ow_697, 0, rfl, p0_697, p1_697, p2_697, (by omega)⟩
  have hf_699 : ∀ c, ((c < 70 ∨ 74 ≤ c) ∧ c ≠ ka ∧ c ≠ kb ∧ c ≠ kc) → en_699 c = en c := fun c hc => Eq.trans (show en_699 c = en_698 c from by rw [hen_699, va_up_ne _ _ (by omega)]) (hf_698 c hc)
  have hCL_699 := CL_kp (e1 := en_699) hCL_698 (by rw [es697_699, es697_698]; rfl) (by rw [es697_699, es697_698]; rfl) (by rw [hen_699, va_up_ne _ _ (by omega)]) (by rw [hen_699, va_up_ne _ _ (by omega)]) (by rw [hen_699, va_up_ne _ _ (by omega)])
  refine lv_aload_n hx hb dX0_sumUp_11 rfl (lv_at hl 0 rfl) ?_
  refine lv_iconst (v := 0) hx hb dX0_sumUp_12 (by decide) ?_
  refine hp_put hx hb hts ix0 tyX0 tyX0_ok nmX0 hown hK hh (q := 70) rfl (hI.1.1 _ (by decide)) es697_699 rfl 11 (by decide) (hts _ tw_161) (fun _ h9 => h9) rfl (ty := .int) (by decide +kernel) rfl rfl (Nat.le_of_ble_eq_true rfl) dX0_sumUp_13 (fun H locs en_700 hen_700 hh => ?_)
  have es696_700 : en_700 1 = .inr (7, [.ref (ad 2), .ref (ad 3), .ref (ad 10), .ref (ad 11), .int (nI cnt), .int (nI d), .int (nI mm)]) := by rw [hen_700, va_up_ne _ _ (by decide)]; exact es696_699
  have es697_700 : en_700 70 = .inr (0, [.ref (ad 1), .ref (ad 71), .ref (ad 72), .ref (ad 73), .ref (ad ka), .ref (ad kb), .ref (ad kc), .int (nI sta_697), .int (nI cc_697), .int (nI ct_697), .int (-9), .int 0, .int 0]) := by rw [hen_700]; exact va_up_self _ _ _
  have hI_700 : SC cy cs ad ka kb kc en_700 := by rw [hen_700]; exact up2_C hI_699 ⟨sta_697, cc_697, ct_697, (-9), 0, 0, rfl, p0_697, p1_697, p2_697, (by omega)⟩
  have hf_700 : ∀ c, ((c < 70 ∨ 74 ≤ c) ∧ c ≠ ka ∧ c ≠ kb ∧ c ≠ kc) → en_700 c = en c := fun c hc => Eq.trans (show en_700 c = en_699 c from by rw [hen_700, va_up_ne _ _ (by omega)]) (hf_699 c hc)
  have hCL_700 := CL_kp (e1 := en_700) hCL_699 (by rw [es697_700, es697_699]; rfl) (by rw [es697_700, es697_699]; rfl) (by rw [hen_700, va_up_ne _ _ (by omega)]) (by rw [hen_700, va_up_ne _ _ (by omega)]) (by rw [hen_700, va_up_ne _ _ (by omega)])
  refine lv_iconst (v := 0) hx hb dX0_sumUp_16 (by decide) ?_
  refine lv_istore_n (lv' := [(1, .int 0), (0, .ref (ad 70))]) hx hb dX0_sumUp_17 rfl hl (by decide) rfl (fun ls hl => ?_)
  have loop_701 : ∀ (fu j701 : Nat)  (en_701 : Nat → va_E) (ls : Array Slot) (H : Heap) (locs : List Loc), 0 ≤ j701 → j701 ≤ S.length → S.length < j701 + fu → SC cy cs ad ka kb kc en_701 → (∀ c, ((c < 70 ∨ 74 ≤ c) ∧ c ≠ ka ∧ c ≠ kb ∧ c ≠ kc) → en_701 c = en c) → (CL9 ka kb kc n en_701 S ∧ rdI (en_701 70) 10 = unS d S j701 ∧ rdI (en_701 70) 11 = owS d mm S j701 ∧ bI (rdI (en_701 70) 12) (nouS d S j701)) → lv_has ls 2 [(1, .int (nI j701)), (0, .ref (ad 70))] → Hp D (Af cs ad sz) (Af cs ad sz) s.heap H locs cs ad en_701 → W p l e (headSpec (Cond.code yX0_sumUp cX0_sumUp 2 none :: TB) (rmN 3)).room s m ([.ref (ad 70)] : List Value).toArray below meth c H locs 0 0 (MQ below (va_Qv (S := Nat → va_E) (fun en1 => SC cy cs ad ka kb kc en1 ∧ (∀ c, ((c < 70 ∨ 74 ≤ c) ∧ c ≠ ka ∧ c ≠ kb ∧ c ≠ kc) → en1 c = en c) ∧ CL9 ka kb kc n en1 S ∧ SU9 en1 (dC en) (mC en) S) (PostM D cs ad) (Af cs ad sz)) ([.ref (ad 70)] : List Value).toArray s 0 0 (Af cs ad sz)) (F0 m 18 ls []) := by
    intro fu
    induction fu with
    | zero => intro j701  en_701 ls H locs h0 h1 h2; exact absurd h2 (by omega)
    | succ fu ih_701 =>
      intro j701  en_701 ls H locs hj0_701 hj_701 hfu_701 hI_701 hf_701 i0_701 hl hh
      obtain ⟨hc_701, hu1_701, hu2_701, hu3_701⟩ := i0_701
      obtain ⟨sta_702, cc_702, ct_702, un_702, ow_702, hn_702, es702, p0_702, p1_702, p2_702, p3_702⟩ := get2_C hI_701
      have hct_701 : ct_702 = S.length := n_eq ((show nI ct_702 = rdI (en_701 70) 9 from by rw [es702]; rfl).trans hc_701.2.2.1) (by omega) (by have := hc_701.2.2.2.1.1; omega)
      refine lv_iload_n hx hb dX0_sumUp_18 rfl (lv_at hl 0 rfl) ?_
      refine lv_aload_n hx hb dX0_sumUp_19 rfl (lv_at hl 1 rfl) ?_
      refine hp_get hx hb hts ix0 hown hK hh (q := 70) rfl (hI.1.1 _ (by decide)) es702 rfl 9 (by decide) (hts _ tw_156) (fun _ h9 => h9) rfl dX0_sumUp_20 ?_
      refine lv_icmp_ge (tgt := 100) hx hb dX0_sumUp_23 (by decide) (fun c_703 => ?_) (fun c_703 => ?_)
      · have n_703 : ct_702 ≤ j701 := n_le (a := ct_702) (b := j701) c_703 (by omega) (by omega)
        exact hp_vretM hx hb hr hlocks hh (⟨hI_701, hf_701, hc_701, (by have e9 : j701 = S.length := (by omega); rw [e9] at hu1_701 hu2_701 hu3_701; unfold SU9; rw [hd9, hm9]; exact ⟨hu1_701, hu2_701, hu3_701⟩)⟩) dX0_sumUp_100
      · have n_703 : j701 < ct_702 := n_nle (a := ct_702) (b := j701) c_703 (by omega) (by omega)
        refine lv_aload_n hx hb dX0_sumUp_26 rfl (lv_at hl 1 rfl) ?_
        refine lv_iload_n hx hb dX0_sumUp_27 rfl (lv_at hl 0 rfl) ?_
        refine lv_iload_n hx hb dX0_sumUp_28 rfl (lv_at hl 0 rfl) ?_
        obtain ⟨x_701, hgx_701⟩ := ge_some (S := S) (k := j701) (by omega)
        refine hp_callMv (va_runV (As := [.int (nI j701), .int (nI j701)]) (rest := []) ⟨hx, hb, hml, hown, hts⟩ (c_X0_multiplyNumbered l D cy _ cs ad en_701 hI_701 j701 j701 (by omega) (by omega) n S hc_701 (by rw [(dC_k (hf_701 1 (by omega)))]; exact hnd) x_701 x_701 hgx_701 hgx_701) (kw_X0_multiplyNumbered hts tw_631 ⟨by decide, by decide⟩) (preV_of hh hK (hI.1.1 _ (by decide)) es702 rfl) rfl rfl hl.1 rfl (lv_room (Nat.le_of_ble_eq_true rfl)) dX0_sumUp_29 ⟨Nat.le_of_ble_eq_true rfl, Nat.le_of_ble_eq_true rfl⟩) hh hA (fun H locs en_704 hw_704 hh => ?_)
        obtain ⟨hI_704, hu_704, hx_704⟩ := hw_704
        have hf_704 : ∀ c, ((c < 70 ∨ 74 ≤ c) ∧ c ≠ ka ∧ c ≠ kb ∧ c ≠ kc) → en_704 c = en c := fun c hc => (hu_704 c (by omega)).trans (hf_701 c hc)
        have hCL_704 := CL_k (e1 := en_704) hc_701 (hu_704 70 (by omega)) (hu_704 ka (by omega)) (hu_704 kb (by omega)) (hu_704 kc (by omega))
        have hv1_704 : rdI (en_704 70) 10 = unS d S j701 := by rw [hu_704 70 (by omega)]; exact hu1_701
        have hv2_704 : rdI (en_704 70) 11 = owS d mm S j701 := by rw [hu_704 70 (by omega)]; exact hu2_701
        have hv3_704 : bI (rdI (en_704 70) 12) (nouS d S j701) := by rw [hu_704 70 (by omega)]; exact hu3_701
        obtain ⟨sta_705, cc_705, ct_705, un_705, ow_705, hn_705, es705, p0_705, p1_705, p2_705, p3_705⟩ := get2_C hI_704
        obtain ⟨f_706, es706⟩ := get2_cl hI_704
        obtain ⟨f_707, es707⟩ := get2_cd hI_704
        have hct_704 : ct_705 = S.length := n_eq ((show nI ct_705 = rdI (en_704 70) 9 from by rw [es705]; rfl).trans hCL_704.2.2.1) (by omega) (by have := hCL_704.2.2.2.1.1; omega)
        have hf71_704 : ∀ i, i < n → f_706 i = vg x_701.1 i := fun i hi => (show f_706 i = rdL (en_704 71) i from by rw [es706]; rfl).trans (hx_704.1 i hi)
        have hvm_704 : vec n f_707 = vec (d * d) (mulV d mm (vg x_701.1) (vg x_701.1)) := by have h9 := hx_704.2; rw [show rdL (en_704 73) = f_707 from by rw [es707]; rfl, show dC en_701 = d from (dC_k (hf_701 1 (by omega))).trans hd9, show mC en_701 = mm from (mC_k (hf_701 1 (by omega))).trans hm9] at h9; rw [h9, hnd9]
        refine lv_aload_n hx hb dX0_sumUp_32 rfl (lv_at hl 1 rfl) ?_
        refine lv_iload_n hx hb dX0_sumUp_33 rfl (lv_at hl 0 rfl) ?_
        refine lv_aload_n hx hb dX0_sumUp_34 rfl (lv_at hl 1 rfl) ?_
        refine hp_get hx hb hts ix0 hown hK hh (q := 70) rfl (hI.1.1 _ (by decide)) es705 rfl 3 (by decide) (hts _ tw_150) (fun _ h9 => h9) rfl dX0_sumUp_35 ?_
        refine hp_callRi (va_runV (As := [.int (nI j701), .ref (ad 73)]) (rest := []) ⟨hx, hb, hml, hown, hts⟩ (c_X0_isSame l D cy _ cs ad en_704 hI_704 j701 (by omega) 73 (hI.1.1 _ (by decide)) (by omega) f_707 n hCL_704.1 hCL_704.2.1 es707) (kw_X0_isSame hts tw_613 ⟨by decide, by decide⟩) (preV_of hh hK (hI.1.1 _ (by decide)) es705 rfl) rfl rfl hl.1 rfl (lv_room (Nat.le_of_ble_eq_true rfl)) dX0_sumUp_38 ⟨Nat.le_of_ble_eq_true rfl, Nat.le_of_ble_eq_true rfl⟩) hh hA (fun r_708 H locs hw_708 hh => ?_)
        rcases hw_708 with ⟨hb_708, hy_708⟩ | ⟨hb_708, hy_708⟩
        · obtain rfl : r_708 = 1 := hb_708
          refine lv_if_eq (tgt := 54) hx hb dX0_sumUp_41 (by decide) (fun c_0 => absurd c_0 (by decide)) (fun _ => ?_)
          refine lv_aload_n hx hb dX0_sumUp_44 rfl (lv_at hl 1 rfl) ?_
          refine lv_dup hx hb dX0_sumUp_45 rfl ?_
          refine hp_get hx hb hts ix0 hown hK hh (q := 70) rfl (hI.1.1 _ (by decide)) es705 rfl 11 (by decide) (hts _ tw_161) (fun _ h9 => h9) rfl dX0_sumUp_46 ?_
          refine lv_iconst (v := 1) hx hb dX0_sumUp_49 (by decide) ?_
          refine lv_iadd hx hb dX0_sumUp_50 ?_
          refine hp_put hx hb hts ix0 tyX0 tyX0_ok nmX0 hown hK hh (q := 70) rfl (hI.1.1 _ (by decide)) es705 rfl 11 (by decide) (hts _ tw_161) (fun _ h9 => h9) rfl (ty := .int) (by decide +kernel) rfl rfl (Nat.le_of_ble_eq_true rfl) dX0_sumUp_51 (fun H locs en_709 hen_709 hh => ?_)
          have es706_709 : en_709 71 = .inl (cy 1, 9, .inr (.inl f_706)) := by rw [hen_709, va_up_ne _ _ (by decide)]; exact es706
          have es707_709 : en_709 73 = .inl (cy 1, 9, .inr (.inl f_707)) := by rw [hen_709, va_up_ne _ _ (by decide)]; exact es707
          have es705_709 : en_709 70 = .inr (0, [.ref (ad 1), .ref (ad 71), .ref (ad 72), .ref (ad 73), .ref (ad ka), .ref (ad kb), .ref (ad kc), .int (nI sta_705), .int (nI cc_705), .int (nI ct_705), .int un_705, .int (ow_705 + 1), .int (nI hn_705)]) := by rw [hen_709]; exact va_up_self _ _ _
          have hI_709 : SC cy cs ad ka kb kc en_709 := by rw [hen_709]; exact up2_C hI_704 ⟨sta_705, cc_705, ct_705, un_705, (ow_705 + 1), hn_705, rfl, p0_705, p1_705, p2_705, p3_705⟩
          have hf_709 : ∀ c, ((c < 70 ∨ 74 ≤ c) ∧ c ≠ ka ∧ c ≠ kb ∧ c ≠ kc) → en_709 c = en c := fun c hc => Eq.trans (show en_709 c = en_704 c from by rw [hen_709, va_up_ne _ _ (by omega)]) (hf_704 c hc)
          have hCL_709 := CL_kp (e1 := en_709) hCL_704 (by rw [es705_709, es705]; rfl) (by rw [es705_709, es705]; rfl) (by rw [hen_709, va_up_ne _ _ (by omega)]) (by rw [hen_709, va_up_ne _ _ (by omega)]) (by rw [hen_709, va_up_ne _ _ (by omega)])
          refine lv_aload_n hx hb dX0_sumUp_54 rfl (lv_at hl 1 rfl) ?_
          refine hp_get hx hb hts ix0 hown hK hh (q := 70) rfl (hI.1.1 _ (by decide)) es705_709 rfl 0 (by decide) (hts _ tw_147) (fun _ h9 => h9) rfl dX0_sumUp_55 ?_
          refine lv_aload_n hx hb dX0_sumUp_58 rfl (lv_at hl 1 rfl) ?_
          refine hp_get hx hb hts ix0 hown hK hh (q := 70) rfl (hI.1.1 _ (by decide)) es705_709 rfl 1 (by decide) (hts _ tw_148) (fun _ h9 => h9) rfl dX0_sumUp_59 ?_
          have es696_710 : en_709 1 = .inr (7, [.ref (ad 2), .ref (ad 3), .ref (ad 10), .ref (ad 11), .int (nI cnt), .int (nI d), .int (nI mm)]) := (hf_709 1 (by omega)).trans es696
          refine hp_callRi (va_runV (As := [.ref (ad 71)]) (rest := []) ⟨hx, hb, hml, hown, hts⟩ (c_X8_isUnit l D cy _ cs ad en_709 (hI.1.1 _ (by decide)) cnt d mm hcnt hd2 hd3 hmm 71 (hI.1.1 _ (by decide)) f_706 es696_710 es706_709) (kw_X8_isUnit hts tw_635 ⟨by decide, by decide⟩) (preV_of hh hK (hI.1.1 _ (by decide)) es696_710 rfl) rfl rfl hl.1 rfl (lv_room (Nat.le_of_ble_eq_true rfl)) dX0_sumUp_62 ⟨Nat.le_of_ble_eq_true rfl, Nat.le_of_ble_eq_true rfl⟩) hh hA (fun r_711 H locs hw_711 hh => ?_)
          rcases hw_711 with ⟨hb_711, hy_711⟩ | ⟨hb_711, hy_711⟩
          · obtain rfl : r_711 = 1 := hb_711
            refine lv_if_eq (tgt := 73) hx hb dX0_sumUp_65 (by decide) (fun c_0 => absurd c_0 (by decide)) (fun _ => ?_)
            refine lv_aload_n hx hb dX0_sumUp_68 rfl (lv_at hl 1 rfl) ?_
            refine lv_iload_n hx hb dX0_sumUp_69 rfl (lv_at hl 0 rfl) ?_
            refine hp_put hx hb hts ix0 tyX0 tyX0_ok nmX0 hown hK hh (q := 70) rfl (hI.1.1 _ (by decide)) es705_709 rfl 10 (by decide) (hts _ tw_159) (fun _ h9 => h9) rfl (ty := .int) (by decide +kernel) rfl rfl (Nat.le_of_ble_eq_true rfl) dX0_sumUp_70 (fun H locs en_712 hen_712 hh => ?_)
            have es706_712 : en_712 71 = .inl (cy 1, 9, .inr (.inl f_706)) := by rw [hen_712, va_up_ne _ _ (by decide)]; exact es706_709
            have es707_712 : en_712 73 = .inl (cy 1, 9, .inr (.inl f_707)) := by rw [hen_712, va_up_ne _ _ (by decide)]; exact es707_709
            have es696_712 : en_712 1 = .inr (7, [.ref (ad 2), .ref (ad 3), .ref (ad 10), .ref (ad 11), .int (nI cnt), .int (nI d), .int (nI mm)]) := by rw [hen_712, va_up_ne _ _ (by decide)]; exact es696_710
            have es705_712 : en_712 70 = .inr (0, [.ref (ad 1), .ref (ad 71), .ref (ad 72), .ref (ad 73), .ref (ad ka), .ref (ad kb), .ref (ad kc), .int (nI sta_705), .int (nI cc_705), .int (nI ct_705), .int (nI j701), .int (ow_705 + 1), .int (nI hn_705)]) := by rw [hen_712]; exact va_up_self _ _ _
            have hI_712 : SC cy cs ad ka kb kc en_712 := by rw [hen_712]; exact up2_C hI_709 ⟨sta_705, cc_705, ct_705, (nI j701), (ow_705 + 1), hn_705, rfl, p0_705, p1_705, p2_705, p3_705⟩
            have hf_712 : ∀ c, ((c < 70 ∨ 74 ≤ c) ∧ c ≠ ka ∧ c ≠ kb ∧ c ≠ kc) → en_712 c = en c := fun c hc => Eq.trans (show en_712 c = en_709 c from by rw [hen_712, va_up_ne _ _ (by omega)]) (hf_709 c hc)
            have hCL_712 := CL_kp (e1 := en_712) hCL_709 (by rw [es705_712, es705_709]; rfl) (by rw [es705_712, es705_709]; rfl) (by rw [hen_712, va_up_ne _ _ (by omega)]) (by rw [hen_712, va_up_ne _ _ (by omega)]) (by rw [hen_712, va_up_ne _ _ (by omega)])
            refine lv_aload_n hx hb dX0_sumUp_73 rfl (lv_at hl 1 rfl) ?_
            refine hp_get hx hb hts ix0 hown hK hh (q := 70) rfl (hI.1.1 _ (by decide)) es705_712 rfl 0 (by decide) (hts _ tw_147) (fun _ h9 => h9) rfl dX0_sumUp_74 ?_
            refine lv_aload_n hx hb dX0_sumUp_77 rfl (lv_at hl 1 rfl) ?_
            refine hp_get hx hb hts ix0 hown hK hh (q := 70) rfl (hI.1.1 _ (by decide)) es705_712 rfl 1 (by decide) (hts _ tw_148) (fun _ h9 => h9) rfl dX0_sumUp_78 ?_
            refine hp_callRl (va_runV (As := [.ref (ad 71)]) (rest := []) ⟨hx, hb, hml, hown, hts⟩ (c_X8_norm l D cy _ cs ad en_712 (hI.1.1 _ (by decide)) cnt d mm hcnt hd2 hd3 hmm 71 (hI.1.1 _ (by decide)) f_706 es696_712 es706_712) (kw_X8_norm hts tw_639 ⟨by decide, by decide⟩) (preV_of hh hK (hI.1.1 _ (by decide)) es696_712 rfl) rfl rfl hl.1 rfl (lv_room (Nat.le_of_ble_eq_true rfl)) dX0_sumUp_81 ⟨Nat.le_of_ble_eq_true rfl, Nat.le_of_ble_eq_true rfl⟩) hh hA (fun r_713 H locs hw_713 hh => ?_)
            obtain rfl : r_713 = (normT d f_706 d) := hw_713
            refine lv_lconst (v := 0) hx hb dX0_sumUp_84 (by decide) ?_
            refine W.lcmp hx hb dX0_sumUp_85 ?_
            refine lv_if_ne (tgt := 94) hx hb dX0_sumUp_86 (by decide) (fun c_714 => ?_) (fun c_714 => ?_)
            · refine lv_iinc (v := (nI (j701 + 1))) (lv' := [(1, .int (nI (j701 + 1))), (0, .ref (ad 70))]) hx hb dX0_sumUp_94 hl (k := 0) rfl (nI_1 _) (by decide) rfl (fun ls hl => ?_)
              refine lv_goto (tgt := 18) hx hb dX0_sumUp_97 (by decide) ?_
              exact ih_701 ((j701 + 1))  en_712 ls H locs (by omega) (by omega) (by omega) hI_712 hf_712 (⟨hCL_712, (by rw [es705_712, unS_p hgx_701 ((CL_un hCL_704 hgx_701 hnd9 hf71_704).1 hy_711)]; rfl), (by rw [es705_712, owS_p hgx_701 (hvm_704.symm.trans ((AR_same hCL_704.2.2.2.2.1 hgx_701).2 hy_708).symm)]; exact congrArg (fun z => z + 1) ((show ow_705 = rdI (en_704 70) 11 from by rw [es705]; rfl).trans hv2_704)), (by rw [es705_712]; exact nouS_n (show bI (nI hn_705) (nouS d S j701) from by have h9 := hv3_704; rw [es705] at h9; exact h9) hgx_701 (fun q9 => c_714 ((lg_cmp_eq _ _).mpr ((normT_c9 (fun i hi => hf71_704 i (by omega)) d (Nat.le_refl _)).trans q9))))⟩) (lv_sub hl [0, 1] rfl) hh
            · refine lv_aload_n hx hb dX0_sumUp_89 rfl (lv_at hl 1 rfl) ?_
              refine lv_iconst (v := 1) hx hb dX0_sumUp_90 (by decide) ?_
              refine hp_put hx hb hts ix0 tyX0 tyX0_ok nmX0 hown hK hh (q := 70) rfl (hI.1.1 _ (by decide)) es705_712 rfl 12 (by decide) (hts _ tw_163) (fun _ h9 => h9) rfl (ty := .boolean) (by decide +kernel) rfl rfl (Nat.le_of_ble_eq_true rfl) dX0_sumUp_91 (fun H locs en_715 hen_715 hh => ?_)
              have es706_715 : en_715 71 = .inl (cy 1, 9, .inr (.inl f_706)) := by rw [hen_715, va_up_ne _ _ (by decide)]; exact es706_712
              have es707_715 : en_715 73 = .inl (cy 1, 9, .inr (.inl f_707)) := by rw [hen_715, va_up_ne _ _ (by decide)]; exact es707_712
              have es696_715 : en_715 1 = .inr (7, [.ref (ad 2), .ref (ad 3), .ref (ad 10), .ref (ad 11), .int (nI cnt), .int (nI d), .int (nI mm)]) := by rw [hen_715, va_up_ne _ _ (by decide)]; exact es696_712
              have es705_715 : en_715 70 = .inr (0, [.ref (ad 1), .ref (ad 71), .ref (ad 72), .ref (ad 73), .ref (ad ka), .ref (ad kb), .ref (ad kc), .int (nI sta_705), .int (nI cc_705), .int (nI ct_705), .int (nI j701), .int (ow_705 + 1), .int 1]) := by rw [hen_715]; exact va_up_self _ _ _
              have hI_715 : SC cy cs ad ka kb kc en_715 := by rw [hen_715]; exact up2_C hI_712 ⟨sta_705, cc_705, ct_705, (nI j701), (ow_705 + 1), 1, rfl, p0_705, p1_705, p2_705, (by omega)⟩
              have hf_715 : ∀ c, ((c < 70 ∨ 74 ≤ c) ∧ c ≠ ka ∧ c ≠ kb ∧ c ≠ kc) → en_715 c = en c := fun c hc => Eq.trans (show en_715 c = en_712 c from by rw [hen_715, va_up_ne _ _ (by omega)]) (hf_712 c hc)
              have hCL_715 := CL_kp (e1 := en_715) hCL_712 (by rw [es705_715, es705_712]; rfl) (by rw [es705_715, es705_712]; rfl) (by rw [hen_715, va_up_ne _ _ (by omega)]) (by rw [hen_715, va_up_ne _ _ (by omega)]) (by rw [hen_715, va_up_ne _ _ (by omega)])
              refine lv_iinc (v := (nI (j701 + 1))) (lv' := [(1, .int (nI (j701 + 1))), (0, .ref (ad 70))]) hx hb dX0_sumUp_94 hl (k := 0) rfl (nI_1 _) (by decide) rfl (fun ls hl => ?_)
              refine lv_goto (tgt := 18) hx hb dX0_sumUp_97 (by decide) ?_
              exact ih_701 ((j701 + 1))  en_715 ls H locs (by omega) (by omega) (by omega) hI_715 hf_715 (⟨hCL_715, (by rw [es705_715, unS_p hgx_701 ((CL_un hCL_704 hgx_701 hnd9 hf71_704).1 hy_711)]; rfl), (by rw [es705_715, owS_p hgx_701 (hvm_704.symm.trans ((AR_same hCL_704.2.2.2.2.1 hgx_701).2 hy_708).symm)]; exact congrArg (fun z => z + 1) ((show ow_705 = rdI (en_704 70) 11 from by rw [es705]; rfl).trans hv2_704)), (by rw [es705_715]; exact nouS_p hv3_704 hgx_701 ((normT_c9 (fun i hi => hf71_704 i (by omega)) d (Nat.le_refl _)).symm.trans ((lg_cmp_eq _ _).mp c_714)))⟩) (lv_sub hl [0, 1] rfl) hh
          · obtain rfl : r_711 = 0 := hb_711
            refine lv_if_eq (tgt := 73) hx hb dX0_sumUp_65 (by decide) (fun _ => ?_) (fun c_0 => absurd c_0 (by decide))
            refine lv_aload_n hx hb dX0_sumUp_73 rfl (lv_at hl 1 rfl) ?_
            refine hp_get hx hb hts ix0 hown hK hh (q := 70) rfl (hI.1.1 _ (by decide)) es705_709 rfl 0 (by decide) (hts _ tw_147) (fun _ h9 => h9) rfl dX0_sumUp_74 ?_
            refine lv_aload_n hx hb dX0_sumUp_77 rfl (lv_at hl 1 rfl) ?_
            refine hp_get hx hb hts ix0 hown hK hh (q := 70) rfl (hI.1.1 _ (by decide)) es705_709 rfl 1 (by decide) (hts _ tw_148) (fun _ h9 => h9) rfl dX0_sumUp_78 ?_
            refine hp_callRl (va_runV (As := [.ref (ad 71)]) (rest := []) ⟨hx, hb, hml, hown, hts⟩ (c_X8_norm l D cy _ cs ad en_709 (hI.1.1 _ (by decide)) cnt d mm hcnt hd2 hd3 hmm 71 (hI.1.1 _ (by decide)) f_706 es696_710 es706_709) (kw_X8_norm hts tw_639 ⟨by decide, by decide⟩) (preV_of hh hK (hI.1.1 _ (by decide)) es696_710 rfl) rfl rfl hl.1 rfl (lv_room (Nat.le_of_ble_eq_true rfl)) dX0_sumUp_81 ⟨Nat.le_of_ble_eq_true rfl, Nat.le_of_ble_eq_true rfl⟩) hh hA (fun r_716 H locs hw_716 hh => ?_)
            obtain rfl : r_716 = (normT d f_706 d) := hw_716
            refine lv_lconst (v := 0) hx hb dX0_sumUp_84 (by decide) ?_
            refine W.lcmp hx hb dX0_sumUp_85 ?_
            refine lv_if_ne (tgt := 94) hx hb dX0_sumUp_86 (by decide) (fun c_717 => ?_) (fun c_717 => ?_)
            · refine lv_iinc (v := (nI (j701 + 1))) (lv' := [(1, .int (nI (j701 + 1))), (0, .ref (ad 70))]) hx hb dX0_sumUp_94 hl (k := 0) rfl (nI_1 _) (by decide) rfl (fun ls hl => ?_)
              refine lv_goto (tgt := 18) hx hb dX0_sumUp_97 (by decide) ?_
              exact ih_701 ((j701 + 1))  en_709 ls H locs (by omega) (by omega) (by omega) hI_709 hf_709 (⟨hCL_709, (by rw [es705_709, unS_n hgx_701 (fun q9 => hy_711 ((CL_un hCL_704 hgx_701 hnd9 hf71_704).2 q9))]; exact (show un_705 = rdI (en_704 70) 10 from by rw [es705]; rfl).trans hv1_704), (by rw [es705_709, owS_p hgx_701 (hvm_704.symm.trans ((AR_same hCL_704.2.2.2.2.1 hgx_701).2 hy_708).symm)]; exact congrArg (fun z => z + 1) ((show ow_705 = rdI (en_704 70) 11 from by rw [es705]; rfl).trans hv2_704)), (by rw [es705_709]; exact nouS_n (show bI (nI hn_705) (nouS d S j701) from by have h9 := hv3_704; rw [es705] at h9; exact h9) hgx_701 (fun q9 => c_717 ((lg_cmp_eq _ _).mpr ((normT_c9 (fun i hi => hf71_704 i (by omega)) d (Nat.le_refl _)).trans q9))))⟩) (lv_sub hl [0, 1] rfl) hh
            · refine lv_aload_n hx hb dX0_sumUp_89 rfl (lv_at hl 1 rfl) ?_
              refine lv_iconst (v := 1) hx hb dX0_sumUp_90 (by decide) ?_
              refine hp_put hx hb hts ix0 tyX0 tyX0_ok nmX0 hown hK hh (q := 70) rfl (hI.1.1 _ (by decide)) es705_709 rfl 12 (by decide) (hts _ tw_163) (fun _ h9 => h9) rfl (ty := .boolean) (by decide +kernel) rfl rfl (Nat.le_of_ble_eq_true rfl) dX0_sumUp_91 (fun H locs en_718 hen_718 hh => ?_)
              have es706_718 : en_718 71 = .inl (cy 1, 9, .inr (.inl f_706)) := by rw [hen_718, va_up_ne _ _ (by decide)]; exact es706_709
              have es707_718 : en_718 73 = .inl (cy 1, 9, .inr (.inl f_707)) := by rw [hen_718, va_up_ne _ _ (by decide)]; exact es707_709
              have es696_718 : en_718 1 = .inr (7, [.ref (ad 2), .ref (ad 3), .ref (ad 10), .ref (ad 11), .int (nI cnt), .int (nI d), .int (nI mm)]) := by rw [hen_718, va_up_ne _ _ (by decide)]; exact es696_710
              have es705_718 : en_718 70 = .inr (0, [.ref (ad 1), .ref (ad 71), .ref (ad 72), .ref (ad 73), .ref (ad ka), .ref (ad kb), .ref (ad kc), .int (nI sta_705), .int (nI cc_705), .int (nI ct_705), .int un_705, .int (ow_705 + 1), .int 1]) := by rw [hen_718]; exact va_up_self _ _ _
              have hI_718 : SC cy cs ad ka kb kc en_718 := by rw [hen_718]; exact up2_C hI_709 ⟨sta_705, cc_705, ct_705, un_705, (ow_705 + 1), 1, rfl, p0_705, p1_705, p2_705, (by omega)⟩
              have hf_718 : ∀ c, ((c < 70 ∨ 74 ≤ c) ∧ c ≠ ka ∧ c ≠ kb ∧ c ≠ kc) → en_718 c = en c := fun c hc => Eq.trans (show en_718 c = en_709 c from by rw [hen_718, va_up_ne _ _ (by omega)]) (hf_709 c hc)
              have hCL_718 := CL_kp (e1 := en_718) hCL_709 (by rw [es705_718, es705_709]; rfl) (by rw [es705_718, es705_709]; rfl) (by rw [hen_718, va_up_ne _ _ (by omega)]) (by rw [hen_718, va_up_ne _ _ (by omega)]) (by rw [hen_718, va_up_ne _ _ (by omega)])
              refine lv_iinc (v := (nI (j701 + 1))) (lv' := [(1, .int (nI (j701 + 1))), (0, .ref (ad 70))]) hx hb dX0_sumUp_94 hl (k := 0) rfl (nI_1 _) (by decide) rfl (fun ls hl => ?_)
              refine lv_goto (tgt := 18) hx hb dX0_sumUp_97 (by decide) ?_
              exact ih_701 ((j701 + 1))  en_718 ls H locs (by omega) (by omega) (by omega) hI_718 hf_718 (⟨hCL_718, (by rw [es705_718, unS_n hgx_701 (fun q9 => hy_711 ((CL_un hCL_704 hgx_701 hnd9 hf71_704).2 q9))]; exact (show un_705 = rdI (en_704 70) 10 from by rw [es705]; rfl).trans hv1_704), (by rw [es705_718, owS_p hgx_701 (hvm_704.symm.trans ((AR_same hCL_704.2.2.2.2.1 hgx_701).2 hy_708).symm)]; exact congrArg (fun z => z + 1) ((show ow_705 = rdI (en_704 70) 11 from by rw [es705]; rfl).trans hv2_704)), (by rw [es705_718]; exact nouS_p hv3_704 hgx_701 ((normT_c9 (fun i hi => hf71_704 i (by omega)) d (Nat.le_refl _)).symm.trans ((lg_cmp_eq _ _).mp c_717)))⟩) (lv_sub hl [0, 1] rfl) hh
        · obtain rfl : r_708 = 0 := hb_708
          refine lv_if_eq (tgt := 54) hx hb dX0_sumUp_41 (by decide) (fun _ => ?_) (fun c_0 => absurd c_0 (by decide))
          refine lv_aload_n hx hb dX0_sumUp_54 rfl (lv_at hl 1 rfl) ?_
          refine hp_get hx hb hts ix0 hown hK hh (q := 70) rfl (hI.1.1 _ (by decide)) es705 rfl 0 (by decide) (hts _ tw_147) (fun _ h9 => h9) rfl dX0_sumUp_55 ?_
          refine lv_aload_n hx hb dX0_sumUp_58 rfl (lv_at hl 1 rfl) ?_
          refine hp_get hx hb hts ix0 hown hK hh (q := 70) rfl (hI.1.1 _ (by decide)) es705 rfl 1 (by decide) (hts _ tw_148) (fun _ h9 => h9) rfl dX0_sumUp_59 ?_
          have es696_719 : en_704 1 = .inr (7, [.ref (ad 2), .ref (ad 3), .ref (ad 10), .ref (ad 11), .int (nI cnt), .int (nI d), .int (nI mm)]) := (hf_704 1 (by omega)).trans es696
          refine hp_callRi (va_runV (As := [.ref (ad 71)]) (rest := []) ⟨hx, hb, hml, hown, hts⟩ (c_X8_isUnit l D cy _ cs ad en_704 (hI.1.1 _ (by decide)) cnt d mm hcnt hd2 hd3 hmm 71 (hI.1.1 _ (by decide)) f_706 es696_719 es706) (kw_X8_isUnit hts tw_635 ⟨by decide, by decide⟩) (preV_of hh hK (hI.1.1 _ (by decide)) es696_719 rfl) rfl rfl hl.1 rfl (lv_room (Nat.le_of_ble_eq_true rfl)) dX0_sumUp_62 ⟨Nat.le_of_ble_eq_true rfl, Nat.le_of_ble_eq_true rfl⟩) hh hA (fun r_720 H locs hw_720 hh => ?_)
          rcases hw_720 with ⟨hb_720, hy_720⟩ | ⟨hb_720, hy_720⟩
          · obtain rfl : r_720 = 1 := hb_720
            refine lv_if_eq (tgt := 73) hx hb dX0_sumUp_65 (by decide) (fun c_0 => absurd c_0 (by decide)) (fun _ => ?_)
            refine lv_aload_n hx hb dX0_sumUp_68 rfl (lv_at hl 1 rfl) ?_
            refine lv_iload_n hx hb dX0_sumUp_69 rfl (lv_at hl 0 rfl) ?_
            refine hp_put hx hb hts ix0 tyX0 tyX0_ok nmX0 hown hK hh (q := 70) rfl (hI.1.1 _ (by decide)) es705 rfl 10 (by decide) (hts _ tw_159) (fun _ h9 => h9) rfl (ty := .int) (by decide +kernel) rfl rfl (Nat.le_of_ble_eq_true rfl) dX0_sumUp_70 (fun H locs en_721 hen_721 hh => ?_)
            have es706_721 : en_721 71 = .inl (cy 1, 9, .inr (.inl f_706)) := by rw [hen_721, va_up_ne _ _ (by decide)]; exact es706
            have es707_721 : en_721 73 = .inl (cy 1, 9, .inr (.inl f_707)) := by rw [hen_721, va_up_ne _ _ (by decide)]; exact es707
            have es696_721 : en_721 1 = .inr (7, [.ref (ad 2), .ref (ad 3), .ref (ad 10), .ref (ad 11), .int (nI cnt), .int (nI d), .int (nI mm)]) := by rw [hen_721, va_up_ne _ _ (by decide)]; exact es696_719
            have es705_721 : en_721 70 = .inr (0, [.ref (ad 1), .ref (ad 71), .ref (ad 72), .ref (ad 73), .ref (ad ka), .ref (ad kb), .ref (ad kc), .int (nI sta_705), .int (nI cc_705), .int (nI ct_705), .int (nI j701), .int ow_705, .int (nI hn_705)]) := by rw [hen_721]; exact va_up_self _ _ _
            have hI_721 : SC cy cs ad ka kb kc en_721 := by rw [hen_721]; exact up2_C hI_704 ⟨sta_705, cc_705, ct_705, (nI j701), ow_705, hn_705, rfl, p0_705, p1_705, p2_705, p3_705⟩
            have hf_721 : ∀ c, ((c < 70 ∨ 74 ≤ c) ∧ c ≠ ka ∧ c ≠ kb ∧ c ≠ kc) → en_721 c = en c := fun c hc => Eq.trans (show en_721 c = en_704 c from by rw [hen_721, va_up_ne _ _ (by omega)]) (hf_704 c hc)
            have hCL_721 := CL_kp (e1 := en_721) hCL_704 (by rw [es705_721, es705]; rfl) (by rw [es705_721, es705]; rfl) (by rw [hen_721, va_up_ne _ _ (by omega)]) (by rw [hen_721, va_up_ne _ _ (by omega)]) (by rw [hen_721, va_up_ne _ _ (by omega)])
            refine lv_aload_n hx hb dX0_sumUp_73 rfl (lv_at hl 1 rfl) ?_
            refine hp_get hx hb hts ix0 hown hK hh (q := 70) rfl (hI.1.1 _ (by decide)) es705_721 rfl 0 (by decide) (hts _ tw_147) (fun _ h9 => h9) rfl dX0_sumUp_74 ?_
            refine lv_aload_n hx hb dX0_sumUp_77 rfl (lv_at hl 1 rfl) ?_
            refine hp_get hx hb hts ix0 hown hK hh (q := 70) rfl (hI.1.1 _ (by decide)) es705_721 rfl 1 (by decide) (hts _ tw_148) (fun _ h9 => h9) rfl dX0_sumUp_78 ?_
            refine hp_callRl (va_runV (As := [.ref (ad 71)]) (rest := []) ⟨hx, hb, hml, hown, hts⟩ (c_X8_norm l D cy _ cs ad en_721 (hI.1.1 _ (by decide)) cnt d mm hcnt hd2 hd3 hmm 71 (hI.1.1 _ (by decide)) f_706 es696_721 es706_721) (kw_X8_norm hts tw_639 ⟨by decide, by decide⟩) (preV_of hh hK (hI.1.1 _ (by decide)) es696_721 rfl) rfl rfl hl.1 rfl (lv_room (Nat.le_of_ble_eq_true rfl)) dX0_sumUp_81 ⟨Nat.le_of_ble_eq_true rfl, Nat.le_of_ble_eq_true rfl⟩) hh hA (fun r_722 H locs hw_722 hh => ?_)
            obtain rfl : r_722 = (normT d f_706 d) := hw_722
            refine lv_lconst (v := 0) hx hb dX0_sumUp_84 (by decide) ?_
            refine W.lcmp hx hb dX0_sumUp_85 ?_
            refine lv_if_ne (tgt := 94) hx hb dX0_sumUp_86 (by decide) (fun c_723 => ?_) (fun c_723 => ?_)
            · refine lv_iinc (v := (nI (j701 + 1))) (lv' := [(1, .int (nI (j701 + 1))), (0, .ref (ad 70))]) hx hb dX0_sumUp_94 hl (k := 0) rfl (nI_1 _) (by decide) rfl (fun ls hl => ?_)
              refine lv_goto (tgt := 18) hx hb dX0_sumUp_97 (by decide) ?_
              exact ih_701 ((j701 + 1))  en_721 ls H locs (by omega) (by omega) (by omega) hI_721 hf_721 (⟨hCL_721, (by rw [es705_721, unS_p hgx_701 ((CL_un hCL_704 hgx_701 hnd9 hf71_704).1 hy_720)]; rfl), (by rw [es705_721, owS_n hgx_701 (fun q9 => hy_708 ((AR_same hCL_704.2.2.2.2.1 hgx_701).1 (q9.symm.trans hvm_704.symm)))]; exact (show ow_705 = rdI (en_704 70) 11 from by rw [es705]; rfl).trans hv2_704), (by rw [es705_721]; exact nouS_n (show bI (nI hn_705) (nouS d S j701) from by have h9 := hv3_704; rw [es705] at h9; exact h9) hgx_701 (fun q9 => c_723 ((lg_cmp_eq _ _).mpr ((normT_c9 (fun i hi => hf71_704 i (by omega)) d (Nat.le_refl _)).trans q9))))⟩) (lv_sub hl [0, 1] rfl) hh
            · refine lv_aload_n hx hb dX0_sumUp_89 rfl (lv_at hl 1 rfl) ?_
              refine lv_iconst (v := 1) hx hb dX0_sumUp_90 (by decide) ?_
              refine hp_put hx hb hts ix0 tyX0 tyX0_ok nmX0 hown hK hh (q := 70) rfl (hI.1.1 _ (by decide)) es705_721 rfl 12 (by decide) (hts _ tw_163) (fun _ h9 => h9) rfl (ty := .boolean) (by decide +kernel) rfl rfl (Nat.le_of_ble_eq_true rfl) dX0_sumUp_91 (fun H locs en_724 hen_724 hh => ?_)
              have es706_724 : en_724 71 = .inl (cy 1, 9, .inr (.inl f_706)) := by rw [hen_724, va_up_ne _ _ (by decide)]; exact es706_721
              have es707_724 : en_724 73 = .inl (cy 1, 9, .inr (.inl f_707)) := by rw [hen_724, va_up_ne _ _ (by decide)]; exact es707_721
              have es696_724 : en_724 1 = .inr (7, [.ref (ad 2), .ref (ad 3), .ref (ad 10), .ref (ad 11), .int (nI cnt), .int (nI d), .int (nI mm)]) := by rw [hen_724, va_up_ne _ _ (by decide)]; exact es696_721
              have es705_724 : en_724 70 = .inr (0, [.ref (ad 1), .ref (ad 71), .ref (ad 72), .ref (ad 73), .ref (ad ka), .ref (ad kb), .ref (ad kc), .int (nI sta_705), .int (nI cc_705), .int (nI ct_705), .int (nI j701), .int ow_705, .int 1]) := by rw [hen_724]; exact va_up_self _ _ _
              have hI_724 : SC cy cs ad ka kb kc en_724 := by rw [hen_724]; exact up2_C hI_721 ⟨sta_705, cc_705, ct_705, (nI j701), ow_705, 1, rfl, p0_705, p1_705, p2_705, (by omega)⟩
              have hf_724 : ∀ c, ((c < 70 ∨ 74 ≤ c) ∧ c ≠ ka ∧ c ≠ kb ∧ c ≠ kc) → en_724 c = en c := fun c hc => Eq.trans (show en_724 c = en_721 c from by rw [hen_724, va_up_ne _ _ (by omega)]) (hf_721 c hc)
              have hCL_724 := CL_kp (e1 := en_724) hCL_721 (by rw [es705_724, es705_721]; rfl) (by rw [es705_724, es705_721]; rfl) (by rw [hen_724, va_up_ne _ _ (by omega)]) (by rw [hen_724, va_up_ne _ _ (by omega)]) (by rw [hen_724, va_up_ne _ _ (by omega)])
              refine lv_iinc (v := (nI (j701 + 1))) (lv' := [(1, .int (nI (j701 + 1))), (0, .ref (ad 70))]) hx hb dX0_sumUp_94 hl (k := 0) rfl (nI_1 _) (by decide) rfl (fun ls hl => ?_)
              refine lv_goto (tgt := 18) hx hb dX0_sumUp_97 (by decide) ?_
              exact ih_701 ((j701 + 1))  en_724 ls H locs (by omega) (by omega) (by omega) hI_724 hf_724 (⟨hCL_724, (by rw [es705_724, unS_p hgx_701 ((CL_un hCL_704 hgx_701 hnd9 hf71_704).1 hy_720)]; rfl), (by rw [es705_724, owS_n hgx_701 (fun q9 => hy_708 ((AR_same hCL_704.2.2.2.2.1 hgx_701).1 (q9.symm.trans hvm_704.symm)))]; exact (show ow_705 = rdI (en_704 70) 11 from by rw [es705]; rfl).trans hv2_704), (by rw [es705_724]; exact nouS_p hv3_704 hgx_701 ((normT_c9 (fun i hi => hf71_704 i (by omega)) d (Nat.le_refl _)).symm.trans ((lg_cmp_eq _ _).mp c_723)))⟩) (lv_sub hl [0, 1] rfl) hh
          · obtain rfl : r_720 = 0 := hb_720
            refine lv_if_eq (tgt := 73) hx hb dX0_sumUp_65 (by decide) (fun _ => ?_) (fun c_0 => absurd c_0 (by decide))
            refine lv_aload_n hx hb dX0_sumUp_73 rfl (lv_at hl 1 rfl) ?_
            refine hp_get hx hb hts ix0 hown hK hh (q := 70) rfl (hI.1.1 _ (by decide)) es705 rfl 0 (by decide) (hts _ tw_147) (fun _ h9 => h9) rfl dX0_sumUp_74 ?_
            refine lv_aload_n hx hb dX0_sumUp_77 rfl (lv_at hl 1 rfl) ?_
            refine hp_get hx hb hts ix0 hown hK hh (q := 70) rfl (hI.1.1 _ (by decide)) es705 rfl 1 (by decide) (hts _ tw_148) (fun _ h9 => h9) rfl dX0_sumUp_78 ?_
            refine hp_callRl (va_runV (As := [.ref (ad 71)]) (rest := []) ⟨hx, hb, hml, hown, hts⟩ (c_X8_norm l D cy _ cs ad en_704 (hI.1.1 _ (by decide)) cnt d mm hcnt hd2 hd3 hmm 71 (hI.1.1 _ (by decide)) f_706 es696_719 es706) (kw_X8_norm hts tw_639 ⟨by decide, by decide⟩) (preV_of hh hK (hI.1.1 _ (by decide)) es696_719 rfl) rfl rfl hl.1 rfl (lv_room (Nat.le_of_ble_eq_true rfl)) dX0_sumUp_81 ⟨Nat.le_of_ble_eq_true rfl, Nat.le_of_ble_eq_true rfl⟩) hh hA (fun r_725 H locs hw_725 hh => ?_)
            obtain rfl : r_725 = (normT d f_706 d) := hw_725
            refine lv_lconst (v := 0) hx hb dX0_sumUp_84 (by decide) ?_
            refine W.lcmp hx hb dX0_sumUp_85 ?_
            refine lv_if_ne (tgt := 94) hx hb dX0_sumUp_86 (by decide) (fun c_726 => ?_) (fun c_726 => ?_)
            · refine lv_iinc (v := (nI (j701 + 1))) (lv' := [(1, .int (nI (j701 + 1))), (0, .ref (ad 70))]) hx hb dX0_sumUp_94 hl (k := 0) rfl (nI_1 _) (by decide) rfl (fun ls hl => ?_)
              refine lv_goto (tgt := 18) hx hb dX0_sumUp_97 (by decide) ?_
              exact ih_701 ((j701 + 1))  en_704 ls H locs (by omega) (by omega) (by omega) hI_704 hf_704 (⟨hCL_704, (by rw [es705, unS_n hgx_701 (fun q9 => hy_720 ((CL_un hCL_704 hgx_701 hnd9 hf71_704).2 q9))]; exact (show un_705 = rdI (en_704 70) 10 from by rw [es705]; rfl).trans hv1_704), (by rw [es705, owS_n hgx_701 (fun q9 => hy_708 ((AR_same hCL_704.2.2.2.2.1 hgx_701).1 (q9.symm.trans hvm_704.symm)))]; exact (show ow_705 = rdI (en_704 70) 11 from by rw [es705]; rfl).trans hv2_704), (by rw [es705]; exact nouS_n (show bI (nI hn_705) (nouS d S j701) from by have h9 := hv3_704; rw [es705] at h9; exact h9) hgx_701 (fun q9 => c_726 ((lg_cmp_eq _ _).mpr ((normT_c9 (fun i hi => hf71_704 i (by omega)) d (Nat.le_refl _)).trans q9))))⟩) (lv_sub hl [0, 1] rfl) hh
            · refine lv_aload_n hx hb dX0_sumUp_89 rfl (lv_at hl 1 rfl) ?_
              refine lv_iconst (v := 1) hx hb dX0_sumUp_90 (by decide) ?_
              refine hp_put hx hb hts ix0 tyX0 tyX0_ok nmX0 hown hK hh (q := 70) rfl (hI.1.1 _ (by decide)) es705 rfl 12 (by decide) (hts _ tw_163) (fun _ h9 => h9) rfl (ty := .boolean) (by decide +kernel) rfl rfl (Nat.le_of_ble_eq_true rfl) dX0_sumUp_91 (fun H locs en_727 hen_727 hh => ?_)
              have es706_727 : en_727 71 = .inl (cy 1, 9, .inr (.inl f_706)) := by rw [hen_727, va_up_ne _ _ (by decide)]; exact es706
              have es707_727 : en_727 73 = .inl (cy 1, 9, .inr (.inl f_707)) := by rw [hen_727, va_up_ne _ _ (by decide)]; exact es707
              have es696_727 : en_727 1 = .inr (7, [.ref (ad 2), .ref (ad 3), .ref (ad 10), .ref (ad 11), .int (nI cnt), .int (nI d), .int (nI mm)]) := by rw [hen_727, va_up_ne _ _ (by decide)]; exact es696_719
              have es705_727 : en_727 70 = .inr (0, [.ref (ad 1), .ref (ad 71), .ref (ad 72), .ref (ad 73), .ref (ad ka), .ref (ad kb), .ref (ad kc), .int (nI sta_705), .int (nI cc_705), .int (nI ct_705), .int un_705, .int ow_705, .int 1]) := by rw [hen_727]; exact va_up_self _ _ _
              have hI_727 : SC cy cs ad ka kb kc en_727 := by rw [hen_727]; exact up2_C hI_704 ⟨sta_705, cc_705, ct_705, un_705, ow_705, 1, rfl, p0_705, p1_705, p2_705, (by omega)⟩
              have hf_727 : ∀ c, ((c < 70 ∨ 74 ≤ c) ∧ c ≠ ka ∧ c ≠ kb ∧ c ≠ kc) → en_727 c = en c := fun c hc => Eq.trans (show en_727 c = en_704 c from by rw [hen_727, va_up_ne _ _ (by omega)]) (hf_704 c hc)
              have hCL_727 := CL_kp (e1 := en_727) hCL_704 (by rw [es705_727, es705]; rfl) (by rw [es705_727, es705]; rfl) (by rw [hen_727, va_up_ne _ _ (by omega)]) (by rw [hen_727, va_up_ne _ _ (by omega)]) (by rw [hen_727, va_up_ne _ _ (by omega)])
              refine lv_iinc (v := (nI (j701 + 1))) (lv' := [(1, .int (nI (j701 + 1))), (0, .ref (ad 70))]) hx hb dX0_sumUp_94 hl (k := 0) rfl (nI_1 _) (by decide) rfl (fun ls hl => ?_)
              refine lv_goto (tgt := 18) hx hb dX0_sumUp_97 (by decide) ?_
              exact ih_701 ((j701 + 1))  en_727 ls H locs (by omega) (by omega) (by omega) hI_727 hf_727 (⟨hCL_727, (by rw [es705_727, unS_n hgx_701 (fun q9 => hy_720 ((CL_un hCL_704 hgx_701 hnd9 hf71_704).2 q9))]; exact (show un_705 = rdI (en_704 70) 10 from by rw [es705]; rfl).trans hv1_704), (by rw [es705_727, owS_n hgx_701 (fun q9 => hy_708 ((AR_same hCL_704.2.2.2.2.1 hgx_701).1 (q9.symm.trans hvm_704.symm)))]; exact (show ow_705 = rdI (en_704 70) 11 from by rw [es705]; rfl).trans hv2_704), (by rw [es705_727]; exact nouS_p hv3_704 hgx_701 ((normT_c9 (fun i hi => hf71_704 i (by omega)) d (Nat.le_refl _)).symm.trans ((lg_cmp_eq _ _).mp c_726)))⟩) (lv_sub hl [0, 1] rfl) hh
  exact loop_701 (S.length + 1) 0  en_700 ls _ _ (Nat.le_refl _) (by omega) (by omega) hI_700 hf_700 (⟨hCL_700, by rw [es697_700]; rfl, by rw [es697_700]; rfl, Or.inr ⟨by rw [es697_700]; rfl, fun q9 => by obtain ⟨i, y, h, -⟩ := q9; exact absurd h (Nat.not_lt_zero i)⟩⟩) (lv_sub hl [0, 1] rfl) hh
theorem kw_X0_sumUp {R : Room} {s : State} {args : Array Value} {own : String} {idx : Nat} (hts : ∀ w ∈ TB, w.before args s = true) (hl : Cond.methodLink own idx yX0_sumUp ∈ TB) (hR : 3 + 1 ≤ R.frames ∧ 8 + (2 + 11) + 40 * 3 ≤ R.locals) : CallW R s args own RX0 idx yX0_sumUp cX0_sumUp 2 none (Cond.code yX0_sumUp cX0_sumUp 2 none :: TB) (rmN 3) 0 0 0 := cwV 0 hts (TB_V hl tw_629 ts_22 tw_5 tw_630) rfl rfl rfl (by decide +kernel) hR
set_option maxHeartbeats 4000000 in
set_option maxRecDepth 100000 in
/-- prepareRows -/
theorem c_X0_prepareRows (l : Launch) (D : va_G) (cy : Nat → ClassId) (sz : Nat) (cs : List Nat) (ad : Nat → Nat) (en : Nat → va_E) {ka kb kc : Nat} (hI : SC cy cs ad ka kb kc en)    : Met l yX0_prepareRows (Cond.code yX0_prepareRows cX0_prepareRows 1 none :: TB) (rmN 1) (va_Pc [.ref (ad 70)] (Pre D cy cs ad en sz)) (va_Qv (S := Nat → va_E) (fun en1 => SC cy cs ad ka kb kc en1 ∧ (∀ c, ((c < 70 ∨ 74 ≤ c) ∧ c ≠ ka ∧ c ≠ kb ∧ c ≠ kc) → en1 c = en c) ∧ CL9 ka kb kc (dC en * dC en) en1 []) (PostM D cs ad) (Af cs ad sz)) 0 0 (Af cs ad sz) := by
  refine Met.ofW (cc := cX0_prepareRows) (maxL := 1) (ret := none) (by decide) rfl ?_
  intro p e s m args below meth c s₁ B hml hv
  obtain ⟨rfl, hsz, hP, hK, hD0⟩ := hv
  have hx := B.exec
  have hb := B.bytes
  have hr := B.returns
  have hts : ∀ w ∈ TB, w.before _ s = true := fun w h => atoms_spec (ws := _ :: TB) B.pre w (List.mem_cons_of_mem _ h)
  have hown : s.vm.findClass RX0 = some m.cls := findClass_of_methodNamed B.named
  have hlocks := B.notSynchronized
  have hh : Hp D (Af cs ad sz) (Af cs ad sz) s.heap s.heap [] cs ad en := ⟨hP, Af_self hD0, va_S.rf⟩
  have hA : ∀ q : Nat, s.heap.size ≤ q → Af cs ad sz q := fun q h => Or.inr (by rw [hsz] at h; exact h)
  have hl := lv_entry ([.ref (ad 70)]) (n := 1) (Nat.le_of_ble_eq_true rfl)
  rw [lg_entry_eq]
  generalize (lg_sl ([.ref (ad 70)]) ++ List.replicate (1 - (lg_sl ([.ref (ad 70)])).length) Slot.unset).toArray = ls at hl ⊢
  have hl : lv_has ls 1 [(0, .ref (ad 70))] := hl
  have hka1 : 115 ≤ ka := hI.2.1.2.2.2.1
  have hka2 : ka < kb := hI.2.1.2.2.2.2.1
  have hka3 : kb < kc := hI.2.1.2.2.2.2.2
  have hf0 : ∀ c, ((c < 70 ∨ 74 ≤ c) ∧ c ≠ ka ∧ c ≠ kb ∧ c ≠ kc) → en c = en c := fun _ _ => rfl
  obtain ⟨cnt, d, mm, es728, hcnt, hd2, hd3, hmm⟩ := get2_T hI
  obtain ⟨sta_729, cc_729, ct_729, un_729, ow_729, hn_729, es729, p0_729, p1_729, p2_729, p3_729⟩ := get2_C hI
  have hdd : d * d ≤ 9 := Nat.mul_le_mul hd3 hd3
  have hk9 : kC en = cnt := by unfold kC; rw [show rdI (en 1) 4 = nI cnt from by rw [es728]; rfl]; exact nI_clamp (by omega)
  have hd9 : dC en = d := by unfold dC; rw [show rdI (en 1) 5 = nI d from by rw [es728]; rfl]; exact nI_clamp (by omega)
  have hm9 : mC en = mm := by unfold mC; rw [show rdI (en 1) 6 = nI mm from by rw [es728]; rfl]; exact nI_clamp (by omega)
  refine lv_aload_n hx hb dX0_prepareRows_0 rfl (lv_at hl 0 rfl) ?_
  refine hp_get hx hb hts ix0 hown hK hh (q := 70) rfl (hI.1.1 _ (by decide)) es729 rfl 4 (by decide) (hts _ tw_151) (fun _ h9 => h9) rfl dX0_prepareRows_1 ?_
  refine lv_ifnull hx hb dX0_prepareRows_4 ?_
  refine lv_aload_n hx hb dX0_prepareRows_7 rfl (lv_at hl 0 rfl) ?_
  refine hp_get hx hb hts ix0 hown hK hh (q := 70) rfl (hI.1.1 _ (by decide)) es729 rfl 5 (by decide) (hts _ tw_152) (fun _ h9 => h9) rfl dX0_prepareRows_8 ?_
  refine lv_ifnull hx hb dX0_prepareRows_11 ?_
  refine lv_aload_n hx hb dX0_prepareRows_14 rfl (lv_at hl 0 rfl) ?_
  refine hp_get hx hb hts ix0 hown hK hh (q := 70) rfl (hI.1.1 _ (by decide)) es729 rfl 6 (by decide) (hts _ tw_153) (fun _ h9 => h9) rfl dX0_prepareRows_15 ?_
  refine lv_ifnonnull (tgt := 48) hx hb dX0_prepareRows_18 (by decide) ?_
  refine lv_aload_n hx hb dX0_prepareRows_48 rfl (lv_at hl 0 rfl) ?_
  refine hp_get hx hb hts ix0 hown hK hh (q := 70) rfl (hI.1.1 _ (by decide)) es729 rfl 6 (by decide) (hts _ tw_153) (fun _ h9 => h9) rfl dX0_prepareRows_49 ?_
  refine lv_iconst (v := 0) hx hb dX0_prepareRows_52 (by decide) ?_
  obtain ⟨f_730, es730, p0_730⟩ := get2_ec hI
  refine hp_callMv (va_runS (As := [.ref (ad kc), .int 0]) (rest := []) ⟨hx, hb, hml, hown, hts⟩ (c_J7_fill_53178 l D cy _ cs ad en kc 4096 hI.2.1.2.2.1 (by decide) f_730 0 es730) (kw_J7_fill_53178 hts tw_590 ⟨by decide, by decide⟩) (preS_of hh hK) rfl rfl hl.1 rfl (lv_room (Nat.le_of_ble_eq_true rfl)) dX0_prepareRows_53 ⟨Nat.le_of_ble_eq_true rfl, Nat.le_of_ble_eq_true rfl⟩) hh hA (fun H locs en_731 hw_731 hh => ?_)
  obtain ⟨f_731, hen_731, hf9_731⟩ := hw_731
  have es728_731 : en_731 1 = .inr (7, [.ref (ad 2), .ref (ad 3), .ref (ad 10), .ref (ad 11), .int (nI cnt), .int (nI d), .int (nI mm)]) := by rw [hen_731, va_up_ne _ _ (by omega)]; exact es728
  have es729_731 : en_731 70 = .inr (0, [.ref (ad 1), .ref (ad 71), .ref (ad 72), .ref (ad 73), .ref (ad ka), .ref (ad kb), .ref (ad kc), .int (nI sta_729), .int (nI cc_729), .int (nI ct_729), .int un_729, .int ow_729, .int (nI hn_729)]) := by rw [hen_731, va_up_ne _ _ (by omega)]; exact es729
  have es730_731 : en_731 kc = .inl (cy 0, 4096, .inl f_731) := by rw [hen_731]; exact va_up_self _ _ _
  have hI_731 : SC cy cs ad ka kb kc en_731 := by rw [hen_731]; exact up2_ec hI ⟨f_731, rfl, (fun i hi => ⟨0, by decide, hf9_731 i hi⟩)⟩
  have hf_731 : ∀ c, ((c < 70 ∨ 74 ≤ c) ∧ c ≠ ka ∧ c ≠ kb ∧ c ≠ kc) → en_731 c = en c := fun c hc => Eq.trans (show en_731 c = en c from by rw [hen_731, va_up_ne _ _ (by omega)]) (hf0 c hc)
  refine lv_aload_n hx hb dX0_prepareRows_56 rfl (lv_at hl 0 rfl) ?_
  refine lv_aload_n hx hb dX0_prepareRows_57 rfl (lv_at hl 0 rfl) ?_
  refine hp_get hx hb hts ix0 hown hK hh (q := 70) rfl (hI.1.1 _ (by decide)) es729_731 rfl 0 (by decide) (hts _ tw_147) (fun _ h9 => h9) rfl dX0_prepareRows_58 ?_
  refine hp_callRi (va_runV (As := []) (rest := [.ref (ad 70)]) ⟨hx, hb, hml, hown, hts⟩ (c_X8_cellCount l D cy _ cs ad en_731 (hI.1.1 _ (by decide)) cnt d mm hcnt hd2 hd3 hmm  es728_731) (kw_X8_cellCount hts tw_591 ⟨by decide, by decide⟩) (preV_of hh hK (hI.1.1 _ (by decide)) es728_731 rfl) rfl rfl hl.1 rfl (lv_room (Nat.le_of_ble_eq_true rfl)) dX0_prepareRows_61 ⟨Nat.le_of_ble_eq_true rfl, Nat.le_of_ble_eq_true rfl⟩) hh hA (fun r_732 H locs hw_732 hh => ?_)
  obtain rfl : r_732 = nI (d * d) := hw_732
  refine hp_put hx hb hts ix0 tyX0 tyX0_ok nmX0 hown hK hh (q := 70) rfl (hI.1.1 _ (by decide)) es729_731 rfl 8 (by decide) (hts _ tw_155) (fun _ h9 => h9) rfl (ty := .int) (by decide +kernel) rfl rfl (Nat.le_of_ble_eq_true rfl) dX0_prepareRows_64 (fun H locs en_733 hen_733 hh => ?_)
  have es728_733 : en_733 1 = .inr (7, [.ref (ad 2), .ref (ad 3), .ref (ad 10), .ref (ad 11), .int (nI cnt), .int (nI d), .int (nI mm)]) := by rw [hen_733, va_up_ne _ _ (by decide)]; exact es728_731
  have es730_733 : en_733 kc = .inl (cy 0, 4096, .inl f_731) := by rw [hen_733, va_up_ne _ _ (by omega)]; exact es730_731
  have es729_733 : en_733 70 = .inr (0, [.ref (ad 1), .ref (ad 71), .ref (ad 72), .ref (ad 73), .ref (ad ka), .ref (ad kb), .ref (ad kc), .int (nI sta_729), .int (nI (d * d)), .int (nI ct_729), .int un_729, .int ow_729, .int (nI hn_729)]) := by rw [hen_733]; exact va_up_self _ _ _
  have hI_733 : SC cy cs ad ka kb kc en_733 := by rw [hen_733]; exact up2_C hI_731 ⟨sta_729, (d * d), ct_729, un_729, ow_729, hn_729, rfl, p0_729, (by omega), p2_729, p3_729⟩
  have hf_733 : ∀ c, ((c < 70 ∨ 74 ≤ c) ∧ c ≠ ka ∧ c ≠ kb ∧ c ≠ kc) → en_733 c = en c := fun c hc => Eq.trans (show en_733 c = en_731 c from by rw [hen_733, va_up_ne _ _ (by omega)]) (hf_731 c hc)
  refine lv_aload_n hx hb dX0_prepareRows_67 rfl (lv_at hl 0 rfl) ?_
  refine lv_iconst (v := 0) hx hb dX0_prepareRows_68 (by decide) ?_
  refine hp_put hx hb hts ix0 tyX0 tyX0_ok nmX0 hown hK hh (q := 70) rfl (hI.1.1 _ (by decide)) es729_733 rfl 9 (by decide) (hts _ tw_156) (fun _ h9 => h9) rfl (ty := .int) (by decide +kernel) rfl rfl (Nat.le_of_ble_eq_true rfl) dX0_prepareRows_69 (fun H locs en_734 hen_734 hh => ?_)
  have es728_734 : en_734 1 = .inr (7, [.ref (ad 2), .ref (ad 3), .ref (ad 10), .ref (ad 11), .int (nI cnt), .int (nI d), .int (nI mm)]) := by rw [hen_734, va_up_ne _ _ (by decide)]; exact es728_733
  have es730_734 : en_734 kc = .inl (cy 0, 4096, .inl f_731) := by rw [hen_734, va_up_ne _ _ (by omega)]; exact es730_733
  have es729_734 : en_734 70 = .inr (0, [.ref (ad 1), .ref (ad 71), .ref (ad 72), .ref (ad 73), .ref (ad ka), .ref (ad kb), .ref (ad kc), .int (nI sta_729), .int (nI (d * d)), .int 0, .int un_729, .int ow_729, .int (nI hn_729)]) := by rw [hen_734]; exact va_up_self _ _ _
  have hI_734 : SC cy cs ad ka kb kc en_734 := by rw [hen_734]; exact up2_C hI_733 ⟨sta_729, (d * d), 0, un_729, ow_729, hn_729, rfl, p0_729, (by omega), (by omega), p3_729⟩
  have hf_734 : ∀ c, ((c < 70 ∨ 74 ≤ c) ∧ c ≠ ka ∧ c ≠ kb ∧ c ≠ kc) → en_734 c = en c := fun c hc => Eq.trans (show en_734 c = en_733 c from by rw [hen_734, va_up_ne _ _ (by omega)]) (hf_733 c hc)
  exact hp_vretM hx hb hr hlocks hh (⟨hI_734, hf_734, CL_0 (by rw [hd9]; exact hdd) (by rw [es729_734, hd9]; rfl) (by rw [es729_734]; rfl) (fun i hi => by rw [es730_734]; exact hf9_731 i hi)⟩) dX0_prepareRows_72
theorem kw_X0_prepareRows {R : Room} {s : State} {args : Array Value} {own : String} {idx : Nat} (hts : ∀ w ∈ TB, w.before args s = true) (hl : Cond.methodLink own idx yX0_prepareRows ∈ TB) (hR : 1 + 1 ≤ R.frames ∧ 8 + (1 + 11) + 40 * 1 ≤ R.locals) : CallW R s args own RX0 idx yX0_prepareRows cX0_prepareRows 1 none (Cond.code yX0_prepareRows cX0_prepareRows 1 none :: TB) (rmN 1) 0 0 0 := cwV 0 hts (TB_V hl tw_588 ts_14 tw_5 tw_589) rfl rfl rfl (by decide +kernel) hR
set_option maxHeartbeats 4000000 in
set_option maxRecDepth 100000 in
/-- findAll -/
theorem c_X0_findAll (l : Launch) (D : va_G) (cy : Nat → ClassId) (sz : Nat) (cs : List Nat) (ad : Nat → Nat) (en : Nat → va_E) {ka kb kc : Nat} (hI : SC cy cs ad ka kb kc en)    : Met l yX0_findAll (Cond.code yX0_findAll cX0_findAll 2 (some .boolean) :: TB) (rmN 4) (va_Pc [.ref (ad 70)] (Pre D cy cs ad en sz)) (va_Qi (S := Nat → va_E) (fun r en1 => SC cy cs ad ka kb kc en1 ∧ (∀ c, ((c < 70 ∨ 74 ≤ c) ∧ c ≠ ka ∧ c ≠ kb ∧ c ≠ kc) → en1 c = en c) ∧ ((r = 1 ∧ ∃ S, cloX en = some S ∧ CL9 ka kb kc (dC en * dC en) en1 S ∧ SU9 en1 (dC en) (mC en) S) ∨ (r = 0 ∧ cloX en = none))) (PostM D cs ad) (Af cs ad sz)) 0 0 (Af cs ad sz) := by
  refine Met.ofW (cc := cX0_findAll) (maxL := 2) (ret := (some .boolean)) (by decide) rfl ?_
  intro p e s m args below meth c s₁ B hml hv
  obtain ⟨rfl, hsz, hP, hK, hD0⟩ := hv
  have hx := B.exec
  have hb := B.bytes
  have hr := B.returns
  have hts : ∀ w ∈ TB, w.before _ s = true := fun w h => atoms_spec (ws := _ :: TB) B.pre w (List.mem_cons_of_mem _ h)
  have hown : s.vm.findClass RX0 = some m.cls := findClass_of_methodNamed B.named
  have hlocks := B.notSynchronized
  have hh : Hp D (Af cs ad sz) (Af cs ad sz) s.heap s.heap [] cs ad en := ⟨hP, Af_self hD0, va_S.rf⟩
  have hA : ∀ q : Nat, s.heap.size ≤ q → Af cs ad sz q := fun q h => Or.inr (by rw [hsz] at h; exact h)
  have hl := lv_entry ([.ref (ad 70)]) (n := 2) (Nat.le_of_ble_eq_true rfl)
  rw [lg_entry_eq]
  generalize (lg_sl ([.ref (ad 70)]) ++ List.replicate (2 - (lg_sl ([.ref (ad 70)])).length) Slot.unset).toArray = ls at hl ⊢
  have hl : lv_has ls 2 [(0, .ref (ad 70))] := hl
  have hka1 : 115 ≤ ka := hI.2.1.2.2.2.1
  have hka2 : ka < kb := hI.2.1.2.2.2.2.1
  have hka3 : kb < kc := hI.2.1.2.2.2.2.2
  have hf0 : ∀ c, ((c < 70 ∨ 74 ≤ c) ∧ c ≠ ka ∧ c ≠ kb ∧ c ≠ kc) → en c = en c := fun _ _ => rfl
  obtain ⟨cnt, d, mm, es735, hcnt, hd2, hd3, hmm⟩ := get2_T hI
  obtain ⟨sta_736, cc_736, ct_736, un_736, ow_736, hn_736, es736, p0_736, p1_736, p2_736, p3_736⟩ := get2_C hI
  have hk9 : kC en = cnt := by unfold kC; rw [show rdI (en 1) 4 = nI cnt from by rw [es735]; rfl]; exact nI_clamp (by omega)
  have hd9 : dC en = d := by unfold dC; rw [show rdI (en 1) 5 = nI d from by rw [es735]; rfl]; exact nI_clamp (by omega)
  have hm9 : mC en = mm := by unfold mC; rw [show rdI (en 1) 6 = nI mm from by rw [es735]; rfl]; exact nI_clamp (by omega)
  have hdd : d * d ≤ 9 := Nat.mul_le_mul hd3 hd3
  have hk6 : kC en ≤ 6 := by omega
  refine lv_aload_n hx hb dX0_findAll_0 rfl (lv_at hl 0 rfl) ?_
  refine hp_callMv (va_runV (As := []) (rest := []) ⟨hx, hb, hml, hown, hts⟩ (c_X0_prepareRows l D cy _ cs ad en hI  ) (kw_X0_prepareRows hts tw_586 ⟨by decide, by decide⟩) (preV_of hh hK (hI.1.1 _ (by decide)) es736 rfl) rfl rfl hl.1 rfl (lv_room (Nat.le_of_ble_eq_true rfl)) dX0_findAll_1 ⟨Nat.le_of_ble_eq_true rfl, Nat.le_of_ble_eq_true rfl⟩) hh hA (fun H locs en_737 hw_737 hh => ?_)
  obtain ⟨hI_737, hu_737, hx_737⟩ := hw_737
  have hf_737 : ∀ c, ((c < 70 ∨ 74 ≤ c) ∧ c ≠ ka ∧ c ≠ kb ∧ c ≠ kc) → en_737 c = en c := fun c hc => (hu_737 c (by omega)).trans (hf0 c hc)
  refine lv_iconst (v := 0) hx hb dX0_findAll_4 (by decide) ?_
  refine lv_istore_n (lv' := [(1, .int 0), (0, .ref (ad 70))]) hx hb dX0_findAll_5 rfl hl (by decide) rfl (fun ls hl => ?_)
  have loop_738 : ∀ (fu j738 : Nat)  (en_738 : Nat → va_E) (ls : Array Slot) (H : Heap) (locs : List Loc), 0 ≤ j738 → j738 ≤ cnt → cnt < j738 + fu → SC cy cs ad ka kb kc en_738 → (∀ c, ((c < 70 ∨ 74 ≤ c) ∧ c ≠ ka ∧ c ≠ kb ∧ c ≠ kc) → en_738 c = en c) → (∃ S, lt9 bX (RC en) j738 = some S ∧ CL9 ka kb kc (dC en * dC en) en_738 S) → lv_has ls 2 [(1, .int (nI j738)), (0, .ref (ad 70))] → Hp D (Af cs ad sz) (Af cs ad sz) s.heap H locs cs ad en_738 → W p l e (headSpec (Cond.code yX0_findAll cX0_findAll 2 (some .boolean) :: TB) (rmN 4)).room s m ([.ref (ad 70)] : List Value).toArray below meth c H locs 0 0 (MQ below (va_Qi (S := Nat → va_E) (fun r en1 => SC cy cs ad ka kb kc en1 ∧ (∀ c, ((c < 70 ∨ 74 ≤ c) ∧ c ≠ ka ∧ c ≠ kb ∧ c ≠ kc) → en1 c = en c) ∧ ((r = 1 ∧ ∃ S, cloX en = some S ∧ CL9 ka kb kc (dC en * dC en) en1 S ∧ SU9 en1 (dC en) (mC en) S) ∨ (r = 0 ∧ cloX en = none))) (PostM D cs ad) (Af cs ad sz)) ([.ref (ad 70)] : List Value).toArray s 0 0 (Af cs ad sz)) (F0 m 6 ls []) := by
    intro fu
    induction fu with
    | zero => intro j738  en_738 ls H locs h0 h1 h2; exact absurd h2 (by omega)
    | succ fu ih_738 =>
      intro j738  en_738 ls H locs hj0_738 hj_738 hfu_738 hI_738 hf_738 i0_738 hl hh
      obtain ⟨S_738, hS_738, hc_738⟩ := i0_738
      refine lv_iload_n hx hb dX0_findAll_6 rfl (lv_at hl 0 rfl) ?_
      refine lv_aload_n hx hb dX0_findAll_7 rfl (lv_at hl 1 rfl) ?_
      obtain ⟨sta_739, cc_739, ct_739, un_739, ow_739, hn_739, es739, p0_739, p1_739, p2_739, p3_739⟩ := get2_C hI_738
      refine hp_get hx hb hts ix0 hown hK hh (q := 70) rfl (hI.1.1 _ (by decide)) es739 rfl 0 (by decide) (hts _ tw_147) (fun _ h9 => h9) rfl dX0_findAll_8 ?_
      have es735_740 : en_738 1 = .inr (7, [.ref (ad 2), .ref (ad 3), .ref (ad 10), .ref (ad 11), .int (nI cnt), .int (nI d), .int (nI mm)]) := (hf_738 1 (by omega)).trans es735
      refine hp_callRi (va_runV (As := []) (rest := [.int (nI j738)]) ⟨hx, hb, hml, hown, hts⟩ (c_X8_count l D cy _ cs ad en_738 (hI.1.1 _ (by decide)) cnt d mm hcnt hd2 hd3 hmm  es735_740) (kw_X8_count hts tw_592 ⟨by decide, by decide⟩) (preV_of hh hK (hI.1.1 _ (by decide)) es735_740 rfl) rfl rfl hl.1 rfl (lv_room (Nat.le_of_ble_eq_true rfl)) dX0_findAll_11 ⟨Nat.le_of_ble_eq_true rfl, Nat.le_of_ble_eq_true rfl⟩) hh hA (fun r_741 H locs hw_741 hh => ?_)
      obtain rfl : r_741 = (nI cnt) := hw_741
      refine lv_icmp_ge (tgt := 41) hx hb dX0_findAll_14 (by decide) (fun c_742 => ?_) (fun c_742 => ?_)
      · have n_742 : cnt ≤ j738 := n_le (a := cnt) (b := j738) c_742 (by omega) (by omega)
        refine lv_iconst (v := 0) hx hb dX0_findAll_41 (by decide) ?_
        refine lv_istore_n (lv' := [(1, .int 0), (0, .ref (ad 70))]) hx hb dX0_findAll_42 rfl hl (by decide) rfl (fun ls hl => ?_)
        have loop_743 : ∀ (fu j743 : Nat)  (en_743 : Nat → va_E) (ls : Array Slot) (H : Heap) (locs : List Loc), 0 ≤ j743 → j743 ≤ 2000 → 2000 < j743 + fu → SC cy cs ad ka kb kc en_743 → (∀ c, ((c < 70 ∨ 74 ≤ c) ∧ c ≠ ka ∧ c ≠ kb ∧ c ≠ kc) → en_743 c = en c) → (∃ S, st9 bX (kC en) (RC en) (MC en) j743 = some S ∧ CL9 ka kb kc (dC en * dC en) en_743 S) → lv_has ls 2 [(1, .int (nI j743)), (0, .ref (ad 70))] → Hp D (Af cs ad sz) (Af cs ad sz) s.heap H locs cs ad en_743 → W p l e (headSpec (Cond.code yX0_findAll cX0_findAll 2 (some .boolean) :: TB) (rmN 4)).room s m ([.ref (ad 70)] : List Value).toArray below meth c H locs 0 0 (MQ below (va_Qi (S := Nat → va_E) (fun r en1 => SC cy cs ad ka kb kc en1 ∧ (∀ c, ((c < 70 ∨ 74 ≤ c) ∧ c ≠ ka ∧ c ≠ kb ∧ c ≠ kc) → en1 c = en c) ∧ ((r = 1 ∧ ∃ S, cloX en = some S ∧ CL9 ka kb kc (dC en * dC en) en1 S ∧ SU9 en1 (dC en) (mC en) S) ∨ (r = 0 ∧ cloX en = none))) (PostM D cs ad) (Af cs ad sz)) ([.ref (ad 70)] : List Value).toArray s 0 0 (Af cs ad sz)) (F0 m 43 ls []) := by
          intro fu
          induction fu with
          | zero => intro j743  en_743 ls H locs h0 h1 h2; exact absurd h2 (by omega)
          | succ fu ih_743 =>
            intro j743  en_743 ls H locs hj0_743 hj_743 hfu_743 hI_743 hf_743 i0_743 hl hh
            obtain ⟨S_743, hS_743, hc_743⟩ := i0_743
            have hSl_743 := hc_743.2.2.2.1.1
            obtain ⟨sta_744, cc_744, ct_744, un_744, ow_744, hn_744, es744, p0_744, p1_744, p2_744, p3_744⟩ := get2_C hI_743
            have hct_743 : ct_744 = S_743.length := n_eq ((show nI ct_744 = rdI (en_743 70) 9 from by rw [es744]; rfl).trans hc_743.2.2.1) (by omega) (by have := hc_743.2.2.2.1.1; omega)
            refine lv_iload_n hx hb dX0_findAll_43 rfl (lv_at hl 0 rfl) ?_
            refine lv_aload_n hx hb dX0_findAll_44 rfl (lv_at hl 1 rfl) ?_
            refine hp_get hx hb hts ix0 hown hK hh (q := 70) rfl (hI.1.1 _ (by decide)) es744 rfl 9 (by decide) (hts _ tw_156) (fun _ h9 => h9) rfl dX0_findAll_45 ?_
            refine lv_icmp_ge (tgt := 74) hx hb dX0_findAll_48 (by decide) (fun c_745 => ?_) (fun c_745 => ?_)
            · have n_745 : ct_744 ≤ j743 := n_le (a := ct_744) (b := j743) c_745 (by omega) (by omega)
              have hcl9 : cloX en = some S_743 := st_done hS_743 (by omega) (by omega)
              refine lv_aload_n hx hb dX0_findAll_74 rfl (lv_at hl 1 rfl) ?_
              refine hp_callMv (va_runV (As := []) (rest := []) ⟨hx, hb, hml, hown, hts⟩ (c_X0_sumUp l D cy _ cs ad en_743 hI_743 (dC en * dC en) S_743 hc_743 (by rw [(dC_k (hf_743 1 (by omega)))])) (kw_X0_sumUp hts tw_627 ⟨by decide, by decide⟩) (preV_of hh hK (hI.1.1 _ (by decide)) es744 rfl) rfl rfl hl.1 rfl (lv_room (Nat.le_of_ble_eq_true rfl)) dX0_findAll_75 ⟨Nat.le_of_ble_eq_true rfl, Nat.le_of_ble_eq_true rfl⟩) hh hA (fun H locs en_746 hw_746 hh => ?_)
              obtain ⟨hI_746, hu_746, hx_746⟩ := hw_746
              have hf_746 : ∀ c, ((c < 70 ∨ 74 ≤ c) ∧ c ≠ ka ∧ c ≠ kb ∧ c ≠ kc) → en_746 c = en c := fun c hc => (hu_746 c (by omega)).trans (hf_743 c hc)
              refine lv_iconst (v := 1) hx hb dX0_findAll_78 (by decide) ?_
              exact hp_iretM hx hb hr rfl hlocks hh (⟨hI_746, hf_746, Or.inl ⟨rfl, S_743, hcl9, hx_746.1, (by have h9 := hx_746.2; rw [dC_k (hf_743 1 (by omega)), mC_k (hf_743 1 (by omega))] at h9; exact h9)⟩⟩) dX0_findAll_79
            · have n_745 : j743 < ct_744 := n_nle (a := ct_744) (b := j743) c_745 (by omega) (by omega)
              refine lv_iload_n hx hb dX0_findAll_51 rfl (lv_at hl 0 rfl) ?_
              refine lv_sipush (v := 2000) hx hb dX0_findAll_52 (by decide) ?_
              refine lv_icmp_ge (tgt := 74) hx hb dX0_findAll_55 (by decide) (fun c_747 => ?_) (fun c_747 => ?_)
              · have n_747 : 2000 ≤ j743 := n_le (a := 2000) (b := j743) c_747 (by decide) (by omega)
                have hcl9 : cloX en = some S_743 := st_done hS_743 (by omega) (by omega)
                refine lv_aload_n hx hb dX0_findAll_74 rfl (lv_at hl 1 rfl) ?_
                refine hp_callMv (va_runV (As := []) (rest := []) ⟨hx, hb, hml, hown, hts⟩ (c_X0_sumUp l D cy _ cs ad en_743 hI_743 (dC en * dC en) S_743 hc_743 (by rw [(dC_k (hf_743 1 (by omega)))])) (kw_X0_sumUp hts tw_627 ⟨by decide, by decide⟩) (preV_of hh hK (hI.1.1 _ (by decide)) es744 rfl) rfl rfl hl.1 rfl (lv_room (Nat.le_of_ble_eq_true rfl)) dX0_findAll_75 ⟨Nat.le_of_ble_eq_true rfl, Nat.le_of_ble_eq_true rfl⟩) hh hA (fun H locs en_748 hw_748 hh => ?_)
                obtain ⟨hI_748, hu_748, hx_748⟩ := hw_748
                have hf_748 : ∀ c, ((c < 70 ∨ 74 ≤ c) ∧ c ≠ ka ∧ c ≠ kb ∧ c ≠ kc) → en_748 c = en c := fun c hc => (hu_748 c (by omega)).trans (hf_743 c hc)
                refine lv_iconst (v := 1) hx hb dX0_findAll_78 (by decide) ?_
                exact hp_iretM hx hb hr rfl hlocks hh (⟨hI_748, hf_748, Or.inl ⟨rfl, S_743, hcl9, hx_748.1, (by have h9 := hx_748.2; rw [dC_k (hf_743 1 (by omega)), mC_k (hf_743 1 (by omega))] at h9; exact h9)⟩⟩) dX0_findAll_79
              · have n_747 : j743 < 2000 := n_nle (a := 2000) (b := j743) c_747 (by decide) (by omega)
                refine lv_aload_n hx hb dX0_findAll_58 rfl (lv_at hl 1 rfl) ?_
                refine lv_iload_n hx hb dX0_findAll_59 rfl (lv_at hl 0 rfl) ?_
                obtain ⟨x_743, hgx_743⟩ := ge_some (S := S_743) (k := j743) (by omega)
                have hst_743 : st9 bX (kC en) (RC en) (MC en) (j743 + 1) = ex9 bX (MC en_743) x_743.1 x_743.2 S_743 (kC en_743) := (st_s hS_743 hgx_743).trans (EX_k hk6 (hf_743 1 (by omega)) (fun c h1 h2 => hf_743 c (by omega))).symm
                refine hp_callMi (va_runV (As := [.int (nI j743)]) (rest := []) ⟨hx, hb, hml, hown, hts⟩ (c_X0_extendByLetters l D cy _ cs ad en_743 hI_743 j743 (by omega) (dC en * dC en) S_743 hc_743 (by rw [(dC_k (hf_743 1 (by omega)))]) x_743 hgx_743) (kw_X0_extendByLetters hts tw_618 ⟨by decide, by decide⟩) (preV_of hh hK (hI.1.1 _ (by decide)) es744 rfl) rfl rfl hl.1 rfl (lv_room (Nat.le_of_ble_eq_true rfl)) dX0_findAll_60 ⟨Nat.le_of_ble_eq_true rfl, Nat.le_of_ble_eq_true rfl⟩) hh hA (fun r_749 H locs en_749 hw_749 hh => ?_)
                obtain ⟨hI_749, hu_749, hx_749⟩ := hw_749
                have hf_749 : ∀ c, ((c < 70 ∨ 74 ≤ c) ∧ c ≠ ka ∧ c ≠ kb ∧ c ≠ kc) → en_749 c = en c := fun c hc => (hu_749 c (by omega)).trans (hf_743 c hc)
                rcases hx_749 with ⟨hb_749, T_749, ht_749, hc_749⟩ | ⟨hb_749, ht_749⟩
                · obtain rfl : r_749 = 1 := hb_749
                  refine lv_if_ne (tgt := 68) hx hb dX0_findAll_63 (by decide) (fun _ => ?_) (fun c_0 => absurd c_0 (by decide))
                  refine lv_iinc (v := (nI (j743 + 1))) (lv' := [(1, .int (nI (j743 + 1))), (0, .ref (ad 70))]) hx hb dX0_findAll_68 hl (k := 0) rfl (nI_1 _) (by decide) rfl (fun ls hl => ?_)
                  refine lv_goto (tgt := 43) hx hb dX0_findAll_71 (by decide) ?_
                  exact ih_743 ((j743 + 1))  en_749 ls H locs (by omega) (by omega) (by omega) hI_749 hf_749 (⟨T_749, hst_743.trans ht_749, hc_749⟩) (lv_sub hl [0, 1] rfl) hh
                · obtain rfl : r_749 = 0 := hb_749
                  refine lv_if_ne (tgt := 68) hx hb dX0_findAll_63 (by decide) (fun c_0 => absurd c_0 (by decide)) (fun _ => ?_)
                  refine lv_iconst (v := 0) hx hb dX0_findAll_66 (by decide) ?_
                  exact hp_iretM hx hb hr rfl hlocks hh (⟨hI_749, hf_749, Or.inr ⟨rfl, st_none (hst_743.trans ht_749) (by omega)⟩⟩) dX0_findAll_67
        exact loop_743 (2000 + 1) 0  en_738 ls _ _ (Nat.le_refl _) (by omega) (by omega) hI_738 hf_738 (⟨S_738, by have e9 : j738 = cnt := (by omega); rw [e9] at hS_738; show lt9 bX (RC en) (kC en) = some S_738; rw [hk9]; exact hS_738, hc_738⟩) (lv_sub hl [0, 1] rfl) hh
      · have n_742 : j738 < cnt := n_nle (a := cnt) (b := j738) c_742 (by omega) (by omega)
        refine lv_aload_n hx hb dX0_findAll_17 rfl (lv_at hl 1 rfl) ?_
        refine lv_aload_n hx hb dX0_findAll_18 rfl (lv_at hl 1 rfl) ?_
        refine hp_get hx hb hts ix0 hown hK hh (q := 70) rfl (hI.1.1 _ (by decide)) es739 rfl 0 (by decide) (hts _ tw_147) (fun _ h9 => h9) rfl dX0_findAll_19 ?_
        refine lv_iload_n hx hb dX0_findAll_22 rfl (lv_at hl 0 rfl) ?_
        have es750 := get2_rows hI_738
        unfold P_rows at es750
        refine hp_callRq (va_runV (As := [.int (nI j738)]) (rest := [.ref (ad 70)]) ⟨hx, hb, hml, hown, hts⟩ (c_X8_rowOf l D cy _ cs ad en_738 (hI.1.1 _ (by decide)) (hI.1.1 _ (by decide)) cnt d mm hcnt hd2 hd3 hmm j738 (by omega) es735_740 es750) (kw_X8_rowOf hts tw_593 ⟨by decide, by decide⟩) (preV_of hh hK (hI.1.1 _ (by decide)) es735_740 rfl) rfl rfl hl.1 rfl (lv_room (Nat.le_of_ble_eq_true rfl)) dX0_findAll_23 ⟨Nat.le_of_ble_eq_true rfl, Nat.le_of_ble_eq_true rfl⟩) hh hA (fun r_751 H locs hw_751 hh => ?_)
        obtain rfl : r_751 = some (ad (4 + j738)) := hw_751
        refine W.eq (g2 := F0 m 26 ls [.ref (ad (4 + j738)), .ref (ad 70)]) rfl ?_
        refine lv_iconst (v := 1) hx hb dX0_findAll_26 (by decide) ?_
        obtain ⟨f_752, es752⟩ := get2_row hI_738 (j := j738) (by omega)
        have hfr_738 : f_752 = rdL (en (4 + j738)) := (show f_752 = rdL (en_738 (4 + j738)) from by rw [es752]; rfl).trans (congrArg rdL (hf_738 (4 + j738) (by omega)))
        have hst_738 : lt9 bX (RC en) (j738 + 1) = tk bX S_738 (vec (dC en * dC en) f_752) 1 := by rw [ltk_s hS_738]; unfold RC; rw [← hfr_738]
        refine hp_callMi (va_runV (As := [.ref (ad (4 + j738)), .int 1]) (rest := []) ⟨hx, hb, hml, hown, hts⟩ (c_X0_take l D cy _ cs ad en_738 hI_738 (4 + j738) (hI.1.1 _ (by omega)) (by omega) f_752 1 (dC en * dC en) S_738 hc_738 es752) (kw_X0_take hts tw_594 ⟨by decide, by decide⟩) (preV_of hh hK (hI.1.1 _ (by decide)) es739 rfl) rfl rfl hl.1 rfl (lv_room (Nat.le_of_ble_eq_true rfl)) dX0_findAll_27 ⟨Nat.le_of_ble_eq_true rfl, Nat.le_of_ble_eq_true rfl⟩) hh hA (fun r_753 H locs en_753 hw_753 hh => ?_)
        obtain ⟨hI_753, hu_753, hx_753⟩ := hw_753
        have hf_753 : ∀ c, ((c < 70 ∨ 74 ≤ c) ∧ c ≠ ka ∧ c ≠ kb ∧ c ≠ kc) → en_753 c = en c := fun c hc => (hu_753 c (by omega)).trans (hf_738 c hc)
        rcases hx_753 with ⟨hb_753, T_753, ht_753, hc_753⟩ | ⟨hb_753, ht_753⟩
        · obtain rfl : r_753 = 1 := hb_753
          refine lv_if_ne (tgt := 35) hx hb dX0_findAll_30 (by decide) (fun _ => ?_) (fun c_0 => absurd c_0 (by decide))
          refine lv_iinc (v := (nI (j738 + 1))) (lv' := [(1, .int (nI (j738 + 1))), (0, .ref (ad 70))]) hx hb dX0_findAll_35 hl (k := 0) rfl (nI_1 _) (by decide) rfl (fun ls hl => ?_)
          refine lv_goto (tgt := 6) hx hb dX0_findAll_38 (by decide) ?_
          exact ih_738 ((j738 + 1))  en_753 ls H locs (by omega) (by omega) (by omega) hI_753 hf_753 (⟨T_753, hst_738.trans ht_753, hc_753⟩) (lv_sub hl [0, 1] rfl) hh
        · obtain rfl : r_753 = 0 := hb_753
          refine lv_if_ne (tgt := 35) hx hb dX0_findAll_30 (by decide) (fun c_0 => absurd c_0 (by decide)) (fun _ => ?_)
          refine lv_iconst (v := 0) hx hb dX0_findAll_33 (by decide) ?_
          exact hp_iretM hx hb hr rfl hlocks hh (⟨hI_753, hf_753, Or.inr ⟨rfl, clo_l0 (hst_738.trans ht_753) (by omega)⟩⟩) dX0_findAll_34
  exact loop_738 (cnt + 1) 0  en_737 ls _ _ (Nat.le_refl _) (by omega) (by omega) hI_737 hf_737 (⟨[], rfl, hx_737⟩) (lv_sub hl [0, 1] rfl) hh
theorem kw_X0_findAll {R : Room} {s : State} {args : Array Value} {own : String} {idx : Nat} (hts : ∀ w ∈ TB, w.before args s = true) (hl : Cond.methodLink own idx yX0_findAll ∈ TB) (hR : 4 + 1 ≤ R.frames ∧ 8 + (2 + 11) + 40 * 4 ≤ R.locals) : CallW R s args own RX0 idx yX0_findAll cX0_findAll 2 (some .boolean) (Cond.code yX0_findAll cX0_findAll 2 (some .boolean) :: TB) (rmN 4) 0 0 0 := cwV 0 hts (TB_V hl tw_584 ts_13 tw_5 tw_585) rfl rfl rfl (by decide +kernel) hR
set_option maxHeartbeats 4000000 in
set_option maxRecDepth 100000 in
/-- search -/
theorem c_X0_search (l : Launch) (D : va_G) (cy : Nat → ClassId) (sz : Nat) (cs : List Nat) (ad : Nat → Nat) (en : Nat → va_E) {ka kb kc : Nat} (hI : SC cy cs ad ka kb kc en) (hCX : CLX ka kb kc en)   : Met l yX0_search (Cond.code yX0_search cX0_search 1 (some .int) :: TB) (rmN 5) (va_Pc [.ref (ad 70)] (Pre D cy cs ad en sz)) (va_Qi (S := Nat → va_E) (fun r en1 => SC cy cs ad ka kb kc en1 ∧ (∀ c, ((c < 70 ∨ 74 ≤ c) ∧ c ≠ ka ∧ c ≠ kb ∧ c ≠ kc) → en1 c = en c) ∧ (XCL r en ∧ CLX ka kb kc en1 ∧ (rdI (en1 70) 7 = 1 ∨ rdI (en1 70) 7 = 2))) (PostM D cs ad) (Af cs ad sz)) 0 0 (Af cs ad sz) := by
  refine Met.ofW (cc := cX0_search) (maxL := 1) (ret := (some .int)) (by decide) rfl ?_
  intro p e s m args below meth c s₁ B hml hv
  obtain ⟨rfl, hsz, hP, hK, hD0⟩ := hv
  have hx := B.exec
  have hb := B.bytes
  have hr := B.returns
  have hts : ∀ w ∈ TB, w.before _ s = true := fun w h => atoms_spec (ws := _ :: TB) B.pre w (List.mem_cons_of_mem _ h)
  have hown : s.vm.findClass RX0 = some m.cls := findClass_of_methodNamed B.named
  have hlocks := B.notSynchronized
  have hh : Hp D (Af cs ad sz) (Af cs ad sz) s.heap s.heap [] cs ad en := ⟨hP, Af_self hD0, va_S.rf⟩
  have hA : ∀ q : Nat, s.heap.size ≤ q → Af cs ad sz q := fun q h => Or.inr (by rw [hsz] at h; exact h)
  have hl := lv_entry ([.ref (ad 70)]) (n := 1) (Nat.le_of_ble_eq_true rfl)
  rw [lg_entry_eq]
  generalize (lg_sl ([.ref (ad 70)]) ++ List.replicate (1 - (lg_sl ([.ref (ad 70)])).length) Slot.unset).toArray = ls at hl ⊢
  have hl : lv_has ls 1 [(0, .ref (ad 70))] := hl
  have hka1 : 115 ≤ ka := hI.2.1.2.2.2.1
  have hka2 : ka < kb := hI.2.1.2.2.2.2.1
  have hka3 : kb < kc := hI.2.1.2.2.2.2.2
  have hf0 : ∀ c, ((c < 70 ∨ 74 ≤ c) ∧ c ≠ ka ∧ c ≠ kb ∧ c ≠ kc) → en c = en c := fun _ _ => rfl
  obtain ⟨cnt, d, mm, es754, hcnt, hd2, hd3, hmm⟩ := get2_T hI
  obtain ⟨sta_755, cc_755, ct_755, un_755, ow_755, hn_755, es755, p0_755, p1_755, p2_755, p3_755⟩ := get2_C hI
  have hk9 : kC en = cnt := by unfold kC; rw [show rdI (en 1) 4 = nI cnt from by rw [es754]; rfl]; exact nI_clamp (by omega)
  have hd9 : dC en = d := by unfold dC; rw [show rdI (en 1) 5 = nI d from by rw [es754]; rfl]; exact nI_clamp (by omega)
  have hm9 : mC en = mm := by unfold mC; rw [show rdI (en 1) 6 = nI mm from by rw [es754]; rfl]; exact nI_clamp (by omega)
  have hk6 : kC en ≤ 6 := by omega
  refine lv_aload_n hx hb dX0_search_0 rfl (lv_at hl 0 rfl) ?_
  refine hp_get hx hb hts ix0 hown hK hh (q := 70) rfl (hI.1.1 _ (by decide)) es755 rfl 7 (by decide) (hts _ tw_154) (fun _ h9 => h9) rfl dX0_search_1 ?_
  refine lv_if_ne (tgt := 23) hx hb dX0_search_4 (by decide) (fun c_756 => ?_) (fun c_756 => ?_)
  · have n_756 : sta_755 ≠ 0 := n_neq (a := sta_755) (b := 0) c_756 (by omega) (by decide)
    refine lv_aload_n hx hb dX0_search_23 rfl (lv_at hl 0 rfl) ?_
    refine hp_get hx hb hts ix0 hown hK hh (q := 70) rfl (hI.1.1 _ (by decide)) es755 rfl 7 (by decide) (hts _ tw_154) (fun _ h9 => h9) rfl dX0_search_24 ?_
    refine lv_iconst (v := 1) hx hb dX0_search_27 (by decide) ?_
    refine lv_icmp_ne (tgt := 38) hx hb dX0_search_28 (by decide) (fun c_757 => ?_) (fun c_757 => ?_)
    · have n_757 : sta_755 ≠ 1 := n_neq (a := sta_755) (b := 1) c_757 (by omega) (by decide)
      refine lv_bipush (v := (-6)) hx hb dX0_search_38 (by decide) ?_
      exact hp_iretM hx hb hr rfl hlocks hh (⟨hI, hf0, ⟨Or.inr ⟨hCX.2 ((show rdI (en 70) 7 = nI sta_755 from by rw [es755]; rfl).trans (congrArg nI (show sta_755 = 2 by omega))), rfl⟩, hCX, Or.inr ((show rdI (en 70) 7 = nI sta_755 from by rw [es755]; rfl).trans (congrArg nI (show sta_755 = 2 by omega)))⟩⟩) dX0_search_40
    · have n_757 : sta_755 = 1 := n_eq (a := sta_755) (b := 1) c_757 (by omega) (by decide)
      refine lv_aload_n hx hb dX0_search_31 rfl (lv_at hl 0 rfl) ?_
      refine hp_get hx hb hts ix0 hown hK hh (q := 70) rfl (hI.1.1 _ (by decide)) es755 rfl 9 (by decide) (hts _ tw_156) (fun _ h9 => h9) rfl dX0_search_32 ?_
      refine lv_goto (tgt := 40) hx hb dX0_search_35 (by decide) ?_
      exact hp_iretM hx hb hr rfl hlocks hh (⟨hI, hf0, ⟨(by obtain ⟨S, s1, s2, s3⟩ := hCX.1 ((show rdI (en 70) 7 = nI sta_755 from by rw [es755]; rfl).trans (congrArg nI (show sta_755 = 1 by omega))); exact Or.inl ⟨S, s1, (show nI ct_755 = rdI (en 70) 9 from by rw [es755]; rfl).trans s2.2.2.1⟩), hCX, Or.inl ((show rdI (en 70) 7 = nI sta_755 from by rw [es755]; rfl).trans (congrArg nI (show sta_755 = 1 by omega)))⟩⟩) dX0_search_40
  · have n_756 : sta_755 = 0 := n_eq (a := sta_755) (b := 0) c_756 (by omega) (by decide)
    refine lv_aload_n hx hb dX0_search_7 rfl (lv_at hl 0 rfl) ?_
    refine lv_aload_n hx hb dX0_search_8 rfl (lv_at hl 0 rfl) ?_
    refine hp_callMi (va_runV (As := []) (rest := [.ref (ad 70)]) ⟨hx, hb, hml, hown, hts⟩ (c_X0_findAll l D cy _ cs ad en hI  ) (kw_X0_findAll hts tw_582 ⟨by decide, by decide⟩) (preV_of hh hK (hI.1.1 _ (by decide)) es755 rfl) rfl rfl hl.1 rfl (lv_room (Nat.le_of_ble_eq_true rfl)) dX0_search_9 ⟨Nat.le_of_ble_eq_true rfl, Nat.le_of_ble_eq_true rfl⟩) hh hA (fun r_758 H locs en_758 hw_758 hh => ?_)
    obtain ⟨hI_758, hu_758, hx_758⟩ := hw_758
    have hf_758 : ∀ c, ((c < 70 ∨ 74 ≤ c) ∧ c ≠ ka ∧ c ≠ kb ∧ c ≠ kc) → en_758 c = en c := fun c hc => (hu_758 c (by omega)).trans (hf0 c hc)
    rcases hx_758 with ⟨hb_758, T_758, ht_758, hc_758, hsu_758⟩ | ⟨hb_758, ht_758⟩
    · obtain rfl : r_758 = 1 := hb_758
      refine lv_if_eq (tgt := 19) hx hb dX0_search_12 (by decide) (fun c_0 => absurd c_0 (by decide)) (fun _ => ?_)
      refine lv_iconst (v := 1) hx hb dX0_search_15 (by decide) ?_
      refine lv_goto (tgt := 20) hx hb dX0_search_16 (by decide) ?_
      obtain ⟨sta_759, cc_759, ct_759, un_759, ow_759, hn_759, es759, p0_759, p1_759, p2_759, p3_759⟩ := get2_C hI_758
      refine hp_put hx hb hts ix0 tyX0 tyX0_ok nmX0 hown hK hh (q := 70) rfl (hI.1.1 _ (by decide)) es759 rfl 7 (by decide) (hts _ tw_154) (fun _ h9 => h9) rfl (ty := .int) (by decide +kernel) rfl rfl (Nat.le_of_ble_eq_true rfl) dX0_search_20 (fun H locs en_760 hen_760 hh => ?_)
      have es759_760 : en_760 70 = .inr (0, [.ref (ad 1), .ref (ad 71), .ref (ad 72), .ref (ad 73), .ref (ad ka), .ref (ad kb), .ref (ad kc), .int 1, .int (nI cc_759), .int (nI ct_759), .int un_759, .int ow_759, .int (nI hn_759)]) := by rw [hen_760]; exact va_up_self _ _ _
      have hI_760 : SC cy cs ad ka kb kc en_760 := by rw [hen_760]; exact up2_C hI_758 ⟨1, cc_759, ct_759, un_759, ow_759, hn_759, rfl, (by omega), p1_759, p2_759, p3_759⟩
      have hf_760 : ∀ c, ((c < 70 ∨ 74 ≤ c) ∧ c ≠ ka ∧ c ≠ kb ∧ c ≠ kc) → en_760 c = en c := fun c hc => Eq.trans (show en_760 c = en_758 c from by rw [hen_760, va_up_ne _ _ (by omega)]) (hf_758 c hc)
      have hCL_760 := CL_kp (e1 := en_760) hc_758 (by rw [es759_760, es759]; rfl) (by rw [es759_760, es759]; rfl) (by rw [hen_760, va_up_ne _ _ (by omega)]) (by rw [hen_760, va_up_ne _ _ (by omega)]) (by rw [hen_760, va_up_ne _ _ (by omega)])
      refine lv_aload_n hx hb dX0_search_23 rfl (lv_at hl 0 rfl) ?_
      refine hp_get hx hb hts ix0 hown hK hh (q := 70) rfl (hI.1.1 _ (by decide)) es759_760 rfl 7 (by decide) (hts _ tw_154) (fun _ h9 => h9) rfl dX0_search_24 ?_
      refine lv_iconst (v := 1) hx hb dX0_search_27 (by decide) ?_
      refine lv_icmp_ne (tgt := 38) hx hb dX0_search_28 (by decide) (fun c_0 => absurd c_0 (by decide)) (fun _ => ?_)
      refine lv_aload_n hx hb dX0_search_31 rfl (lv_at hl 0 rfl) ?_
      refine hp_get hx hb hts ix0 hown hK hh (q := 70) rfl (hI.1.1 _ (by decide)) es759_760 rfl 9 (by decide) (hts _ tw_156) (fun _ h9 => h9) rfl dX0_search_32 ?_
      refine lv_goto (tgt := 40) hx hb dX0_search_35 (by decide) ?_
      exact hp_iretM hx hb hr rfl hlocks hh (⟨hI_760, hf_760, ⟨Or.inl ⟨T_758, ht_758, (show nI ct_759 = rdI (en_760 70) 9 from by rw [es759_760]; rfl).trans hCL_760.2.2.1⟩, ⟨fun _ => ⟨T_758, (cloX_keep hk6 (hf_760 1 (by omega)) (fun c h1 h2 => hf_760 c (by omega))).trans ht_758, by rw [dC_k (hf_760 1 (by omega))]; exact hCL_760, by rw [dC_k (hf_760 1 (by omega)), mC_k (hf_760 1 (by omega))]; exact SU_kp hsu_758 (by rw [es759_760, es759]; rfl) (by rw [es759_760, es759]; rfl) (by rw [es759_760, es759]; rfl)⟩, fun q9 => absurd ((show (1 : Int32) = rdI (en_760 70) 7 from by rw [es759_760]; rfl).trans q9) (by decide)⟩, Or.inl (by rw [es759_760]; rfl)⟩⟩) dX0_search_40
    · obtain rfl : r_758 = 0 := hb_758
      refine lv_if_eq (tgt := 19) hx hb dX0_search_12 (by decide) (fun _ => ?_) (fun c_0 => absurd c_0 (by decide))
      refine lv_iconst (v := 2) hx hb dX0_search_19 (by decide) ?_
      obtain ⟨sta_761, cc_761, ct_761, un_761, ow_761, hn_761, es761, p0_761, p1_761, p2_761, p3_761⟩ := get2_C hI_758
      refine hp_put hx hb hts ix0 tyX0 tyX0_ok nmX0 hown hK hh (q := 70) rfl (hI.1.1 _ (by decide)) es761 rfl 7 (by decide) (hts _ tw_154) (fun _ h9 => h9) rfl (ty := .int) (by decide +kernel) rfl rfl (Nat.le_of_ble_eq_true rfl) dX0_search_20 (fun H locs en_762 hen_762 hh => ?_)
      have es761_762 : en_762 70 = .inr (0, [.ref (ad 1), .ref (ad 71), .ref (ad 72), .ref (ad 73), .ref (ad ka), .ref (ad kb), .ref (ad kc), .int 2, .int (nI cc_761), .int (nI ct_761), .int un_761, .int ow_761, .int (nI hn_761)]) := by rw [hen_762]; exact va_up_self _ _ _
      have hI_762 : SC cy cs ad ka kb kc en_762 := by rw [hen_762]; exact up2_C hI_758 ⟨2, cc_761, ct_761, un_761, ow_761, hn_761, rfl, (by omega), p1_761, p2_761, p3_761⟩
      have hf_762 : ∀ c, ((c < 70 ∨ 74 ≤ c) ∧ c ≠ ka ∧ c ≠ kb ∧ c ≠ kc) → en_762 c = en c := fun c hc => Eq.trans (show en_762 c = en_758 c from by rw [hen_762, va_up_ne _ _ (by omega)]) (hf_758 c hc)
      refine lv_aload_n hx hb dX0_search_23 rfl (lv_at hl 0 rfl) ?_
      refine hp_get hx hb hts ix0 hown hK hh (q := 70) rfl (hI.1.1 _ (by decide)) es761_762 rfl 7 (by decide) (hts _ tw_154) (fun _ h9 => h9) rfl dX0_search_24 ?_
      refine lv_iconst (v := 1) hx hb dX0_search_27 (by decide) ?_
      refine lv_icmp_ne (tgt := 38) hx hb dX0_search_28 (by decide) (fun _ => ?_) (fun c_0 => absurd c_0 (by decide))
      refine lv_bipush (v := (-6)) hx hb dX0_search_38 (by decide) ?_
      exact hp_iretM hx hb hr rfl hlocks hh (⟨hI_762, hf_762, ⟨Or.inr ⟨ht_758, rfl⟩, ⟨fun q9 => absurd ((show (2 : Int32) = rdI (en_762 70) 7 from by rw [es761_762]; rfl).trans q9) (by decide), fun _ => (cloX_keep hk6 (hf_762 1 (by omega)) (fun c h1 h2 => hf_762 c (by omega))).trans ht_758⟩, Or.inr (by rw [es761_762]; rfl)⟩⟩) dX0_search_40
theorem kw_X0_search {R : Room} {s : State} {args : Array Value} {own : String} {idx : Nat} (hts : ∀ w ∈ TB, w.before args s = true) (hl : Cond.methodLink own idx yX0_search ∈ TB) (hR : 5 + 1 ≤ R.frames ∧ 8 + (1 + 11) + 40 * 5 ≤ R.locals) : CallW R s args own RX0 idx yX0_search cX0_search 1 (some .int) (Cond.code yX0_search cX0_search 1 (some .int) :: TB) (rmN 5) 0 0 0 := cwV 0 hts (TB_V hl tw_579 tw_580 tw_5 tw_581) rfl rfl rfl (by decide +kernel) hR
set_option maxHeartbeats 4000000 in
set_option maxRecDepth 100000 in
/-- close, the arrays made -/
theorem c_X11_close (l : Launch) (D : va_G) (cy : Nat → ClassId) (sz : Nat) (cs : List Nat) (ad : Nat → Nat) (en : Nat → va_E) {ka kb kc : Nat} (hI : SC cy cs ad ka kb kc en) (hCX : CLX ka kb kc en)   : Met l yX11_close (Cond.code yX11_close cX11_close 1 (some .int) :: TB) (rmN 6) (va_Pc [.ref (ad 0)] (Pre D cy cs ad en sz)) (va_Qi (S := Nat → va_E) (fun r en1 => SC cy cs ad ka kb kc en1 ∧ (∀ c, ((c < 70 ∨ 74 ≤ c) ∧ c ≠ ka ∧ c ≠ kb ∧ c ≠ kc) → en1 c = en c) ∧ (rdI (en 1) 4 ≠ nI 0 → XCL r en ∧ CLX ka kb kc en1 ∧ (rdI (en1 70) 7 = 1 ∨ rdI (en1 70) 7 = 2)) ∧ (rdI (en 1) 4 = nI 0 → r = -3 ∧ CLX ka kb kc en1)) (PostM D cs ad) (Af cs ad sz)) 0 0 (Af cs ad sz) := by
  refine Met.ofW (cc := cX11_close) (maxL := 1) (ret := (some .int)) (by decide) rfl ?_
  intro p e s m args below meth c s₁ B hml hv
  obtain ⟨rfl, hsz, hP, hK, hD0⟩ := hv
  have hx := B.exec
  have hb := B.bytes
  have hr := B.returns
  have hts : ∀ w ∈ TB, w.before _ s = true := fun w h => atoms_spec (ws := _ :: TB) B.pre w (List.mem_cons_of_mem _ h)
  have hown : s.vm.findClass RX11 = some m.cls := findClass_of_methodNamed B.named
  have hlocks := B.notSynchronized
  have hh : Hp D (Af cs ad sz) (Af cs ad sz) s.heap s.heap [] cs ad en := ⟨hP, Af_self hD0, va_S.rf⟩
  have hA : ∀ q : Nat, s.heap.size ≤ q → Af cs ad sz q := fun q h => Or.inr (by rw [hsz] at h; exact h)
  have hl := lv_entry ([.ref (ad 0)]) (n := 1) (Nat.le_of_ble_eq_true rfl)
  rw [lg_entry_eq]
  generalize (lg_sl ([.ref (ad 0)]) ++ List.replicate (1 - (lg_sl ([.ref (ad 0)])).length) Slot.unset).toArray = ls at hl ⊢
  have hl : lv_has ls 1 [(0, .ref (ad 0))] := hl
  have hka1 : 115 ≤ ka := hI.2.1.2.2.2.1
  have hka2 : ka < kb := hI.2.1.2.2.2.2.1
  have hka3 : kb < kc := hI.2.1.2.2.2.2.2
  have hf0 : ∀ c, ((c < 70 ∨ 74 ≤ c) ∧ c ≠ ka ∧ c ≠ kb ∧ c ≠ kc) → en c = en c := fun _ _ => rfl
  obtain ⟨wc_763, lf_763, es763, p0_763⟩ := get2_A hI
  obtain ⟨cnt, d, mm, es764, hcnt, hd2, hd3, hmm⟩ := get2_T hI
  refine lv_aload_n hx hb dX11_close_0 rfl (lv_at hl 0 rfl) ?_
  refine hp_get hx hb hts ix11 hown hK hh (q := 0) rfl (hI.1.1 _ (by decide)) es763 rfl 0 (by decide) (hts _ tw_245) (fun _ h9 => h9) rfl dX11_close_1 ?_
  refine hp_callRi (va_runV (As := []) (rest := []) ⟨hx, hb, hml, hown, hts⟩ (c_X8_count l D cy _ cs ad en (hI.1.1 _ (by decide)) cnt d mm hcnt hd2 hd3 hmm  es764) (kw_X8_count hts tw_318 ⟨by decide, by decide⟩) (preV_of hh hK (hI.1.1 _ (by decide)) es764 rfl) rfl rfl hl.1 rfl (lv_room (Nat.le_of_ble_eq_true rfl)) dX11_close_4 ⟨Nat.le_of_ble_eq_true rfl, Nat.le_of_ble_eq_true rfl⟩) hh hA (fun r_765 H locs hw_765 hh => ?_)
  obtain rfl : r_765 = (nI cnt) := hw_765
  refine lv_if_ne (tgt := 15) hx hb dX11_close_7 (by decide) (fun c_766 => ?_) (fun c_766 => ?_)
  · have n_766 : cnt ≠ 0 := n_neq (a := cnt) (b := 0) c_766 (by omega) (by decide)
    refine lv_aload_n hx hb dX11_close_15 rfl (lv_at hl 0 rfl) ?_
    refine hp_get hx hb hts ix11 hown hK hh (q := 0) rfl (hI.1.1 _ (by decide)) es763 rfl 2 (by decide) (hts _ tw_247) (fun _ h9 => h9) rfl dX11_close_16 ?_
    obtain ⟨sta_767, cc_767, ct_767, un_767, ow_767, hn_767, es767, p0_767, p1_767, p2_767, p3_767⟩ := get2_C hI
    refine hp_callMi (va_runV (As := []) (rest := []) ⟨hx, hb, hml, hown, hts⟩ (c_X0_search l D cy _ cs ad en hI  hCX) (kw_X0_search hts tw_578 ⟨by decide, by decide⟩) (preV_of hh hK (hI.1.1 _ (by decide)) es767 rfl) rfl rfl hl.1 rfl (lv_room (Nat.le_of_ble_eq_true rfl)) dX11_close_19 ⟨Nat.le_of_ble_eq_true rfl, Nat.le_of_ble_eq_true rfl⟩) hh hA (fun r_768 H locs en_768 hw_768 hh => ?_)
    obtain ⟨hI_768, hu_768, hx_768⟩ := hw_768
    have hf_768 : ∀ c, ((c < 70 ∨ 74 ≤ c) ∧ c ≠ ka ∧ c ≠ kb ∧ c ≠ kc) → en_768 c = en c := fun c hc => (hu_768 c (by omega)).trans (hf0 c hc)
    exact hp_iretM hx hb hr rfl hlocks hh (⟨hI_768, hf_768, ⟨fun _ => hx_768, fun q9 => absurd (n_eq (a := cnt) (b := 0) ((show rdI (en 1) 4 = nI cnt from by rw [es764]; rfl).symm.trans q9) (by omega) (by decide)) (by omega)⟩⟩) dX11_close_22
  · have n_766 : cnt = 0 := n_eq (a := cnt) (b := 0) c_766 (by omega) (by decide)
    refine lv_bipush (v := (-3)) hx hb dX11_close_10 (by decide) ?_
    refine lv_goto (tgt := 22) hx hb dX11_close_12 (by decide) ?_
    exact hp_iretM hx hb hr rfl hlocks hh (⟨hI, hf0, ⟨fun q9 => absurd ((show rdI (en 1) 4 = nI cnt from by rw [es764]; rfl).trans (congrArg nI (show cnt = 0 by omega))) q9, fun _ => ⟨rfl, hCX⟩⟩⟩) dX11_close_22
theorem kw_X11_close {R : Room} {s : State} {args : Array Value} {own : String} {idx : Nat} (hts : ∀ w ∈ TB, w.before args s = true) (hl : Cond.methodLink own idx yX11_close ∈ TB) (hR : 6 + 1 ≤ R.frames ∧ 8 + (1 + 11) + 40 * 6 ≤ R.locals) : CallW R s args own RX11 idx yX11_close cX11_close 1 (some .int) (Cond.code yX11_close cX11_close 1 (some .int) :: TB) (rmN 6) 0 0 0 := cwV 0 hts (TB_V hl tw_575 tw_576 tw_1 tw_577) rfl rfl rfl (by decide +kernel) hR
set_option maxHeartbeats 4000000 in
set_option maxRecDepth 100000 in
/-- entryAt -/
theorem c_X0_entryAt (l : Launch) (D : va_G) (cy : Nat → ClassId) (sz : Nat) (cs : List Nat) (ad : Nat → Nat) (en : Nat → va_E) {ka kb kc : Nat} (hI : SC cy cs ad ka kb kc en) (k i : Nat) (hk : k < 2000) (hi9 : i < 9)   : Met l yX0_entryAt (Cond.code yX0_entryAt cX0_entryAt 3 (some .long) :: TB) (rmN 0) (va_Pc [.ref (ad 70), .int (nI k), .int (nI i)] (Pre D cy cs ad en sz)) (va_Ql (S := Unit) (fun r _ => r = rdL (en ka) (k * 9 + i)) (fun _ _ => True) (Nf sz)) 0 0 (Nf sz) := by
  refine Met.ofW (cc := cX0_entryAt) (maxL := 3) (ret := (some .long)) (by decide) rfl ?_
  intro p e s m args below meth c s₁ B hml hv
  obtain ⟨rfl, hsz, hP, hK, hD0⟩ := hv
  have hx := B.exec
  have hb := B.bytes
  have hr := B.returns
  have hts : ∀ w ∈ TB, w.before _ s = true := fun w h => atoms_spec (ws := _ :: TB) B.pre w (List.mem_cons_of_mem _ h)
  have hown : s.vm.findClass RX0 = some m.cls := findClass_of_methodNamed B.named
  have hlocks := B.notSynchronized
  have hh : Hp D (Nf sz) (fun _ => True) s.heap s.heap [] cs ad en := ⟨hP, hD0, va_S.rf⟩
  have hA : ∀ q : Nat, s.heap.size ≤ q → Nf sz q := fun q h => by rw [hsz] at h; exact h
  have hl := lv_entry ([.ref (ad 70), .int (nI k), .int (nI i)]) (n := 3) (Nat.le_of_ble_eq_true rfl)
  rw [lg_entry_eq]
  generalize (lg_sl ([.ref (ad 70), .int (nI k), .int (nI i)]) ++ List.replicate (3 - (lg_sl ([.ref (ad 70), .int (nI k), .int (nI i)])).length) Slot.unset).toArray = ls at hl ⊢
  have hl : lv_has ls 3 [(0, .ref (ad 70)), (1, .int (nI k)), (2, .int (nI i))] := hl
  have hka1 : 115 ≤ ka := hI.2.1.2.2.2.1
  have hka2 : ka < kb := hI.2.1.2.2.2.2.1
  have hka3 : kb < kc := hI.2.1.2.2.2.2.2
  obtain ⟨sta_769, cc_769, ct_769, un_769, ow_769, hn_769, es769, p0_769, p1_769, p2_769, p3_769⟩ := get2_C hI
  obtain ⟨f_770, es770⟩ := get2_ea hI
  refine lv_aload_n hx hb dX0_entryAt_0 rfl (lv_at hl 0 rfl) ?_
  refine hp_get hx hb hts ix0 hown hK hh (q := 70) rfl (hI.1.1 _ (by decide)) es769 rfl 4 (by decide) (hts _ tw_151) (fun _ h9 => h9) rfl dX0_entryAt_1 ?_
  refine lv_iload_n hx hb dX0_entryAt_4 rfl (lv_at hl 1 rfl) ?_
  refine lv_bipush (v := 9) hx hb dX0_entryAt_5 (by decide) ?_
  refine lv_imul hx hb dX0_entryAt_7 ?_
  rw [show (9 : Int32) = nI 9 from rfl, pk_mul k 9]
  refine lv_iload_n hx hb dX0_entryAt_8 rfl (lv_at hl 2 rfl) ?_
  refine lv_iadd hx hb dX0_entryAt_9 ?_
  rw [nI_add (k * 9) i]
  refine hp_lald hx hb hK hh (q := ka) rfl hI.2.1.1 es770 (vp_in_nI (n := ((k * 9) + i)) (by omega) (by decide)) dX0_entryAt_10 ?_
  rw [nI_clamp (n := ((k * 9) + i)) (by omega)]
  exact hp_lretR hx hb hr hlocks hsz hh ((by rw [show rdL (en ka) = f_770 from by rw [es770]; rfl])) dX0_entryAt_11
theorem kw_X0_entryAt {R : Room} {s : State} {args : Array Value} {own : String} {idx : Nat} (hts : ∀ w ∈ TB, w.before args s = true) (hl : Cond.methodLink own idx yX0_entryAt ∈ TB) (hR : 0 + 1 ≤ R.frames ∧ 8 + (3 + 11) + 40 * 0 ≤ R.locals) : CallW R s args own RX0 idx yX0_entryAt cX0_entryAt 3 (some .long) (Cond.code yX0_entryAt cX0_entryAt 3 (some .long) :: TB) (rmN 0) 0 0 2 := cwV 2 hts (TB_V hl tw_662 tw_663 tw_5 tw_664) rfl rfl rfl (by decide +kernel) hR
set_option maxHeartbeats 4000000 in
set_option maxRecDepth 100000 in
/-- lastWordLength -/
theorem c_X0_lastWordLength (l : Launch) (D : va_G) (cy : Nat → ClassId) (sz : Nat) (cs : List Nat) (ad : Nat → Nat) (en : Nat → va_E) {ka kb kc : Nat} (hI : SC cy cs ad ka kb kc en) (n : Nat) (S : CR) (hCL : CL9 ka kb kc n en S)   : Met l yX0_lastWordLength (Cond.code yX0_lastWordLength cX0_lastWordLength 1 (some .int) :: TB) (rmN 0) (va_Pc [.ref (ad 70)] (Pre D cy cs ad en sz)) (va_Qi (S := Unit) (fun r _ => r = laS S) (fun _ _ => True) (Nf sz)) 0 0 (Nf sz) := by
  refine Met.ofW (cc := cX0_lastWordLength) (maxL := 1) (ret := (some .int)) (by decide) rfl ?_
  intro p e s m args below meth c s₁ B hml hv
  obtain ⟨rfl, hsz, hP, hK, hD0⟩ := hv
  have hx := B.exec
  have hb := B.bytes
  have hr := B.returns
  have hts : ∀ w ∈ TB, w.before _ s = true := fun w h => atoms_spec (ws := _ :: TB) B.pre w (List.mem_cons_of_mem _ h)
  have hown : s.vm.findClass RX0 = some m.cls := findClass_of_methodNamed B.named
  have hlocks := B.notSynchronized
  have hh : Hp D (Nf sz) (fun _ => True) s.heap s.heap [] cs ad en := ⟨hP, hD0, va_S.rf⟩
  have hA : ∀ q : Nat, s.heap.size ≤ q → Nf sz q := fun q h => by rw [hsz] at h; exact h
  have hl := lv_entry ([.ref (ad 70)]) (n := 1) (Nat.le_of_ble_eq_true rfl)
  rw [lg_entry_eq]
  generalize (lg_sl ([.ref (ad 70)]) ++ List.replicate (1 - (lg_sl ([.ref (ad 70)])).length) Slot.unset).toArray = ls at hl ⊢
  have hl : lv_has ls 1 [(0, .ref (ad 70))] := hl
  have hka1 : 115 ≤ ka := hI.2.1.2.2.2.1
  have hka2 : ka < kb := hI.2.1.2.2.2.2.1
  have hka3 : kb < kc := hI.2.1.2.2.2.2.2
  obtain ⟨sta_771, cc_771, ct_771, un_771, ow_771, hn_771, es771, p0_771, p1_771, p2_771, p3_771⟩ := get2_C hI
  obtain ⟨f_772, es772⟩ := get2_eb hI
  have hn9 := hCL.1
  have hS2 := hCL.2.2.2.1.1
  have hct9 : ct_771 = S.length := n_eq ((show nI ct_771 = rdI (en 70) 9 from by rw [es771]; rfl).trans hCL.2.2.1) (by omega) (by have := hCL.2.2.2.1.1; omega)
  refine lv_aload_n hx hb dX0_lastWordLength_0 rfl (lv_at hl 0 rfl) ?_
  refine hp_get hx hb hts ix0 hown hK hh (q := 70) rfl (hI.1.1 _ (by decide)) es771 rfl 9 (by decide) (hts _ tw_156) (fun _ h9 => h9) rfl dX0_lastWordLength_1 ?_
  refine lv_if_le (tgt := 21) hx hb dX0_lastWordLength_4 (by decide) (fun c_773 => ?_) (fun c_773 => ?_)
  · have n_773 : ct_771 ≤ 0 := n_le (a := ct_771) (b := 0) c_773 (by omega) (by decide)
    refine lv_iconst (v := 0) hx hb dX0_lastWordLength_21 (by decide) ?_
    exact hp_iretR hx hb hr rfl hlocks hsz hh ((laS_0 (by omega)).symm) dX0_lastWordLength_22
  · have n_773 : 0 < ct_771 := n_nle (a := ct_771) (b := 0) c_773 (by omega) (by decide)
    refine lv_aload_n hx hb dX0_lastWordLength_7 rfl (lv_at hl 0 rfl) ?_
    refine hp_get hx hb hts ix0 hown hK hh (q := 70) rfl (hI.1.1 _ (by decide)) es771 rfl 5 (by decide) (hts _ tw_152) (fun _ h9 => h9) rfl dX0_lastWordLength_8 ?_
    refine lv_aload_n hx hb dX0_lastWordLength_11 rfl (lv_at hl 0 rfl) ?_
    refine hp_get hx hb hts ix0 hown hK hh (q := 70) rfl (hI.1.1 _ (by decide)) es771 rfl 9 (by decide) (hts _ tw_156) (fun _ h9 => h9) rfl dX0_lastWordLength_12 ?_
    refine lv_iconst (v := 1) hx hb dX0_lastWordLength_15 (by decide) ?_
    refine lv_isub hx hb dX0_lastWordLength_16 ?_
    rw [show (1 : Int32) = nI 1 from rfl, pk_sub (a := ct_771) (b := 1) (by omega)]
    refine hp_iald hx hb hK hh (q := kb) rfl hI.2.1.2.1 es772 (vp_in_nI (n := (ct_771 - 1)) (by omega) (by decide)) dX0_lastWordLength_17 ?_
    rw [nI_clamp (n := (ct_771 - 1)) (by omega)]
    refine lv_goto (tgt := 22) hx hb dX0_lastWordLength_18 (by decide) ?_
    exact hp_iretR hx hb hr rfl hlocks hsz hh (by obtain ⟨x, hx9⟩ := ge_some (S := S) (k := S.length - 1) (by omega); rw [laS_p hx9]; exact (show (f_772 (ct_771 - 1)) = rdF (en kb) (S.length - 1) from by rw [es772, ← hct9]; rfl).trans (CL_len hCL hx9)) dX0_lastWordLength_22
theorem kw_X0_lastWordLength {R : Room} {s : State} {args : Array Value} {own : String} {idx : Nat} (hts : ∀ w ∈ TB, w.before args s = true) (hl : Cond.methodLink own idx yX0_lastWordLength ∈ TB) (hR : 0 + 1 ≤ R.frames ∧ 8 + (1 + 11) + 40 * 0 ≤ R.locals) : CallW R s args own RX0 idx yX0_lastWordLength cX0_lastWordLength 1 (some .int) (Cond.code yX0_lastWordLength cX0_lastWordLength 1 (some .int) :: TB) (rmN 0) 0 0 0 := cwV 0 hts (TB_V hl tw_649 tw_650 tw_5 tw_651) rfl rfl rfl (by decide +kernel) hR
set_option maxHeartbeats 4000000 in
set_option maxRecDepth 100000 in
/-- numberOfProduct -/
theorem c_X0_numberOfProduct (l : Launch) (D : va_G) (cy : Nat → ClassId) (sz : Nat) (cs : List Nat) (ad : Nat → Nat) (en : Nat → va_E) {ka kb kc : Nat} (hI : SC cy cs ad ka kb kc en) (k j : Nat) (hk : k < 2000) (hj : j < 2000) (n : Nat) (S : CR) (hCL : CL9 ka kb kc n en S) (hnd : n = dC en * dC en) (x y : List Int64 × Int32) (hgx : S[k]? = some x) (hgy : S[j]? = some y)   : Met l yX0_numberOfProduct (Cond.code yX0_numberOfProduct cX0_numberOfProduct 4 (some .int) :: TB) (rmN 3) (va_Pc [.ref (ad 70), .int (nI k), .int (nI j)] (Pre D cy cs ad en sz)) (va_Qi (S := Nat → va_E) (fun r en1 => SC cy cs ad ka kb kc en1 ∧ (∀ c, (c < 71 ∨ 74 ≤ c) → en1 c = en c) ∧ ((∃ (p : Nat) (z : List Int64 × Int32), S[p]? = some z ∧ z.1 = vec n (mulV (dC en) (mC en) (vg x.1) (vg y.1)) ∧ r = nI p) ∨ (¬ vec n (mulV (dC en) (mC en) (vg x.1) (vg y.1)) ∈ S.map Prod.fst ∧ r = -1))) (PostM D cs ad) (Af cs ad sz)) 0 0 (Af cs ad sz) := by
  refine Met.ofW (cc := cX0_numberOfProduct) (maxL := 4) (ret := (some .int)) (by decide) rfl ?_
  intro p e s m args below meth c s₁ B hml hv
  obtain ⟨rfl, hsz, hP, hK, hD0⟩ := hv
  have hx := B.exec
  have hb := B.bytes
  have hr := B.returns
  have hts : ∀ w ∈ TB, w.before _ s = true := fun w h => atoms_spec (ws := _ :: TB) B.pre w (List.mem_cons_of_mem _ h)
  have hown : s.vm.findClass RX0 = some m.cls := findClass_of_methodNamed B.named
  have hlocks := B.notSynchronized
  have hh : Hp D (Af cs ad sz) (Af cs ad sz) s.heap s.heap [] cs ad en := ⟨hP, Af_self hD0, va_S.rf⟩
  have hA : ∀ q : Nat, s.heap.size ≤ q → Af cs ad sz q := fun q h => Or.inr (by rw [hsz] at h; exact h)
  have hl := lv_entry ([.ref (ad 70), .int (nI k), .int (nI j)]) (n := 4) (Nat.le_of_ble_eq_true rfl)
  rw [lg_entry_eq]
  generalize (lg_sl ([.ref (ad 70), .int (nI k), .int (nI j)]) ++ List.replicate (4 - (lg_sl ([.ref (ad 70), .int (nI k), .int (nI j)])).length) Slot.unset).toArray = ls at hl ⊢
  have hl : lv_has ls 4 [(0, .ref (ad 70)), (1, .int (nI k)), (2, .int (nI j))] := hl
  have hka1 : 115 ≤ ka := hI.2.1.2.2.2.1
  have hka2 : ka < kb := hI.2.1.2.2.2.2.1
  have hka3 : kb < kc := hI.2.1.2.2.2.2.2
  have hf0 : ∀ c, (c < 71 ∨ 74 ≤ c) → en c = en c := fun _ _ => rfl
  obtain ⟨cnt, d, mm, es774, hcnt, hd2, hd3, hmm⟩ := get2_T hI
  obtain ⟨sta_775, cc_775, ct_775, un_775, ow_775, hn_775, es775, p0_775, p1_775, p2_775, p3_775⟩ := get2_C hI
  have hn9 := hCL.1
  have hS2 := hCL.2.2.2.1.1
  have hct9 : ct_775 = S.length := n_eq ((show nI ct_775 = rdI (en 70) 9 from by rw [es775]; rfl).trans hCL.2.2.1) (by omega) (by have := hCL.2.2.2.1.1; omega)
  refine lv_aload_n hx hb dX0_numberOfProduct_0 rfl (lv_at hl 0 rfl) ?_
  refine lv_iload_n hx hb dX0_numberOfProduct_1 rfl (lv_at hl 1 rfl) ?_
  refine lv_iload_n hx hb dX0_numberOfProduct_2 rfl (lv_at hl 2 rfl) ?_
  refine hp_callMv (va_runV (As := [.int (nI k), .int (nI j)]) (rest := []) ⟨hx, hb, hml, hown, hts⟩ (c_X0_multiplyNumbered l D cy _ cs ad en hI k j (by omega) (by omega) n S hCL hnd x y hgx hgy) (kw_X0_multiplyNumbered hts tw_631 ⟨by decide, by decide⟩) (preV_of hh hK (hI.1.1 _ (by decide)) es775 rfl) rfl rfl hl.1 rfl (lv_room (Nat.le_of_ble_eq_true rfl)) dX0_numberOfProduct_3 ⟨Nat.le_of_ble_eq_true rfl, Nat.le_of_ble_eq_true rfl⟩) hh hA (fun H locs en_776 hw_776 hh => ?_)
  obtain ⟨hI_776, hu_776, hx_776⟩ := hw_776
  have hf_776 : ∀ c, (c < 71 ∨ 74 ≤ c) → en_776 c = en c := fun c hc => (hu_776 c (by omega)).trans (hf0 c hc)
  have hCL_776 := CL_k (e1 := en_776) hCL (hu_776 70 (by omega)) (hu_776 ka (by omega)) (hu_776 kb (by omega)) (hu_776 kc (by omega))
  obtain ⟨f_777, es777⟩ := get2_cd hI_776
  have hpr : vec n f_777 = vec n (mulV (dC en) (mC en) (vg x.1) (vg y.1)) := by have h9 := hx_776.2; rw [show rdL (en_776 73) = f_777 from by rw [es777]; rfl] at h9; exact h9
  refine lv_aload_n hx hb dX0_numberOfProduct_6 rfl (lv_at hl 0 rfl) ?_
  refine lv_aload_n hx hb dX0_numberOfProduct_7 rfl (lv_at hl 0 rfl) ?_
  have es775_778 : en_776 70 = .inr (0, [.ref (ad 1), .ref (ad 71), .ref (ad 72), .ref (ad 73), .ref (ad ka), .ref (ad kb), .ref (ad kc), .int (nI sta_775), .int (nI cc_775), .int (nI ct_775), .int un_775, .int ow_775, .int (nI hn_775)]) := (hf_776 70 (by omega)).trans es775
  refine hp_get hx hb hts ix0 hown hK hh (q := 70) rfl (hI.1.1 _ (by decide)) es775_778 rfl 3 (by decide) (hts _ tw_150) (fun _ h9 => h9) rfl dX0_numberOfProduct_8 ?_
  refine hp_callRi (va_runV (As := [.ref (ad 73)]) (rest := []) ⟨hx, hb, hml, hown, hts⟩ (c_X0_slotOf l D cy _ cs ad en_776 hI_776 73 (hI.1.1 _ (by decide)) (by omega) f_777 n S hCL_776 es777) (kw_X0_slotOf hts tw_604 ⟨by decide, by decide⟩) (preV_of hh hK (hI.1.1 _ (by decide)) es775_778 rfl) rfl rfl hl.1 rfl (lv_room (Nat.le_of_ble_eq_true rfl)) dX0_numberOfProduct_11 ⟨Nat.le_of_ble_eq_true rfl, Nat.le_of_ble_eq_true rfl⟩) hh hA (fun r_779 H locs hw_779 hh => ?_)
  obtain ⟨S_779, hS_779, hr_779, hso_779⟩ := hw_779
  rw [hr_779]
  refine lv_istore_n (lv' := [(3, .int (nI S_779)), (0, .ref (ad 70)), (1, .int (nI k)), (2, .int (nI j))]) hx hb dX0_numberOfProduct_14 rfl hl (by decide) rfl (fun ls hl => ?_)
  refine lv_aload_n hx hb dX0_numberOfProduct_15 rfl (lv_at hl 1 rfl) ?_
  refine hp_get hx hb hts ix0 hown hK hh (q := 70) rfl (hI.1.1 _ (by decide)) es775_778 rfl 6 (by decide) (hts _ tw_153) (fun _ h9 => h9) rfl dX0_numberOfProduct_16 ?_
  refine lv_iload_n hx hb dX0_numberOfProduct_19 rfl (lv_at hl 0 rfl) ?_
  obtain ⟨f_780, es780, p0_780⟩ := get2_ec hI_776
  refine hp_iald hx hb hK hh (q := kc) rfl hI.2.1.2.2.1 es780 (vp_in_nI (n := S_779) (by omega) (by decide)) dX0_numberOfProduct_20 ?_
  rw [nI_clamp (n := S_779) (by omega)]
  obtain ⟨v_781, hv_781, hfv_781⟩ := p0_780 S_779 (by omega)
  rw [hfv_781]
  refine lv_if_ne (tgt := 28) hx hb dX0_numberOfProduct_21 (by decide) (fun c_782 => ?_) (fun c_782 => ?_)
  · have n_782 : v_781 ≠ 0 := n_neq (a := v_781) (b := 0) c_782 (by omega) (by decide)
    refine lv_aload_n hx hb dX0_numberOfProduct_28 rfl (lv_at hl 1 rfl) ?_
    refine hp_get hx hb hts ix0 hown hK hh (q := 70) rfl (hI.1.1 _ (by decide)) es775_778 rfl 6 (by decide) (hts _ tw_153) (fun _ h9 => h9) rfl dX0_numberOfProduct_29 ?_
    refine lv_iload_n hx hb dX0_numberOfProduct_32 rfl (lv_at hl 0 rfl) ?_
    refine hp_iald hx hb hK hh (q := kc) rfl hI.2.1.2.2.1 es780 (vp_in_nI (n := S_779) (by omega) (by decide)) dX0_numberOfProduct_33 ?_
    rw [nI_clamp (n := S_779) (by omega)]
    rw [hfv_781]
    refine lv_iconst (v := 1) hx hb dX0_numberOfProduct_34 (by decide) ?_
    refine lv_isub hx hb dX0_numberOfProduct_35 ?_
    rw [show (1 : Int32) = nI 1 from rfl, pk_sub (a := v_781) (b := 1) (by omega)]
    exact hp_iretM hx hb hr rfl hlocks hh (⟨hI_776, hf_776, (Or.inl (by rw [← hpr]; exact SO_num hS2 hso_779 (show rdF (en_776 kc) S_779 = nI v_781 from by rw [es780]; exact hfv_781) (by omega) n_782))⟩) dX0_numberOfProduct_36
  · have n_782 : v_781 = 0 := n_eq (a := v_781) (b := 0) c_782 (by omega) (by decide)
    refine lv_iconst (v := (-1)) hx hb dX0_numberOfProduct_24 (by decide) ?_
    refine lv_goto (tgt := 36) hx hb dX0_numberOfProduct_25 (by decide) ?_
    exact hp_iretM hx hb hr rfl hlocks hh (⟨hI_776, hf_776, (Or.inr ⟨by rw [← hpr]; exact SO_out hS2 hso_779 ((show rdF (en_776 kc) S_779 = nI v_781 from by rw [es780]; exact hfv_781).trans (congrArg nI n_782)), rfl⟩)⟩) dX0_numberOfProduct_36
theorem kw_X0_numberOfProduct {R : Room} {s : State} {args : Array Value} {own : String} {idx : Nat} (hts : ∀ w ∈ TB, w.before args s = true) (hl : Cond.methodLink own idx yX0_numberOfProduct ∈ TB) (hR : 3 + 1 ≤ R.frames ∧ 8 + (4 + 11) + 40 * 3 ≤ R.locals) : CallW R s args own RX0 idx yX0_numberOfProduct cX0_numberOfProduct 4 (some .int) (Cond.code yX0_numberOfProduct cX0_numberOfProduct 4 (some .int) :: TB) (rmN 3) 0 0 2 := cwV 2 hts (TB_V hl tw_670 tw_671 tw_5 tw_672) rfl rfl rfl (by decide +kernel) hR
set_option maxHeartbeats 4000000 in
set_option maxRecDepth 100000 in
/-- forget -/
theorem c_X0_forget (l : Launch) (D : va_G) (cy : Nat → ClassId) (sz : Nat) (cs : List Nat) (ad : Nat → Nat) (en : Nat → va_E) (hI : SX cy cs ad en)    : Met l yX0_forget (Cond.code yX0_forget cX0_forget 1 none :: TB) (rmN 0) (va_Pc [.ref (ad 70)] (Pre D cy cs ad en sz)) (va_Qv (S := Nat → va_E) (fun en1 => SX cy cs ad en1 ∧ (∀ c, (c ≠ 70) → en1 c = en c) ∧ (∃ (ea eb ec : Option Nat) (st0 cc0 ct0 un0 ow0 hn0 : Int32), en 70 = .inr (0, [.ref (ad 1), .ref (ad 71), .ref (ad 72), .ref (ad 73), va_rf ea, va_rf eb, va_rf ec, .int st0, .int cc0, .int ct0, .int un0, .int ow0, .int hn0]) ∧ en1 70 = .inr (0, [.ref (ad 1), .ref (ad 71), .ref (ad 72), .ref (ad 73), va_rf ea, va_rf eb, va_rf ec, .int 0, .int cc0, .int ct0, .int un0, .int ow0, .int hn0]))) (PostM D cs ad) (Af cs ad sz)) 0 0 (Af cs ad sz) := by
  refine Met.ofW (cc := cX0_forget) (maxL := 1) (ret := none) (by decide) rfl ?_
  intro p e s m args below meth c s₁ B hml hv
  obtain ⟨rfl, hsz, hP, hK, hD0⟩ := hv
  have hx := B.exec
  have hb := B.bytes
  have hr := B.returns
  have hts : ∀ w ∈ TB, w.before _ s = true := fun w h => atoms_spec (ws := _ :: TB) B.pre w (List.mem_cons_of_mem _ h)
  have hown : s.vm.findClass RX0 = some m.cls := findClass_of_methodNamed B.named
  have hlocks := B.notSynchronized
  have hh : Hp D (Af cs ad sz) (Af cs ad sz) s.heap s.heap [] cs ad en := ⟨hP, Af_self hD0, va_S.rf⟩
  have hA : ∀ q : Nat, s.heap.size ≤ q → Af cs ad sz q := fun q h => Or.inr (by rw [hsz] at h; exact h)
  have hl := lv_entry ([.ref (ad 70)]) (n := 1) (Nat.le_of_ble_eq_true rfl)
  rw [lg_entry_eq]
  generalize (lg_sl ([.ref (ad 70)]) ++ List.replicate (1 - (lg_sl ([.ref (ad 70)])).length) Slot.unset).toArray = ls at hl ⊢
  have hl : lv_has ls 1 [(0, .ref (ad 70))] := hl
  have hf0 : ∀ c, (c ≠ 70) → en c = en c := fun _ _ => rfl
  obtain ⟨ea_783, eb_783, ec_783, st0_783, cc0_783, ct0_783, un0_783, ow0_783, hn0_783, es783⟩ := get_C hI
  refine lv_aload_n hx hb dX0_forget_0 rfl (lv_at hl 0 rfl) ?_
  refine lv_iconst (v := 0) hx hb dX0_forget_1 (by decide) ?_
  refine hp_put hx hb hts ix0 tyX0 tyX0_ok nmX0 hown hK hh (q := 70) rfl (hI.1 _ (by decide)) es783 rfl 7 (by decide) (hts _ tw_154) (fun _ h9 => h9) rfl (ty := .int) (by decide +kernel) rfl rfl (Nat.le_of_ble_eq_true rfl) dX0_forget_2 (fun H locs en_784 hen_784 hh => ?_)
  have es783_784 : en_784 70 = .inr (0, [.ref (ad 1), .ref (ad 71), .ref (ad 72), .ref (ad 73), va_rf ea_783, va_rf eb_783, va_rf ec_783, .int 0, .int cc0_783, .int ct0_783, .int un0_783, .int ow0_783, .int hn0_783]) := by rw [hen_784]; exact va_up_self _ _ _
  have hI_784 : SX cy cs ad en_784 := by rw [hen_784]; exact up_C hI ⟨ea_783, eb_783, ec_783, 0, cc0_783, ct0_783, un0_783, ow0_783, hn0_783, rfl⟩
  have hf_784 : ∀ c, (c ≠ 70) → en_784 c = en c := fun c hc => Eq.trans (show en_784 c = en c from by rw [hen_784, va_up_ne _ _ (by omega)]) (hf0 c hc)
  exact hp_vretM hx hb hr hlocks hh (⟨hI_784, hf_784, ⟨ea_783, eb_783, ec_783, st0_783, cc0_783, ct0_783, un0_783, ow0_783, hn0_783, es783, es783_784⟩⟩) dX0_forget_5
theorem kw_X0_forget {R : Room} {s : State} {args : Array Value} {own : String} {idx : Nat} (hts : ∀ w ∈ TB, w.before args s = true) (hl : Cond.methodLink own idx yX0_forget ∈ TB) (hR : 0 + 1 ≤ R.frames ∧ 8 + (1 + 11) + 40 * 0 ≤ R.locals) : CallW R s args own RX0 idx yX0_forget cX0_forget 1 none (Cond.code yX0_forget cX0_forget 1 none :: TB) (rmN 0) 0 0 0 := cwV 0 hts (TB_V hl tw_286 tw_287 tw_5 tw_288) rfl rfl rfl (by decide +kernel) hR
set_option maxHeartbeats 4000000 in
set_option maxRecDepth 100000 in
/-- isFound -/
theorem c_X0_isFound (l : Launch) (D : va_G) (cy : Nat → ClassId) (sz : Nat) (cs : List Nat) (ad : Nat → Nat) (en : Nat → va_E) (hI : SX cy cs ad en)    : Met l yX0_isFound (Cond.code yX0_isFound cX0_isFound 1 (some .boolean) :: TB) (rmN 0) (va_Pc [.ref (ad 70)] (Pre D cy cs ad en sz)) (va_Qi (S := Unit) (fun r _ => r = if rdI (en 70) 7 = 1 then 1 else 0) (fun _ _ => True) (Nf sz)) 0 0 (Nf sz) := by
  refine Met.ofW (cc := cX0_isFound) (maxL := 1) (ret := (some .boolean)) (by decide) rfl ?_
  intro p e s m args below meth c s₁ B hml hv
  obtain ⟨rfl, hsz, hP, hK, hD0⟩ := hv
  have hx := B.exec
  have hb := B.bytes
  have hr := B.returns
  have hts : ∀ w ∈ TB, w.before _ s = true := fun w h => atoms_spec (ws := _ :: TB) B.pre w (List.mem_cons_of_mem _ h)
  have hown : s.vm.findClass RX0 = some m.cls := findClass_of_methodNamed B.named
  have hlocks := B.notSynchronized
  have hh : Hp D (Nf sz) (fun _ => True) s.heap s.heap [] cs ad en := ⟨hP, hD0, va_S.rf⟩
  have hA : ∀ q : Nat, s.heap.size ≤ q → Nf sz q := fun q h => by rw [hsz] at h; exact h
  have hl := lv_entry ([.ref (ad 70)]) (n := 1) (Nat.le_of_ble_eq_true rfl)
  rw [lg_entry_eq]
  generalize (lg_sl ([.ref (ad 70)]) ++ List.replicate (1 - (lg_sl ([.ref (ad 70)])).length) Slot.unset).toArray = ls at hl ⊢
  have hl : lv_has ls 1 [(0, .ref (ad 70))] := hl
  obtain ⟨ea_785, eb_785, ec_785, st0_785, cc0_785, ct0_785, un0_785, ow0_785, hn0_785, es785⟩ := get_C hI
  refine lv_aload_n hx hb dX0_isFound_0 rfl (lv_at hl 0 rfl) ?_
  refine hp_get hx hb hts ix0 hown hK hh (q := 70) rfl (hI.1 _ (by decide)) es785 rfl 7 (by decide) (hts _ tw_154) (fun _ h9 => h9) rfl dX0_isFound_1 ?_
  refine lv_iconst (v := 1) hx hb dX0_isFound_4 (by decide) ?_
  refine lv_icmp_ne (tgt := 12) hx hb dX0_isFound_5 (by decide) (fun c_786 => ?_) (fun c_786 => ?_)
  · refine lv_iconst (v := 0) hx hb dX0_isFound_12 (by decide) ?_
    exact hp_iretR hx hb hr rfl hlocks hsz hh ((by rw [show rdI (en 70) 7 = st0_785 from by rw [es785]; rfl]; exact (if_neg c_786).symm)) dX0_isFound_13
  · refine lv_iconst (v := 1) hx hb dX0_isFound_8 (by decide) ?_
    refine lv_goto (tgt := 13) hx hb dX0_isFound_9 (by decide) ?_
    exact hp_iretR hx hb hr rfl hlocks hsz hh ((by rw [show rdI (en 70) 7 = st0_785 from by rw [es785]; rfl]; exact (if_pos c_786).symm)) dX0_isFound_13
theorem kw_X0_isFound {R : Room} {s : State} {args : Array Value} {own : String} {idx : Nat} (hts : ∀ w ∈ TB, w.before args s = true) (hl : Cond.methodLink own idx yX0_isFound ∈ TB) (hR : 0 + 1 ≤ R.frames ∧ 8 + (1 + 11) + 40 * 0 ≤ R.locals) : CallW R s args own RX0 idx yX0_isFound cX0_isFound 1 (some .boolean) (Cond.code yX0_isFound cX0_isFound 1 (some .boolean) :: TB) (rmN 0) 0 0 0 := cwV 0 hts (TB_V hl tw_645 tw_646 tw_5 tw_647) rfl rfl rfl (by decide +kernel) hR
set_option maxHeartbeats 4000000 in
set_option maxRecDepth 100000 in
/-- has -/
theorem c_X0_has (l : Launch) (D : va_G) (cy : Nat → ClassId) (sz : Nat) (cs : List Nat) (ad : Nat → Nat) (en : Nat → va_E) (hI : SX cy cs ad en) (k : Int32)   : Met l yX0_has (Cond.code yX0_has cX0_has 2 (some .boolean) :: TB) (rmN 1) (va_Pc [.ref (ad 70), .int k] (Pre D cy cs ad en sz)) (va_Qi (S := Unit) (fun r _ => r = if (rdI (en 70) 7 = 1 ∧ 0 ≤ k.toInt ∧ k.toInt < (rdI (en 70) 9).toInt) then 1 else 0) (fun _ _ => True) (Nf sz)) 0 0 (Nf sz) := by
  refine Met.ofW (cc := cX0_has) (maxL := 2) (ret := (some .boolean)) (by decide) rfl ?_
  intro p e s m args below meth c s₁ B hml hv
  obtain ⟨rfl, hsz, hP, hK, hD0⟩ := hv
  have hx := B.exec
  have hb := B.bytes
  have hr := B.returns
  have hts : ∀ w ∈ TB, w.before _ s = true := fun w h => atoms_spec (ws := _ :: TB) B.pre w (List.mem_cons_of_mem _ h)
  have hown : s.vm.findClass RX0 = some m.cls := findClass_of_methodNamed B.named
  have hlocks := B.notSynchronized
  have hh : Hp D (Nf sz) (fun _ => True) s.heap s.heap [] cs ad en := ⟨hP, hD0, va_S.rf⟩
  have hA : ∀ q : Nat, s.heap.size ≤ q → Nf sz q := fun q h => by rw [hsz] at h; exact h
  have hl := lv_entry ([.ref (ad 70), .int k]) (n := 2) (Nat.le_of_ble_eq_true rfl)
  rw [lg_entry_eq]
  generalize (lg_sl ([.ref (ad 70), .int k]) ++ List.replicate (2 - (lg_sl ([.ref (ad 70), .int k])).length) Slot.unset).toArray = ls at hl ⊢
  have hl : lv_has ls 2 [(0, .ref (ad 70)), (1, .int k)] := hl
  obtain ⟨ea_787, eb_787, ec_787, st0_787, cc0_787, ct0_787, un0_787, ow0_787, hn0_787, es787⟩ := get_C hI
  refine lv_aload_n hx hb dX0_has_0 rfl (lv_at hl 0 rfl) ?_
  refine hp_callRi (va_runV (As := []) (rest := []) ⟨hx, hb, hml, hown, hts⟩ (c_X0_isFound l D cy _ cs ad en hI) (kw_X0_isFound hts tw_660 ⟨by decide, by decide⟩) (preV_of hh hK (hI.1 _ (by decide)) es787 rfl) rfl rfl hl.1 rfl (lv_room (Nat.le_of_ble_eq_true rfl)) dX0_has_1 ⟨Nat.le_of_ble_eq_true rfl, Nat.le_of_ble_eq_true rfl⟩) hh hA (fun r_788 H locs hw_788 hh => ?_)
  rcases Decidable.em (rdI (en 70) 7 = 1) with hp_788 | hp_788
  · obtain rfl : r_788 = 1 := Eq.trans hw_788 (if_pos hp_788)
    refine lv_if_eq (tgt := 23) hx hb dX0_has_4 (by decide) (fun c_0 => absurd c_0 (by decide)) (fun _ => ?_)
    refine lv_iload_n hx hb dX0_has_7 rfl (lv_at hl 1 rfl) ?_
    refine lv_if_lt (tgt := 23) hx hb dX0_has_8 (by decide) (fun c_789 => ?_) (fun c_789 => ?_)
    · refine lv_iconst (v := 0) hx hb dX0_has_23 (by decide) ?_
      have : (0 : Int32).toInt = 0 := by decide
      have : (1 : Int32).toInt = 1 := by decide
      have : (7 : Int32).toInt = 7 := by decide
      have : (70 : Int32).toInt = 70 := by decide
      have := i_eq hp_788
      have := i_lt c_789
      have hct9 : rdI (en 70) 9 = ct0_787 := by rw [es787]; rfl
      exact hp_iretR hx hb hr rfl hlocks hsz hh ((by rw [hct9]; exact (if_neg (fun q => by have q1 := q.2.1; have q2 := q.2.2; omega)).symm)) dX0_has_24
    · refine lv_iload_n hx hb dX0_has_11 rfl (lv_at hl 1 rfl) ?_
      refine lv_aload_n hx hb dX0_has_12 rfl (lv_at hl 0 rfl) ?_
      refine hp_get hx hb hts ix0 hown hK hh (q := 70) rfl (hI.1 _ (by decide)) es787 rfl 9 (by decide) (hts _ tw_156) (fun _ h9 => h9) rfl dX0_has_13 ?_
      refine lv_icmp_ge (tgt := 23) hx hb dX0_has_16 (by decide) (fun c_790 => ?_) (fun c_790 => ?_)
      · refine lv_iconst (v := 0) hx hb dX0_has_23 (by decide) ?_
        have : (0 : Int32).toInt = 0 := by decide
        have : (1 : Int32).toInt = 1 := by decide
        have : (7 : Int32).toInt = 7 := by decide
        have : (70 : Int32).toInt = 70 := by decide
        have := i_eq hp_788
        have := i_nlt c_789
        have := i_le c_790
        have hct9 : rdI (en 70) 9 = ct0_787 := by rw [es787]; rfl
        exact hp_iretR hx hb hr rfl hlocks hsz hh ((by rw [hct9]; exact (if_neg (fun q => by have q1 := q.2.1; have q2 := q.2.2; omega)).symm)) dX0_has_24
      · refine lv_iconst (v := 1) hx hb dX0_has_19 (by decide) ?_
        refine lv_goto (tgt := 24) hx hb dX0_has_20 (by decide) ?_
        have : (0 : Int32).toInt = 0 := by decide
        have : (1 : Int32).toInt = 1 := by decide
        have : (7 : Int32).toInt = 7 := by decide
        have : (70 : Int32).toInt = 70 := by decide
        have := i_eq hp_788
        have := i_nlt c_789
        have := i_nle c_790
        have hct9 : rdI (en 70) 9 = ct0_787 := by rw [es787]; rfl
        exact hp_iretR hx hb hr rfl hlocks hsz hh ((by rw [hct9]; exact (if_pos ⟨hp_788, by omega, by omega⟩).symm)) dX0_has_24
  · obtain rfl : r_788 = 0 := Eq.trans hw_788 (if_neg hp_788)
    refine lv_if_eq (tgt := 23) hx hb dX0_has_4 (by decide) (fun _ => ?_) (fun c_0 => absurd c_0 (by decide))
    refine lv_iconst (v := 0) hx hb dX0_has_23 (by decide) ?_
    have : (0 : Int32).toInt = 0 := by decide
    have : (1 : Int32).toInt = 1 := by decide
    have : (7 : Int32).toInt = 7 := by decide
    have : (70 : Int32).toInt = 70 := by decide
    have := i_neq hp_788
    have hct9 : rdI (en 70) 9 = ct0_787 := by rw [es787]; rfl
    exact hp_iretR hx hb hr rfl hlocks hsz hh ((by rw [hct9]; exact (if_neg (fun q => hp_788 q.1)).symm)) dX0_has_24
theorem kw_X0_has {R : Room} {s : State} {args : Array Value} {own : String} {idx : Nat} (hts : ∀ w ∈ TB, w.before args s = true) (hl : Cond.methodLink own idx yX0_has ∈ TB) (hR : 1 + 1 ≤ R.frames ∧ 8 + (2 + 11) + 40 * 1 ≤ R.locals) : CallW R s args own RX0 idx yX0_has cX0_has 2 (some .boolean) (Cond.code yX0_has cX0_has 2 (some .boolean) :: TB) (rmN 1) 0 0 1 := cwV 1 hts (TB_V hl tw_657 tw_658 tw_5 tw_659) rfl rfl rfl (by decide +kernel) hR
set_option maxHeartbeats 4000000 in
set_option maxRecDepth 100000 in
/-- closed -/
theorem c_X11_closed (l : Launch) (D : va_G) (cy : Nat → ClassId) (sz : Nat) (cs : List Nat) (ad : Nat → Nat) (en : Nat → va_E) (hI : SX cy cs ad en) (z : Int32) (hQ : QX cy cs ad en)   : Met l yX11_closed (Cond.code yX11_closed cX11_closed 2 (some .int) :: TB) (rmN 2) (va_Pc [.ref (ad 0), .int z] (Pre D cy cs ad en sz)) (va_Qi (S := Unit) (fun r _ => XCD z r en) (fun _ _ => True) (Nf sz)) 0 0 (Nf sz) := by
  refine Met.ofW (cc := cX11_closed) (maxL := 2) (ret := (some .int)) (by decide) rfl ?_
  intro p e s m args below meth c s₁ B hml hv
  obtain ⟨rfl, hsz, hP, hK, hD0⟩ := hv
  have hx := B.exec
  have hb := B.bytes
  have hr := B.returns
  have hts : ∀ w ∈ TB, w.before _ s = true := fun w h => atoms_spec (ws := _ :: TB) B.pre w (List.mem_cons_of_mem _ h)
  have hown : s.vm.findClass RX11 = some m.cls := findClass_of_methodNamed B.named
  have hlocks := B.notSynchronized
  have hh : Hp D (Nf sz) (fun _ => True) s.heap s.heap [] cs ad en := ⟨hP, hD0, va_S.rf⟩
  have hA : ∀ q : Nat, s.heap.size ≤ q → Nf sz q := fun q h => by rw [hsz] at h; exact h
  have hl := lv_entry ([.ref (ad 0), .int z]) (n := 2) (Nat.le_of_ble_eq_true rfl)
  rw [lg_entry_eq]
  generalize (lg_sl ([.ref (ad 0), .int z]) ++ List.replicate (2 - (lg_sl ([.ref (ad 0), .int z])).length) Slot.unset).toArray = ls at hl ⊢
  have hl : lv_has ls 2 [(0, .ref (ad 0)), (1, .int z)] := hl
  obtain ⟨wc_791, lf_791, es791, p0_791⟩ := get_A hI
  obtain ⟨ea_792, eb_792, ec_792, st0_792, cc0_792, ct0_792, un0_792, ow0_792, hn0_792, es792⟩ := get_C hI
  refine lv_iload_n hx hb dX11_closed_0 rfl (lv_at hl 1 rfl) ?_
  refine lv_iconst (v := 0) hx hb dX11_closed_1 (by decide) ?_
  refine lv_iconst (v := 4) hx hb dX11_closed_2 (by decide) ?_
  refine hp_callRi (va_runS (As := [.int z, .int 0, .int 4]) (rest := []) ⟨hx, hb, hml, hown, hts⟩ (c_X11_isWithin l D cy _ cs ad en z 0 4) (kw_X11_isWithin hts tw_274 ⟨by decide, by decide⟩) (preS_of hh hK) rfl rfl hl.1 rfl (lv_room (Nat.le_of_ble_eq_true rfl)) dX11_closed_3 ⟨Nat.le_of_ble_eq_true rfl, Nat.le_of_ble_eq_true rfl⟩) hh hA (fun r_793 H locs hw_793 hh => ?_)
  rcases Decidable.em (wi z 0 4) with hp_793 | hp_793
  · obtain rfl : r_793 = 1 := Eq.trans hw_793 (if_pos hp_793)
    obtain ⟨N_793, rfl, hA_793, hB_793⟩ := wi_natB hp_793 0 4 (by decide) (by decide)
    refine lv_if_ne (tgt := 12) hx hb dX11_closed_6 (by decide) (fun _ => ?_) (fun c_0 => absurd c_0 (by decide))
    refine lv_aload_n hx hb dX11_closed_12 rfl (lv_at hl 0 rfl) ?_
    refine hp_get hx hb hts ix11 hown hK hh (q := 0) rfl (hI.1 _ (by decide)) es791 rfl 2 (by decide) (hts _ tw_247) (fun _ h9 => h9) rfl dX11_closed_13 ?_
    refine hp_callRi (va_runV (As := []) (rest := []) ⟨hx, hb, hml, hown, hts⟩ (c_X0_isFound l D cy _ cs ad en hI) (kw_X0_isFound hts tw_644 ⟨by decide, by decide⟩) (preV_of hh hK (hI.1 _ (by decide)) es792 rfl) rfl rfl hl.1 rfl (lv_room (Nat.le_of_ble_eq_true rfl)) dX11_closed_16 ⟨Nat.le_of_ble_eq_true rfl, Nat.le_of_ble_eq_true rfl⟩) hh hA (fun r_794 H locs hw_794 hh => ?_)
    rcases Decidable.em (rdI (en 70) 7 = 1) with hp_794 | hp_794
    · obtain rfl : r_794 = 1 := Eq.trans hw_794 (if_pos hp_794)
      refine lv_if_ne (tgt := 25) hx hb dX11_closed_19 (by decide) (fun _ => ?_) (fun c_0 => absurd c_0 (by decide))
      obtain ⟨ka_9, kb_9, kc_9, S_9, hKK_9, hPC_9, hcs_9, hcl_9, hsu_9⟩ := QX_found hQ hp_794
      refine lv_iload_n hx hb dX11_closed_25 rfl (lv_at hl 1 rfl) ?_
      by_cases q_795_0 : (nI N_793) = 0
      · refine lv_tableIn (off := 30) (tgt := 56) hx hb dX11_closed_26 (by rw [q_795_0]; decide) (by rw [q_795_0]; decide) (by rw [q_795_0]; decide) (by decide) ?_
        refine lv_aload_n hx hb dX11_closed_56 rfl (lv_at hl 0 rfl) ?_
        refine hp_get hx hb hts ix11 hown hK hh (q := 0) rfl (hI.1 _ (by decide)) es791 rfl 2 (by decide) (hts _ tw_247) (fun _ h9 => h9) rfl dX11_closed_57 ?_
        refine hp_get hx hb hts ix0 hown hK hh (q := 70) rfl (hI.1 _ (by decide)) es792 rfl 9 (by decide) (hts _ tw_157) (fun _ h9 => h9) rfl dX11_closed_60 ?_
        exact hp_iretR hx hb hr rfl hlocks hsz hh (Or.inr (Or.inr ⟨hp_793, hp_794, S_9, hcs_9, Or.inl ⟨q_795_0, (show ct0_792 = rdI (en 70) 9 from by rw [es792]; rfl).trans hcl_9.2.2.1⟩⟩)) dX11_closed_63
      by_cases q_795_1 : (nI N_793) = 1
      · refine lv_tableIn (off := 38) (tgt := 64) hx hb dX11_closed_26 (by rw [q_795_1]; decide) (by rw [q_795_1]; decide) (by rw [q_795_1]; decide) (by decide) ?_
        refine lv_aload_n hx hb dX11_closed_64 rfl (lv_at hl 0 rfl) ?_
        refine hp_get hx hb hts ix11 hown hK hh (q := 0) rfl (hI.1 _ (by decide)) es791 rfl 2 (by decide) (hts _ tw_247) (fun _ h9 => h9) rfl dX11_closed_65 ?_
        refine hp_get hx hb hts ix0 hown hK hh (q := 70) rfl (hI.1 _ (by decide)) es792 rfl 12 (by decide) (hts _ tw_162) (fun _ h9 => h9) rfl dX11_closed_68 ?_
        refine lv_if_eq (tgt := 78) hx hb dX11_closed_71 (by decide) (fun c_796 => ?_) (fun c_796 => ?_)
        · refine lv_iconst (v := 0) hx hb dX11_closed_78 (by decide) ?_
          exact hp_iretR hx hb hr rfl hlocks hsz hh (Or.inr (Or.inr ⟨hp_793, hp_794, S_9, hcs_9, Or.inr (Or.inl ⟨q_795_1, (hsu_9.2.2.elim (fun q => absurd (c_796.symm.trans ((show hn0_792 = rdI (en 70) 12 from by rw [es792]; rfl).trans q.1)) (by decide)) (fun q => Or.inr ⟨rfl, q.2⟩))⟩)⟩)) dX11_closed_79
        · refine lv_iconst (v := 1) hx hb dX11_closed_74 (by decide) ?_
          refine lv_goto (tgt := 79) hx hb dX11_closed_75 (by decide) ?_
          exact hp_iretR hx hb hr rfl hlocks hsz hh (Or.inr (Or.inr ⟨hp_793, hp_794, S_9, hcs_9, Or.inr (Or.inl ⟨q_795_1, (hsu_9.2.2.elim (fun q => Or.inl ⟨rfl, q.2⟩) (fun q => absurd ((show hn0_792 = rdI (en 70) 12 from by rw [es792]; rfl).trans q.1) c_796))⟩)⟩)) dX11_closed_79
      by_cases q_795_2 : (nI N_793) = 2
      · refine lv_tableIn (off := 54) (tgt := 80) hx hb dX11_closed_26 (by rw [q_795_2]; decide) (by rw [q_795_2]; decide) (by rw [q_795_2]; decide) (by decide) ?_
        refine lv_aload_n hx hb dX11_closed_80 rfl (lv_at hl 0 rfl) ?_
        refine hp_get hx hb hts ix11 hown hK hh (q := 0) rfl (hI.1 _ (by decide)) es791 rfl 2 (by decide) (hts _ tw_247) (fun _ h9 => h9) rfl dX11_closed_81 ?_
        refine hp_get hx hb hts ix0 hown hK hh (q := 70) rfl (hI.1 _ (by decide)) es792 rfl 10 (by decide) (hts _ tw_158) (fun _ h9 => h9) rfl dX11_closed_84 ?_
        exact hp_iretR hx hb hr rfl hlocks hsz hh (Or.inr (Or.inr ⟨hp_793, hp_794, S_9, hcs_9, Or.inr (Or.inr (Or.inl ⟨q_795_2, (show un0_792 = rdI (en 70) 10 from by rw [es792]; rfl).trans hsu_9.1⟩))⟩)) dX11_closed_87
      by_cases q_795_3 : (nI N_793) = 3
      · refine lv_tableIn (off := 62) (tgt := 88) hx hb dX11_closed_26 (by rw [q_795_3]; decide) (by rw [q_795_3]; decide) (by rw [q_795_3]; decide) (by decide) ?_
        refine lv_aload_n hx hb dX11_closed_88 rfl (lv_at hl 0 rfl) ?_
        refine hp_get hx hb hts ix11 hown hK hh (q := 0) rfl (hI.1 _ (by decide)) es791 rfl 2 (by decide) (hts _ tw_247) (fun _ h9 => h9) rfl dX11_closed_89 ?_
        refine hp_get hx hb hts ix0 hown hK hh (q := 70) rfl (hI.1 _ (by decide)) es792 rfl 11 (by decide) (hts _ tw_160) (fun _ h9 => h9) rfl dX11_closed_92 ?_
        exact hp_iretR hx hb hr rfl hlocks hsz hh (Or.inr (Or.inr ⟨hp_793, hp_794, S_9, hcs_9, Or.inr (Or.inr (Or.inr (Or.inl ⟨q_795_3, (show ow0_792 = rdI (en 70) 11 from by rw [es792]; rfl).trans hsu_9.2.1⟩)))⟩)) dX11_closed_95
      refine lv_tableOut (tgt := 96) hx hb dX11_closed_26 (tb_out 4 (by decide) (by decide) (fun j hj => by rcases (show j = 0 ∨ j = 1 ∨ j = 2 ∨ j = 3 by omega) with rfl | rfl | rfl | rfl <;> first | exact lv_neT q_795_0 (by decide) | exact lv_neT q_795_1 (by decide) | exact lv_neT q_795_2 (by decide) | exact lv_neT q_795_3 (by decide))) (by decide) ?_
      refine lv_aload_n hx hb dX11_closed_96 rfl (lv_at hl 0 rfl) ?_
      refine hp_get hx hb hts ix11 hown hK hh (q := 0) rfl (hI.1 _ (by decide)) es791 rfl 2 (by decide) (hts _ tw_247) (fun _ h9 => h9) rfl dX11_closed_97 ?_
      refine hp_callRi (va_runV (As := []) (rest := []) ⟨hx, hb, hml, hown, hts⟩ (c_X0_lastWordLength l D cy _ cs ad en (ka := ka_9) (kb := kb_9) (kc := kc_9) ⟨hI, hKK_9, hPC_9⟩ _ S_9 hcl_9) (kw_X0_lastWordLength hts tw_648 ⟨by decide, by decide⟩) (preV_of hh hK (hI.1 _ (by decide)) es792 rfl) rfl rfl hl.1 rfl (lv_room (Nat.le_of_ble_eq_true rfl)) dX11_closed_100 ⟨Nat.le_of_ble_eq_true rfl, Nat.le_of_ble_eq_true rfl⟩) hh hA (fun r_797 H locs hw_797 hh => ?_)
      exact hp_iretR hx hb hr rfl hlocks hsz hh (Or.inr (Or.inr ⟨hp_793, hp_794, S_9, hcs_9, Or.inr (Or.inr (Or.inr (Or.inr ⟨(by have a0 : N_793 ≠ 0 := fun e => q_795_0 (by rw [e]; rfl); have a1 : N_793 ≠ 1 := fun e => q_795_1 (by rw [e]; rfl); have a2 : N_793 ≠ 2 := fun e => q_795_2 (by rw [e]; rfl); have a3 : N_793 ≠ 3 := fun e => q_795_3 (by rw [e]; rfl); exact congrArg nI (show N_793 = 4 by omega)), hw_797⟩)))⟩)) dX11_closed_103
    · obtain rfl : r_794 = 0 := Eq.trans hw_794 (if_neg hp_794)
      refine lv_if_ne (tgt := 25) hx hb dX11_closed_19 (by decide) (fun c_0 => absurd c_0 (by decide)) (fun _ => ?_)
      refine lv_bipush (v := (-3)) hx hb dX11_closed_22 (by decide) ?_
      exact hp_iretR hx hb hr rfl hlocks hsz hh (Or.inr (Or.inl ⟨hp_793, hp_794, rfl⟩)) dX11_closed_24
  · obtain rfl : r_793 = 0 := Eq.trans hw_793 (if_neg hp_793)
    refine lv_if_ne (tgt := 12) hx hb dX11_closed_6 (by decide) (fun c_0 => absurd c_0 (by decide)) (fun _ => ?_)
    refine lv_bipush (v := (-2)) hx hb dX11_closed_9 (by decide) ?_
    exact hp_iretR hx hb hr rfl hlocks hsz hh (Or.inl ⟨hp_793, rfl⟩) dX11_closed_11
theorem kw_X11_closed {R : Room} {s : State} {args : Array Value} {own : String} {idx : Nat} (hts : ∀ w ∈ TB, w.before args s = true) (hl : Cond.methodLink own idx yX11_closed ∈ TB) (hR : 2 + 1 ≤ R.frames ∧ 8 + (2 + 11) + 40 * 2 ≤ R.locals) : CallW R s args own RX11 idx yX11_closed cX11_closed 2 (some .int) (Cond.code yX11_closed cX11_closed 2 (some .int) :: TB) (rmN 2) 0 0 1 := cwV 1 hts (TB_V hl tw_641 tw_642 tw_1 tw_643) rfl rfl rfl (by decide +kernel) hR
set_option maxHeartbeats 4000000 in
set_option maxRecDepth 100000 in
/-- product -/
theorem c_X11_product (l : Launch) (D : va_G) (cy : Nat → ClassId) (sz : Nat) (cs : List Nat) (ad : Nat → Nat) (en : Nat → va_E) (hI : SX cy cs ad en) (k a b : Int32) (hQ : QX cy cs ad en)   : Met l yX11_product (Cond.code yX11_product cX11_product 4 (some .long) :: TB) (rmN 2) (va_Pc [.ref (ad 0), .int k, .int a, .int b] (Pre D cy cs ad en sz)) (va_Ql (S := Unit) (fun r _ => XPD k a b r en) (fun _ _ => True) (Nf sz)) 0 0 (Nf sz) := by
  refine Met.ofW (cc := cX11_product) (maxL := 4) (ret := (some .long)) (by decide) rfl ?_
  intro p e s m args below meth c s₁ B hml hv
  obtain ⟨rfl, hsz, hP, hK, hD0⟩ := hv
  have hx := B.exec
  have hb := B.bytes
  have hr := B.returns
  have hts : ∀ w ∈ TB, w.before _ s = true := fun w h => atoms_spec (ws := _ :: TB) B.pre w (List.mem_cons_of_mem _ h)
  have hown : s.vm.findClass RX11 = some m.cls := findClass_of_methodNamed B.named
  have hlocks := B.notSynchronized
  have hh : Hp D (Nf sz) (fun _ => True) s.heap s.heap [] cs ad en := ⟨hP, hD0, va_S.rf⟩
  have hA : ∀ q : Nat, s.heap.size ≤ q → Nf sz q := fun q h => by rw [hsz] at h; exact h
  have hl := lv_entry ([.ref (ad 0), .int k, .int a, .int b]) (n := 4) (Nat.le_of_ble_eq_true rfl)
  rw [lg_entry_eq]
  generalize (lg_sl ([.ref (ad 0), .int k, .int a, .int b]) ++ List.replicate (4 - (lg_sl ([.ref (ad 0), .int k, .int a, .int b])).length) Slot.unset).toArray = ls at hl ⊢
  have hl : lv_has ls 4 [(0, .ref (ad 0)), (1, .int k), (2, .int a), (3, .int b)] := hl
  obtain ⟨wc_798, lf_798, es798, p0_798⟩ := get_A hI
  obtain ⟨cnt, d, mm, es799, hcnt, hd2, hd3, hmm⟩ := get_T hI
  refine lv_aload_n hx hb dX11_product_0 rfl (lv_at hl 0 rfl) ?_
  refine hp_get hx hb hts ix11 hown hK hh (q := 0) rfl (hI.1 _ (by decide)) es798 rfl 2 (by decide) (hts _ tw_247) (fun _ h9 => h9) rfl dX11_product_1 ?_
  refine lv_iload_n hx hb dX11_product_4 rfl (lv_at hl 1 rfl) ?_
  obtain ⟨ea_800, eb_800, ec_800, st0_800, cc0_800, ct0_800, un0_800, ow0_800, hn0_800, es800⟩ := get_C hI
  refine hp_callRi (va_runV (As := [.int k]) (rest := []) ⟨hx, hb, hml, hown, hts⟩ (c_X0_has l D cy _ cs ad en hI k ) (kw_X0_has hts tw_656 ⟨by decide, by decide⟩) (preV_of hh hK (hI.1 _ (by decide)) es800 rfl) rfl rfl hl.1 rfl (lv_room (Nat.le_of_ble_eq_true rfl)) dX11_product_5 ⟨Nat.le_of_ble_eq_true rfl, Nat.le_of_ble_eq_true rfl⟩) hh hA (fun r_801 H locs hw_801 hh => ?_)
  rcases Decidable.em (rdI (en 70) 7 = 1 ∧ 0 ≤ k.toInt ∧ k.toInt < (rdI (en 70) 9).toInt) with hp_801 | hp_801
  · obtain rfl : r_801 = 1 := Eq.trans hw_801 (if_pos hp_801)
    obtain ⟨ka_801, kb_801, kc_801, S_801, hKK_801, hPC_801, hcs_801, hcl_801, hsu_801⟩ := QX_found hQ hp_801.1
    have hcte_801 := hcl_801.2.2.1
    have hSl_801 := hcl_801.2.2.2.1.1
    obtain ⟨K_801, rfl, hK_801⟩ := has_nat (c := S_801.length) ⟨hp_801.2.1, by have h9 := hp_801.2.2; rw [hcte_801, nI_toInt (by omega)] at h9; exact h9⟩
    refine lv_if_eq (tgt := 23) hx hb dX11_product_8 (by decide) (fun c_0 => absurd c_0 (by decide)) (fun _ => ?_)
    refine lv_aload_n hx hb dX11_product_11 rfl (lv_at hl 0 rfl) ?_
    refine hp_get hx hb hts ix11 hown hK hh (q := 0) rfl (hI.1 _ (by decide)) es798 rfl 0 (by decide) (hts _ tw_245) (fun _ h9 => h9) rfl dX11_product_12 ?_
    refine lv_iload_n hx hb dX11_product_15 rfl (lv_at hl 2 rfl) ?_
    refine lv_iload_n hx hb dX11_product_16 rfl (lv_at hl 3 rfl) ?_
    refine hp_callRi (va_runV (As := [.int a, .int b]) (rest := []) ⟨hx, hb, hml, hown, hts⟩ (c_X8_isPlace l D cy _ cs ad en (hI.1 _ (by decide)) cnt d mm hcnt hd2 hd3 hmm a b es799) (kw_X8_isPlace hts tw_416 ⟨by decide, by decide⟩) (preV_of hh hK (hI.1 _ (by decide)) es799 rfl) rfl rfl hl.1 rfl (lv_room (Nat.le_of_ble_eq_true rfl)) dX11_product_17 ⟨Nat.le_of_ble_eq_true rfl, Nat.le_of_ble_eq_true rfl⟩) hh hA (fun r_802 H locs hw_802 hh => ?_)
    rcases Decidable.em ((0 ≤ a.toInt ∧ a.toInt < (d : Int)) ∧ 0 ≤ b.toInt ∧ b.toInt < (d : Int)) with hp_802 | hp_802
    · obtain rfl : r_802 = 1 := Eq.trans hw_802 (if_pos hp_802)
      obtain ⟨A_802, rfl, hA_802⟩ := has_nat hp_802.1
      obtain ⟨B_802, rfl, hB_802⟩ := has_nat hp_802.2
      refine lv_if_ne (tgt := 27) hx hb dX11_product_20 (by decide) (fun _ => ?_) (fun c_0 => absurd c_0 (by decide))
      refine lv_aload_n hx hb dX11_product_27 rfl (lv_at hl 0 rfl) ?_
      refine hp_get hx hb hts ix11 hown hK hh (q := 0) rfl (hI.1 _ (by decide)) es798 rfl 2 (by decide) (hts _ tw_247) (fun _ h9 => h9) rfl dX11_product_28 ?_
      refine lv_iload_n hx hb dX11_product_31 rfl (lv_at hl 1 rfl) ?_
      refine lv_aload_n hx hb dX11_product_32 rfl (lv_at hl 0 rfl) ?_
      refine hp_get hx hb hts ix11 hown hK hh (q := 0) rfl (hI.1 _ (by decide)) es798 rfl 0 (by decide) (hts _ tw_245) (fun _ h9 => h9) rfl dX11_product_33 ?_
      refine lv_iload_n hx hb dX11_product_36 rfl (lv_at hl 2 rfl) ?_
      refine lv_iload_n hx hb dX11_product_37 rfl (lv_at hl 3 rfl) ?_
      refine hp_callRi (va_runV (As := [.int (nI A_802), .int (nI B_802)]) (rest := [.int (nI K_801), .ref (ad 70)]) ⟨hx, hb, hml, hown, hts⟩ (c_X8_cellOf l D cy _ cs ad en (hI.1 _ (by decide)) cnt d mm hcnt hd2 hd3 hmm A_802 B_802 es799) (kw_X8_cellOf hts tw_425 ⟨by decide, by decide⟩) (preV_of hh hK (hI.1 _ (by decide)) es799 rfl) rfl rfl hl.1 rfl (lv_room (Nat.le_of_ble_eq_true rfl)) dX11_product_38 ⟨Nat.le_of_ble_eq_true rfl, Nat.le_of_ble_eq_true rfl⟩) hh hA (fun r_803 H locs hw_803 hh => ?_)
      obtain rfl : r_803 = nI (A_802 * d + B_802) := hw_803
      have hi_804 : (A_802 * d + B_802) < 9 := md3 (by omega) (by omega) hd3
      refine hp_callRl (va_runV (As := [.int (nI K_801), .int (nI (A_802 * d + B_802))]) (rest := []) ⟨hx, hb, hml, hown, hts⟩ (c_X0_entryAt l D cy _ cs ad en (ka := ka_801) (kb := kb_801) (kc := kc_801) ⟨hI, hKK_801, hPC_801⟩ K_801 (A_802 * d + B_802) (by omega) (by omega)) (kw_X0_entryAt hts tw_661 ⟨by decide, by decide⟩) (preV_of hh hK (hI.1 _ (by decide)) es800 rfl) rfl rfl hl.1 rfl (lv_room (Nat.le_of_ble_eq_true rfl)) dX11_product_41 ⟨Nat.le_of_ble_eq_true rfl, Nat.le_of_ble_eq_true rfl⟩) hh hA (fun r_805 H locs hw_805 hh => ?_)
      have hd9 : dC en = d := by unfold dC; rw [show rdI (en 1) 5 = nI d from by rw [es799]; rfl]; exact nI_clamp (by omega)
      exact hp_lretR hx hb hr hlocks hsz hh (XPD_v hp_801.1 hcs_801 hcl_801 (by omega) (by omega) (by omega) (by omega) (by rw [hd9]; exact hw_805)) dX11_product_44
    · obtain rfl : r_802 = 0 := Eq.trans hw_802 (if_neg hp_802)
      refine lv_if_ne (tgt := 27) hx hb dX11_product_20 (by decide) (fun c_0 => absurd c_0 (by decide)) (fun _ => ?_)
      refine lv_ldc2 hx hb hown (hts _ tw_420) dX11_product_23 ?_
      have hd9 : dC en = d := by unfold dC; rw [show rdI (en 1) 5 = nI d from by rw [es799]; rfl]; exact nI_clamp (by omega)
      exact hp_lretR hx hb hr hlocks hsz hh (XPD_q hp_801.1 hcs_801 (by rw [hd9]; exact hp_802)) dX11_product_26
  · obtain rfl : r_801 = 0 := Eq.trans hw_801 (if_neg hp_801)
    refine lv_if_eq (tgt := 23) hx hb dX11_product_8 (by decide) (fun _ => ?_) (fun c_0 => absurd c_0 (by decide))
    refine lv_ldc2 hx hb hown (hts _ tw_420) dX11_product_23 ?_
    exact hp_lretR hx hb hr hlocks hsz hh (XPD_n hQ hp_801) dX11_product_26
theorem kw_X11_product {R : Room} {s : State} {args : Array Value} {own : String} {idx : Nat} (hts : ∀ w ∈ TB, w.before args s = true) (hl : Cond.methodLink own idx yX11_product ∈ TB) (hR : 2 + 1 ≤ R.frames ∧ 8 + (4 + 11) + 40 * 2 ≤ R.locals) : CallW R s args own RX11 idx yX11_product cX11_product 4 (some .long) (Cond.code yX11_product cX11_product 4 (some .long) :: TB) (rmN 2) 0 0 3 := cwV 3 hts (TB_V hl tw_653 tw_654 tw_1 tw_655) rfl rfl rfl (by decide +kernel) hR
set_option maxHeartbeats 4000000 in
set_option maxRecDepth 100000 in
/-- times -/
theorem c_X11_times (l : Launch) (D : va_G) (cy : Nat → ClassId) (sz : Nat) (cs : List Nat) (ad : Nat → Nat) (en : Nat → va_E) (hI : SX cy cs ad en) (k j : Int32) (hQ : QX cy cs ad en)   : Met l yX11_times (Cond.code yX11_times cX11_times 3 (some .int) :: TB) (rmN 4) (va_Pc [.ref (ad 0), .int k, .int j] (Pre D cy cs ad en sz)) (va_Qi (S := Nat → va_E) (fun r en1 => SX cy cs ad en1 ∧ (∀ c, (c < 71 ∨ 74 ≤ c) → en1 c = en c) ∧ XTM k j r en) (PostM D cs ad) (Af cs ad sz)) 0 0 (Af cs ad sz) := by
  refine Met.ofW (cc := cX11_times) (maxL := 3) (ret := (some .int)) (by decide) rfl ?_
  intro p e s m args below meth c s₁ B hml hv
  obtain ⟨rfl, hsz, hP, hK, hD0⟩ := hv
  have hx := B.exec
  have hb := B.bytes
  have hr := B.returns
  have hts : ∀ w ∈ TB, w.before _ s = true := fun w h => atoms_spec (ws := _ :: TB) B.pre w (List.mem_cons_of_mem _ h)
  have hown : s.vm.findClass RX11 = some m.cls := findClass_of_methodNamed B.named
  have hlocks := B.notSynchronized
  have hh : Hp D (Af cs ad sz) (Af cs ad sz) s.heap s.heap [] cs ad en := ⟨hP, Af_self hD0, va_S.rf⟩
  have hA : ∀ q : Nat, s.heap.size ≤ q → Af cs ad sz q := fun q h => Or.inr (by rw [hsz] at h; exact h)
  have hl := lv_entry ([.ref (ad 0), .int k, .int j]) (n := 3) (Nat.le_of_ble_eq_true rfl)
  rw [lg_entry_eq]
  generalize (lg_sl ([.ref (ad 0), .int k, .int j]) ++ List.replicate (3 - (lg_sl ([.ref (ad 0), .int k, .int j])).length) Slot.unset).toArray = ls at hl ⊢
  have hl : lv_has ls 3 [(0, .ref (ad 0)), (1, .int k), (2, .int j)] := hl
  have hf0 : ∀ c, (c < 71 ∨ 74 ≤ c) → en c = en c := fun _ _ => rfl
  obtain ⟨wc_806, lf_806, es806, p0_806⟩ := get_A hI
  obtain ⟨cnt, d, mm, es807, hcnt, hd2, hd3, hmm⟩ := get_T hI
  refine lv_aload_n hx hb dX11_times_0 rfl (lv_at hl 0 rfl) ?_
  refine hp_get hx hb hts ix11 hown hK hh (q := 0) rfl (hI.1 _ (by decide)) es806 rfl 2 (by decide) (hts _ tw_247) (fun _ h9 => h9) rfl dX11_times_1 ?_
  refine lv_iload_n hx hb dX11_times_4 rfl (lv_at hl 1 rfl) ?_
  obtain ⟨ea_808, eb_808, ec_808, st0_808, cc0_808, ct0_808, un0_808, ow0_808, hn0_808, es808⟩ := get_C hI
  refine hp_callRi (va_runV (As := [.int k]) (rest := []) ⟨hx, hb, hml, hown, hts⟩ (c_X0_has l D cy _ cs ad en hI k ) (kw_X0_has hts tw_656 ⟨by decide, by decide⟩) (preV_of hh hK (hI.1 _ (by decide)) es808 rfl) rfl rfl hl.1 rfl (lv_room (Nat.le_of_ble_eq_true rfl)) dX11_times_5 ⟨Nat.le_of_ble_eq_true rfl, Nat.le_of_ble_eq_true rfl⟩) hh hA (fun r_809 H locs hw_809 hh => ?_)
  rcases Decidable.em (rdI (en 70) 7 = 1 ∧ 0 ≤ k.toInt ∧ k.toInt < (rdI (en 70) 9).toInt) with hp_809 | hp_809
  · obtain rfl : r_809 = 1 := Eq.trans hw_809 (if_pos hp_809)
    obtain ⟨ka_809, kb_809, kc_809, S_809, hKK_809, hPC_809, hcs_809, hcl_809, hsu_809⟩ := QX_found hQ hp_809.1
    have hcte_809 := hcl_809.2.2.1
    have hSl_809 := hcl_809.2.2.2.1.1
    obtain ⟨K_809, rfl, hK_809⟩ := has_nat (c := S_809.length) ⟨hp_809.2.1, by have h9 := hp_809.2.2; rw [hcte_809, nI_toInt (by omega)] at h9; exact h9⟩
    refine lv_if_eq (tgt := 22) hx hb dX11_times_8 (by decide) (fun c_0 => absurd c_0 (by decide)) (fun _ => ?_)
    refine lv_aload_n hx hb dX11_times_11 rfl (lv_at hl 0 rfl) ?_
    refine hp_get hx hb hts ix11 hown hK hh (q := 0) rfl (hI.1 _ (by decide)) es806 rfl 2 (by decide) (hts _ tw_247) (fun _ h9 => h9) rfl dX11_times_12 ?_
    refine lv_iload_n hx hb dX11_times_15 rfl (lv_at hl 2 rfl) ?_
    refine hp_callRi (va_runV (As := [.int j]) (rest := []) ⟨hx, hb, hml, hown, hts⟩ (c_X0_has l D cy _ cs ad en hI j ) (kw_X0_has hts tw_656 ⟨by decide, by decide⟩) (preV_of hh hK (hI.1 _ (by decide)) es808 rfl) rfl rfl hl.1 rfl (lv_room (Nat.le_of_ble_eq_true rfl)) dX11_times_16 ⟨Nat.le_of_ble_eq_true rfl, Nat.le_of_ble_eq_true rfl⟩) hh hA (fun r_810 H locs hw_810 hh => ?_)
    rcases Decidable.em (rdI (en 70) 7 = 1 ∧ 0 ≤ j.toInt ∧ j.toInt < (rdI (en 70) 9).toInt) with hp_810 | hp_810
    · obtain rfl : r_810 = 1 := Eq.trans hw_810 (if_pos hp_810)
      obtain ⟨K_810, rfl, hK_810⟩ := has_nat (c := S_809.length) ⟨hp_810.2.1, by have h9 := hp_810.2.2; rw [hcte_809, nI_toInt (by omega)] at h9; exact h9⟩
      refine lv_if_ne (tgt := 24) hx hb dX11_times_19 (by decide) (fun _ => ?_) (fun c_0 => absurd c_0 (by decide))
      refine lv_aload_n hx hb dX11_times_24 rfl (lv_at hl 0 rfl) ?_
      refine hp_get hx hb hts ix11 hown hK hh (q := 0) rfl (hI.1 _ (by decide)) es806 rfl 2 (by decide) (hts _ tw_247) (fun _ h9 => h9) rfl dX11_times_25 ?_
      obtain ⟨x_1, hgx_1⟩ := ge_some (S := S_809) (k := K_809) (by omega)
      obtain ⟨x_2, hgx_2⟩ := ge_some (S := S_809) (k := K_810) (by omega)
      refine lv_iload_n hx hb dX11_times_28 rfl (lv_at hl 1 rfl) ?_
      refine lv_iload_n hx hb dX11_times_29 rfl (lv_at hl 2 rfl) ?_
      refine hp_callMi (va_runV (As := [.int (nI K_809), .int (nI K_810)]) (rest := []) ⟨hx, hb, hml, hown, hts⟩ (c_X0_numberOfProduct l D cy _ cs ad en (ka := ka_809) (kb := kb_809) (kc := kc_809) ⟨hI, hKK_809, hPC_809⟩ K_809 K_810 (by omega) (by omega) _ S_809 hcl_809 rfl x_1 x_2 hgx_1 hgx_2) (kw_X0_numberOfProduct hts tw_669 ⟨by decide, by decide⟩) (preV_of hh hK (hI.1 _ (by decide)) es808 rfl) rfl rfl hl.1 rfl (lv_room (Nat.le_of_ble_eq_true rfl)) dX11_times_30 ⟨Nat.le_of_ble_eq_true rfl, Nat.le_of_ble_eq_true rfl⟩) hh hA (fun r_811 H locs en_811 hw_811 hh => ?_)
      obtain ⟨hS_811, hu_811, hx_811⟩ := hw_811
      have hI_811 := hS_811.1
      have hf_811 : ∀ c, (c < 71 ∨ 74 ≤ c) → en_811 c = en c := fun c hc => (hu_811 c (by omega)).trans (hf0 c hc)
      exact hp_iretM hx hb hr rfl hlocks hh (⟨hI_811, hf_811, XTM_v hp_809.1 hcs_809 hSl_809 hgx_1 hgx_2 hx_811⟩) dX11_times_33
    · obtain rfl : r_810 = 0 := Eq.trans hw_810 (if_neg hp_810)
      refine lv_if_ne (tgt := 24) hx hb dX11_times_19 (by decide) (fun c_0 => absurd c_0 (by decide)) (fun _ => ?_)
      refine lv_iconst (v := (-1)) hx hb dX11_times_22 (by decide) ?_
      exact hp_iretM hx hb hr rfl hlocks hh (⟨hI, hf0, XTM_q hQ hp_810⟩) dX11_times_23
  · obtain rfl : r_809 = 0 := Eq.trans hw_809 (if_neg hp_809)
    refine lv_if_eq (tgt := 22) hx hb dX11_times_8 (by decide) (fun _ => ?_) (fun c_0 => absurd c_0 (by decide))
    refine lv_iconst (v := (-1)) hx hb dX11_times_22 (by decide) ?_
    exact hp_iretM hx hb hr rfl hlocks hh (⟨hI, hf0, XTM_n hQ hp_809⟩) dX11_times_23
theorem kw_X11_times {R : Room} {s : State} {args : Array Value} {own : String} {idx : Nat} (hts : ∀ w ∈ TB, w.before args s = true) (hl : Cond.methodLink own idx yX11_times ∈ TB) (hR : 4 + 1 ≤ R.frames ∧ 8 + (3 + 11) + 40 * 4 ≤ R.locals) : CallW R s args own RX11 idx yX11_times cX11_times 3 (some .int) (Cond.code yX11_times cX11_times 3 (some .int) :: TB) (rmN 4) 0 0 2 := cwV 2 hts (TB_V hl tw_666 tw_667 tw_1 tw_668) rfl rfl rfl (by decide +kernel) hR
