set_option maxHeartbeats 4000000 in
set_option maxRecDepth 100000 in
/-- sheet -/
theorem c_X12_sheet (l : Launch) (D : va_G) (cy : Nat → ClassId) (sz : Nat) (cs : List Nat) (ad : Nat → Nat) (en : Nat → va_E) (hI : RX cy cs ad en) (k9 la9 n9 : Int32)   : Met l yX12_sheet (Cond.code yX12_sheet cX12_sheet 5 (some .int) :: TB) (rmN 1) (va_Pc [.ref (ad 0), .int k9, .int la9, .int n9] (Pre D cy cs ad en sz)) (va_Qi (S := Nat → va_E) (fun r en1 => RX cy cs ad en1 ∧ (∀ c, (c ≠ 0 ∧ c ≠ 3 ∧ c ≠ 4 ∧ c ≠ 5) → en1 c = en c) ∧ RSH k9 la9 n9 r en en1 ∧ KP en en1) (PostM D cs ad) (Af cs ad sz)) 0 0 (Af cs ad sz) := by
  refine Met.ofW (cc := cX12_sheet) (maxL := 5) (ret := (some .int)) (by decide) rfl ?_
  intro p e s m args below meth c s₁ B hml hv
  obtain ⟨rfl, hsz, hP, hK, hD0⟩ := hv
  have hx := B.exec
  have hb := B.bytes
  have hr := B.returns
  have hts : ∀ w ∈ TB, w.before _ s = true := fun w h => atoms_spec (ws := _ :: TB) B.pre w (List.mem_cons_of_mem _ h)
  have hown : s.vm.findClass RX12 = some m.cls := findClass_of_methodNamed B.named
  have hlocks := B.notSynchronized
  have hh : Hp D (Af cs ad sz) (Af cs ad sz) s.heap s.heap [] cs ad en := ⟨hP, Af_self hD0, va_S.rf⟩
  have hA : ∀ q : Nat, s.heap.size ≤ q → Af cs ad sz q := fun q h => Or.inr (by rw [hsz] at h; exact h)
  have hl := lv_entry ([.ref (ad 0), .int k9, .int la9, .int n9]) (n := 5) (Nat.le_of_ble_eq_true rfl)
  rw [lg_entry_eq]
  generalize (lg_sl ([.ref (ad 0), .int k9, .int la9, .int n9]) ++ List.replicate (5 - (lg_sl ([.ref (ad 0), .int k9, .int la9, .int n9])).length) Slot.unset).toArray = ls at hl ⊢
  have hl : lv_has ls 5 [(0, .ref (ad 0)), (1, .int k9), (2, .int la9), (3, .int n9)] := hl
  have hf0 : ∀ c, (c ≠ 0 ∧ c ≠ 3 ∧ c ≠ 4 ∧ c ≠ 5) → en c = en c := fun _ _ => rfl
  obtain ⟨fa, hi, wd, mo, tb, dp, many, grt, lst, nou, rm, rb, pr, wo, es1104, hwd2, hwd3, hmo, htb, hwo⟩ := getr_M hI
  obtain ⟨f_1105, es1105⟩ := getr_la hI
  obtain ⟨f_1106, es1106, p0_1106⟩ := getr_sl hI
  obtain ⟨f_1107, es1107⟩ := getr_ce hI
  refine lv_aload_n hx hb dX12_sheet_0 rfl (lv_at hl 0 rfl) ?_
  refine lv_iconst (v := 0) hx hb dX12_sheet_1 (by decide) ?_
  refine hp_put hx hb hts ix12 tyX12 tyX12_ok nmX12 hown hK hh (q := 0) rfl (hI.1 _ (by decide)) es1104 rfl 0 (by decide) (hts _ tw_879) (fun _ h9 => h9) rfl (ty := .int) (by decide +kernel) rfl rfl (Nat.le_of_ble_eq_true rfl) dX12_sheet_2 (fun H locs en_1108 hen_1108 hh => ?_)
  have es1105_1108 : en_1108 3 = .inl (cy 0, 4, .inl f_1105) := by rw [hen_1108, va_up_ne _ _ (by decide)]; exact es1105
  have es1106_1108 : en_1108 4 = .inl (cy 0, 4, .inl f_1106) := by rw [hen_1108, va_up_ne _ _ (by decide)]; exact es1106
  have es1107_1108 : en_1108 5 = .inl (cy 0, 160, .inl f_1107) := by rw [hen_1108, va_up_ne _ _ (by decide)]; exact es1107
  have es1104_1108 : en_1108 0 = .inr (11, [.int 0, .int hi, .int (nI wd), .int (nI mo), .int (nI tb), .ref (ad 1), .ref (ad 2), .ref (ad 3), .ref (ad 4), .ref (ad 5), .ref (ad 6), .ref (ad 7), .ref (ad 8), .ref (ad 9), .int dp, .long many, .long grt, .long lst, .long nou, .ref (ad 10), .ref (ad 11), .ref (ad 12), .int rm, .long rb, .ref (ad 13), .int pr, .ref (ad 14), .ref (ad 15), .ref (ad 16), .ref (ad 17), .int (nI wo), .ref (ad 18), .ref (ad 19)]) := by rw [hen_1108]; exact va_up_self _ _ _
  have hI_1108 : RX cy cs ad en_1108 := by rw [hen_1108]; exact upr_M hI ⟨0, hi, wd, mo, tb, dp, many, grt, lst, nou, rm, rb, pr, wo, rfl, hwd2, hwd3, hmo, htb, hwo⟩
  have hf_1108 : ∀ c, (c ≠ 0 ∧ c ≠ 3 ∧ c ≠ 4 ∧ c ≠ 5) → en_1108 c = en c := fun c hc => Eq.trans (show en_1108 c = en c from by rw [hen_1108, va_up_ne _ _ (by omega)]) (hf0 c hc)
  have hkc3_1108 : en_1108 3 = en 3 := (show en_1108 3 = en 3 from by rw [hen_1108, va_up_ne _ _ (by decide)]).trans rfl
  have hkc4_1108 : en_1108 4 = en 4 := (show en_1108 4 = en 4 from by rw [hen_1108, va_up_ne _ _ (by decide)]).trans rfl
  have hkc5_1108 : en_1108 5 = en 5 := (show en_1108 5 = en 5 from by rw [hen_1108, va_up_ne _ _ (by decide)]).trans rfl
  have hkp_1108 : KP en en_1108 := KP_fv (KP_rf en) es1104 es1104_1108 hi (nI wd) (nI mo) (nI tb) pr (nI wo) rfl rfl rfl rfl rfl rfl rfl rfl rfl rfl rfl rfl
  refine lv_iload_n hx hb dX12_sheet_5 rfl (lv_at hl 1 rfl) ?_
  refine lv_i2l hx hb dX12_sheet_6 rfl ?_
  refine lv_lconst (v := 0) hx hb dX12_sheet_7 (by decide) ?_
  refine lv_ldc2 hx hb hown (hts _ tw_984) dX12_sheet_8 ?_
  refine hp_callRi (va_runS (As := [.long k9.toInt64, .long 0, .long 3]) (rest := []) ⟨hx, hb, hml, hown, hts⟩ (c_X12_within l D cy _ cs ad en_1108 k9.toInt64 0 3) (kw_X12_within hts tw_985 ⟨by decide, by decide⟩) (preS_of hh hK) rfl rfl hl.1 rfl (lv_room (Nat.le_of_ble_eq_true rfl)) dX12_sheet_11 ⟨Nat.le_of_ble_eq_true rfl, Nat.le_of_ble_eq_true rfl⟩) hh hA (fun r_1109 H locs hw_1109 hh => ?_)
  rcases Decidable.em (wi k9 0 3) with hp_1109 | hp_1109
  · obtain rfl : r_1109 = 1 := Eq.trans hw_1109 (if_pos ((wj_32 (by decide) (by decide)).mpr hp_1109))
    obtain ⟨N_1109, rfl, hA_1109, hB_1109⟩ := wi_natB hp_1109 0 3 (by decide) (by decide)
    refine lv_if_ne (tgt := 19) hx hb dX12_sheet_14 (by decide) (fun _ => ?_) (fun c_0 => absurd c_0 (by decide))
    refine lv_iload_n hx hb dX12_sheet_19 rfl (lv_at hl 2 rfl) ?_
    refine lv_i2l hx hb dX12_sheet_20 rfl ?_
    refine lv_lconst (v := 0) hx hb dX12_sheet_21 (by decide) ?_
    refine lv_ldc2 hx hb hown (hts _ tw_983) dX12_sheet_22 ?_
    refine hp_callRi (va_runS (As := [.long la9.toInt64, .long 0, .long 2]) (rest := []) ⟨hx, hb, hml, hown, hts⟩ (c_X12_within l D cy _ cs ad en_1108 la9.toInt64 0 2) (kw_X12_within hts tw_985 ⟨by decide, by decide⟩) (preS_of hh hK) rfl rfl hl.1 rfl (lv_room (Nat.le_of_ble_eq_true rfl)) dX12_sheet_25 ⟨Nat.le_of_ble_eq_true rfl, Nat.le_of_ble_eq_true rfl⟩) hh hA (fun r_1110 H locs hw_1110 hh => ?_)
    rcases Decidable.em (wi la9 0 2) with hp_1110 | hp_1110
    · obtain rfl : r_1110 = 1 := Eq.trans hw_1110 (if_pos ((wj_32 (by decide) (by decide)).mpr hp_1110))
      obtain ⟨N_1110, rfl, hA_1110, hB_1110⟩ := wi_natB hp_1110 0 2 (by decide) (by decide)
      refine lv_if_eq (tgt := 37) hx hb dX12_sheet_28 (by decide) (fun c_0 => absurd c_0 (by decide)) (fun _ => ?_)
      refine lv_iload_n hx hb dX12_sheet_31 rfl (lv_at hl 3 rfl) ?_
      refine lv_bipush (v := 40) hx hb dX12_sheet_32 (by decide) ?_
      refine lv_icmp_le (tgt := 40) hx hb dX12_sheet_34 (by decide) (fun c_1111 => ?_) (fun c_1111 => ?_)
      · refine lv_iload_n hx hb dX12_sheet_40 rfl (lv_at hl 3 rfl) ?_
        refine lv_if_ge (tgt := 50) hx hb dX12_sheet_41 (by decide) (fun c_1112 => ?_) (fun c_1112 => ?_)
        · obtain ⟨N9, hN9, rfl⟩ := nat_of (Int32.not_lt.mpr c_1112)
          have hN40 : N9 ≤ 40 := n_le (a := N9) (b := 40) c_1111 hN9 (by decide)
          refine lv_aload_n hx hb dX12_sheet_50 rfl (lv_at hl 0 rfl) ?_
          refine hp_get hx hb hts ix12 hown hK hh (q := 0) rfl (hI.1 _ (by decide)) es1104_1108 rfl 7 (by decide) (hts _ tw_886) (fun _ h9 => h9) rfl dX12_sheet_51 ?_
          refine lv_iload_n hx hb dX12_sheet_54 rfl (lv_at hl 1 rfl) ?_
          refine lv_iload_n hx hb dX12_sheet_55 rfl (lv_at hl 2 rfl) ?_
          refine hp_iast hx hb hK hh (q := 3) rfl (hI.1 _ (by decide)) es1105_1108 (vp_in_nI (n := N_1109) (by omega) (by decide)) dX12_sheet_56 (fun H locs en_1113 hen_1113 hh => ?_)
          rw [nI_clamp (n := N_1109) (by omega)] at hen_1113
          have es1106_1113 : en_1113 4 = .inl (cy 0, 4, .inl f_1106) := by rw [hen_1113, va_up_ne _ _ (by decide)]; exact es1106_1108
          have es1107_1113 : en_1113 5 = .inl (cy 0, 160, .inl f_1107) := by rw [hen_1113, va_up_ne _ _ (by decide)]; exact es1107_1108
          have es1104_1113 : en_1113 0 = .inr (11, [.int 0, .int hi, .int (nI wd), .int (nI mo), .int (nI tb), .ref (ad 1), .ref (ad 2), .ref (ad 3), .ref (ad 4), .ref (ad 5), .ref (ad 6), .ref (ad 7), .ref (ad 8), .ref (ad 9), .int dp, .long many, .long grt, .long lst, .long nou, .ref (ad 10), .ref (ad 11), .ref (ad 12), .int rm, .long rb, .ref (ad 13), .int pr, .ref (ad 14), .ref (ad 15), .ref (ad 16), .ref (ad 17), .int (nI wo), .ref (ad 18), .ref (ad 19)]) := by rw [hen_1113, va_up_ne _ _ (by decide)]; exact es1104_1108
          have es1105_1113 : en_1113 3 = .inl (cy 0, 4, .inl (upd f_1105 N_1109 (nI N_1110))) := by rw [hen_1113]; exact va_up_self _ _ _
          have hI_1113 : RX cy cs ad en_1113 := by rw [hen_1113]; exact upr_la hI_1108 ⟨(upd f_1105 N_1109 (nI N_1110)), rfl⟩
          have hf_1113 : ∀ c, (c ≠ 0 ∧ c ≠ 3 ∧ c ≠ 4 ∧ c ≠ 5) → en_1113 c = en c := fun c hc => Eq.trans (show en_1113 c = en_1108 c from by rw [hen_1113, va_up_ne _ _ (by omega)]) (hf_1108 c hc)
          have hkc4_1113 : en_1113 4 = en 4 := (show en_1113 4 = en_1108 4 from by rw [hen_1113, va_up_ne _ _ (by decide)]).trans hkc4_1108
          have hkc5_1113 : en_1113 5 = en 5 := (show en_1113 5 = en_1108 5 from by rw [hen_1113, va_up_ne _ _ (by decide)]).trans hkc5_1108
          have hkp_1113 : KP en en_1113 := KP_same hkp_1108 (show en_1113 0 = en_1108 0 from by rw [hen_1113, va_up_ne _ _ (by decide)])
          refine lv_aload_n hx hb dX12_sheet_57 rfl (lv_at hl 0 rfl) ?_
          refine hp_get hx hb hts ix12 hown hK hh (q := 0) rfl (hI.1 _ (by decide)) es1104_1113 rfl 8 (by decide) (hts _ tw_887) (fun _ h9 => h9) rfl dX12_sheet_58 ?_
          refine lv_iload_n hx hb dX12_sheet_61 rfl (lv_at hl 1 rfl) ?_
          refine lv_iload_n hx hb dX12_sheet_62 rfl (lv_at hl 3 rfl) ?_
          refine hp_iast hx hb hK hh (q := 4) rfl (hI.1 _ (by decide)) es1106_1113 (vp_in_nI (n := N_1109) (by omega) (by decide)) dX12_sheet_63 (fun H locs en_1114 hen_1114 hh => ?_)
          rw [nI_clamp (n := N_1109) (by omega)] at hen_1114
          have es1107_1114 : en_1114 5 = .inl (cy 0, 160, .inl f_1107) := by rw [hen_1114, va_up_ne _ _ (by decide)]; exact es1107_1113
          have es1104_1114 : en_1114 0 = .inr (11, [.int 0, .int hi, .int (nI wd), .int (nI mo), .int (nI tb), .ref (ad 1), .ref (ad 2), .ref (ad 3), .ref (ad 4), .ref (ad 5), .ref (ad 6), .ref (ad 7), .ref (ad 8), .ref (ad 9), .int dp, .long many, .long grt, .long lst, .long nou, .ref (ad 10), .ref (ad 11), .ref (ad 12), .int rm, .long rb, .ref (ad 13), .int pr, .ref (ad 14), .ref (ad 15), .ref (ad 16), .ref (ad 17), .int (nI wo), .ref (ad 18), .ref (ad 19)]) := by rw [hen_1114, va_up_ne _ _ (by decide)]; exact es1104_1113
          have es1105_1114 : en_1114 3 = .inl (cy 0, 4, .inl (upd f_1105 N_1109 (nI N_1110))) := by rw [hen_1114, va_up_ne _ _ (by decide)]; exact es1105_1113
          have es1106_1114 : en_1114 4 = .inl (cy 0, 4, .inl (upd f_1106 N_1109 (nI N9))) := by rw [hen_1114]; exact va_up_self _ _ _
          have hI_1114 : RX cy cs ad en_1114 := by rw [hen_1114]; exact upr_sl hI_1113 ⟨(upd f_1106 N_1109 (nI N9)), rfl, (vals_updB p0_1106 (by omega))⟩
          have hf_1114 : ∀ c, (c ≠ 0 ∧ c ≠ 3 ∧ c ≠ 4 ∧ c ≠ 5) → en_1114 c = en c := fun c hc => Eq.trans (show en_1114 c = en_1113 c from by rw [hen_1114, va_up_ne _ _ (by omega)]) (hf_1113 c hc)
          have hkc5_1114 : en_1114 5 = en 5 := (show en_1114 5 = en_1113 5 from by rw [hen_1114, va_up_ne _ _ (by decide)]).trans hkc5_1113
          have hkp_1114 : KP en en_1114 := KP_same hkp_1113 (show en_1114 0 = en_1113 0 from by rw [hen_1114, va_up_ne _ _ (by decide)])
          refine lv_iconst (v := 0) hx hb dX12_sheet_64 (by decide) ?_
          refine lv_istore (lv' := [(4, .int 0), (0, .ref (ad 0)), (1, .int (nI N_1109)), (2, .int (nI N_1110)), (3, .int (nI N9))]) hx hb dX12_sheet_65 hl (by decide) rfl (fun ls hl => ?_)
          have loop_1115 : ∀ (fu j1115 : Nat)  (en_1115 : Nat → va_E) (ls : Array Slot) (H : Heap) (locs : List Loc), 0 ≤ j1115 → j1115 ≤ 40 → 40 < j1115 + fu → RX cy cs ad en_1115 → (∀ c, (c ≠ 0 ∧ c ≠ 3 ∧ c ≠ 4 ∧ c ≠ 5) → en_1115 c = en c) → (rdF (en_1115 3) = upd (rdF (en 3)) N_1109 (nI N_1110)) → (rdF (en_1115 4) = upd (rdF (en 4)) N_1109 (nI N9)) → (∀ i, rdF (en_1115 5) i = if 40 * N_1109 ≤ i ∧ i < 40 * N_1109 + j1115 then 0 else rdF (en 5) i) → (KP en en_1115) → lv_has ls 5 [(4, .int (nI j1115)), (0, .ref (ad 0)), (1, .int (nI N_1109)), (2, .int (nI N_1110)), (3, .int (nI N9))] → Hp D (Af cs ad sz) (Af cs ad sz) s.heap H locs cs ad en_1115 → W p l e (headSpec (Cond.code yX12_sheet cX12_sheet 5 (some .int) :: TB) (rmN 1)).room s m ([.ref (ad 0), .int (nI N_1109), .int (nI N_1110), .int (nI N9)] : List Value).toArray below meth c H locs 0 0 (MQ below (va_Qi (S := Nat → va_E) (fun r en1 => RX cy cs ad en1 ∧ (∀ c, (c ≠ 0 ∧ c ≠ 3 ∧ c ≠ 4 ∧ c ≠ 5) → en1 c = en c) ∧ RSH (nI N_1109) (nI N_1110) (nI N9) r en en1 ∧ KP en en1) (PostM D cs ad) (Af cs ad sz)) ([.ref (ad 0), .int (nI N_1109), .int (nI N_1110), .int (nI N9)] : List Value).toArray s 0 0 (Af cs ad sz)) (F0 m 67 ls []) := by
            intro fu
            induction fu with
            | zero => intro j1115  en_1115 ls H locs h0 h1 h2; exact absurd h2 (by omega)
            | succ fu ih_1115 =>
              intro j1115  en_1115 ls H locs hj0_1115 hj_1115 hfu_1115 hI_1115 hf_1115 i0_1115 i1_1115 i2_1115 i3_1115 hl hh
              refine lv_iload hx hb dX12_sheet_67 (lv_at hl 0 rfl) ?_
              refine lv_bipush (v := 40) hx hb dX12_sheet_69 (by decide) ?_
              refine lv_icmp_ge (tgt := 93) hx hb dX12_sheet_71 (by decide) (fun c_1116 => ?_) (fun c_1116 => ?_)
              · have n_1116 : 40 ≤ j1115 := n_le (a := 40) (b := j1115) c_1116 (by decide) (by omega)
                refine lv_iconst (v := 1) hx hb dX12_sheet_93 (by decide) ?_
                have h40 : (40 : Int32).toInt = 40 := by decide
                have h00 : (0 : Int32).toInt = 0 := by decide
                exact hp_iretM hx hb hr rfl hlocks hh (⟨hI_1115, hf_1115, ⟨(by have h8 := i_le c_1111; have h9 := i_le c_1112; unfold spSheet; rw [if_pos hp_1109, if_pos ⟨hp_1110, by omega⟩, if_neg (by omega)]), Or.inr ⟨rfl, N_1109, N9, rfl, rfl, by omega, hN40, i0_1115, i1_1115, by have e9 : j1115 = 40 := (by omega); rw [e9] at i2_1115; exact i2_1115⟩⟩, i3_1115⟩) dX12_sheet_94
              · have n_1116 : j1115 < 40 := n_nle (a := 40) (b := j1115) c_1116 (by decide) (by omega)
                refine lv_aload_n hx hb dX12_sheet_74 rfl (lv_at hl 1 rfl) ?_
                obtain ⟨fa_1117, hi_1117, wd_1117, mo_1117, tb_1117, dp_1117, many_1117, grt_1117, lst_1117, nou_1117, rm_1117, rb_1117, pr_1117, wo_1117, es1117, p0_1117, p1_1117, p2_1117, p3_1117, p4_1117⟩ := getr_M hI_1115
                have hq2_1118 : wd_1117 = wd := n_eq ((show nI wd_1117 = rdI (en_1115 0) 2 from by rw [es1117]; rfl).trans (i3_1115.2.1.trans (show rdI (en 0) 2 = nI wd from by rw [es1104]; rfl))) (by omega) (by omega)
                have hq3_1118 : mo_1117 = mo := n_eq ((show nI mo_1117 = rdI (en_1115 0) 3 from by rw [es1117]; rfl).trans (i3_1115.2.2.1.trans (show rdI (en 0) 3 = nI mo from by rw [es1104]; rfl))) (by omega) (by omega)
                have hq4_1118 : tb_1117 = tb := n_eq ((show nI tb_1117 = rdI (en_1115 0) 4 from by rw [es1117]; rfl).trans (i3_1115.2.2.2.1.trans (show rdI (en 0) 4 = nI tb from by rw [es1104]; rfl))) (by omega) (by omega)
                have hq30_1118 : wo_1117 = wo := n_eq ((show nI wo_1117 = rdI (en_1115 0) 30 from by rw [es1117]; rfl).trans (i3_1115.2.2.2.2.2.trans (show rdI (en 0) 30 = nI wo from by rw [es1104]; rfl))) (by omega) (by omega)
                rw [hq2_1118, hq3_1118, hq4_1118, hq30_1118] at es1117
                refine hp_get hx hb hts ix12 hown hK hh (q := 0) rfl (hI.1 _ (by decide)) es1117 rfl 9 (by decide) (hts _ tw_888) (fun _ h9 => h9) rfl dX12_sheet_75 ?_
                refine lv_bipush (v := 40) hx hb dX12_sheet_78 (by decide) ?_
                refine lv_iload_n hx hb dX12_sheet_80 rfl (lv_at hl 2 rfl) ?_
                refine lv_imul hx hb dX12_sheet_81 ?_
                rw [show (40 : Int32) = nI 40 from rfl, pk_mul 40 N_1109]
                refine lv_iload hx hb dX12_sheet_82 (lv_at hl 0 rfl) ?_
                refine lv_iadd hx hb dX12_sheet_84 ?_
                rw [nI_add (40 * N_1109) j1115]
                refine lv_iconst (v := 0) hx hb dX12_sheet_85 (by decide) ?_
                obtain ⟨f_1119, es1119⟩ := getr_ce hI_1115
                refine hp_iast hx hb hK hh (q := 5) rfl (hI.1 _ (by decide)) es1119 (vp_in_nI (n := ((40 * N_1109) + j1115)) (by omega) (by decide)) dX12_sheet_86 (fun H locs en_1120 hen_1120 hh => ?_)
                rw [nI_clamp (n := ((40 * N_1109) + j1115)) (by omega)] at hen_1120
                have es1117_1120 : en_1120 0 = .inr (11, [.int fa_1117, .int hi_1117, .int (nI wd), .int (nI mo), .int (nI tb), .ref (ad 1), .ref (ad 2), .ref (ad 3), .ref (ad 4), .ref (ad 5), .ref (ad 6), .ref (ad 7), .ref (ad 8), .ref (ad 9), .int dp_1117, .long many_1117, .long grt_1117, .long lst_1117, .long nou_1117, .ref (ad 10), .ref (ad 11), .ref (ad 12), .int rm_1117, .long rb_1117, .ref (ad 13), .int pr_1117, .ref (ad 14), .ref (ad 15), .ref (ad 16), .ref (ad 17), .int (nI wo), .ref (ad 18), .ref (ad 19)]) := by rw [hen_1120, va_up_ne _ _ (by decide)]; exact es1117
                have es1119_1120 : en_1120 5 = .inl (cy 0, 160, .inl (upd f_1119 ((40 * N_1109) + j1115) 0)) := by rw [hen_1120]; exact va_up_self _ _ _
                have hI_1120 : RX cy cs ad en_1120 := by rw [hen_1120]; exact upr_ce hI_1115 ⟨(upd f_1119 ((40 * N_1109) + j1115) 0), rfl⟩
                have hf_1120 : ∀ c, (c ≠ 0 ∧ c ≠ 3 ∧ c ≠ 4 ∧ c ≠ 5) → en_1120 c = en c := fun c hc => Eq.trans (show en_1120 c = en_1115 c from by rw [hen_1120, va_up_ne _ _ (by omega)]) (hf_1115 c hc)
                have hkp_1120 : KP en en_1120 := KP_same i3_1115 (show en_1120 0 = en_1115 0 from by rw [hen_1120, va_up_ne _ _ (by decide)])
                refine lv_iinc (v := (nI (j1115 + 1))) (lv' := [(4, .int (nI (j1115 + 1))), (0, .ref (ad 0)), (1, .int (nI N_1109)), (2, .int (nI N_1110)), (3, .int (nI N9))]) hx hb dX12_sheet_87 hl (k := 0) rfl (nI_1 _) (by decide) rfl (fun ls hl => ?_)
                refine lv_goto (tgt := 67) hx hb dX12_sheet_90 (by decide) ?_
                exact ih_1115 ((j1115 + 1))  en_1120 ls H locs (by omega) (by omega) (by omega) hI_1120 hf_1120 (by rw [hen_1120, va_up_ne _ _ (by decide)]; exact i0_1115) (by rw [hen_1120, va_up_ne _ _ (by decide)]; exact i1_1115) (fun i => by rw [es1119_1120]; exact z_40 (fun i => (show f_1119 i = rdF (en_1115 5) i from by rw [es1119]; rfl).trans (i2_1115 i)) i) (hkp_1120) (lv_sub hl [0, 1, 2, 3, 4] rfl) hh
          exact loop_1115 (40 + 1) 0  en_1114 ls _ _ (Nat.le_refl _) (by omega) (by omega) hI_1114 hf_1114 (by rw [es1105_1114, es1105]; rfl) (by rw [es1106_1114, es1106]; rfl) (fun i => by rw [hkc5_1114, if_neg (by omega)]) (hkp_1114) (lv_sub hl [0, 1, 2, 3, 4] rfl) hh
        · refine lv_aload_n hx hb dX12_sheet_44 rfl (lv_at hl 0 rfl) ?_
          refine lv_iconst (v := 4) hx hb dX12_sheet_45 (by decide) ?_
          refine hp_callMi (va_runV (As := [.int 4]) (rest := []) ⟨hx, hb, hml, hown, hts⟩ (c_X12_fails l D cy _ cs ad en_1108 (hI.1 _ (by decide)) 0 hi wd mo tb dp many grt lst nou rm rb pr wo 4 es1104_1108) (kw_X12_fails hts tw_997 ⟨by decide, by decide⟩) (preV_of hh hK (hI.1 _ (by decide)) es1104_1108 rfl) rfl rfl hl.1 rfl (lv_room (Nat.le_of_ble_eq_true rfl)) dX12_sheet_46 ⟨Nat.le_of_ble_eq_true rfl, Nat.le_of_ble_eq_true rfl⟩) hh hA (fun r_1121 H locs en_1121 hw_1121 hh => ?_)
          obtain ⟨hr_1121, hen_1121⟩ := hw_1121
          have es1105_1121 : en_1121 3 = .inl (cy 0, 4, .inl f_1105) := by rw [hen_1121, va_up_ne _ _ (by decide)]; exact es1105_1108
          have es1106_1121 : en_1121 4 = .inl (cy 0, 4, .inl f_1106) := by rw [hen_1121, va_up_ne _ _ (by decide)]; exact es1106_1108
          have es1107_1121 : en_1121 5 = .inl (cy 0, 160, .inl f_1107) := by rw [hen_1121, va_up_ne _ _ (by decide)]; exact es1107_1108
          have es1104_1121 : en_1121 0 = .inr (11, [.int 4, .int hi, .int (nI wd), .int (nI mo), .int (nI tb), .ref (ad 1), .ref (ad 2), .ref (ad 3), .ref (ad 4), .ref (ad 5), .ref (ad 6), .ref (ad 7), .ref (ad 8), .ref (ad 9), .int dp, .long many, .long grt, .long lst, .long nou, .ref (ad 10), .ref (ad 11), .ref (ad 12), .int rm, .long rb, .ref (ad 13), .int pr, .ref (ad 14), .ref (ad 15), .ref (ad 16), .ref (ad 17), .int (nI wo), .ref (ad 18), .ref (ad 19)]) := by rw [hen_1121]; exact va_up_self _ _ _
          have hI_1121 : RX cy cs ad en_1121 := by rw [hen_1121]; exact upr_M hI_1108 ⟨4, hi, wd, mo, tb, dp, many, grt, lst, nou, rm, rb, pr, wo, rfl, hwd2, hwd3, hmo, htb, hwo⟩
          have hf_1121 : ∀ c, (c ≠ 0 ∧ c ≠ 3 ∧ c ≠ 4 ∧ c ≠ 5) → en_1121 c = en c := fun c hc => Eq.trans (show en_1121 c = en_1108 c from by rw [hen_1121, va_up_ne _ _ (by omega)]) (hf_1108 c hc)
          have hkc3_1121 : en_1121 3 = en 3 := (show en_1121 3 = en_1108 3 from by rw [hen_1121, va_up_ne _ _ (by decide)]).trans hkc3_1108
          have hkc4_1121 : en_1121 4 = en 4 := (show en_1121 4 = en_1108 4 from by rw [hen_1121, va_up_ne _ _ (by decide)]).trans hkc4_1108
          have hkc5_1121 : en_1121 5 = en 5 := (show en_1121 5 = en_1108 5 from by rw [hen_1121, va_up_ne _ _ (by decide)]).trans hkc5_1108
          have hkp_1121 : KP en en_1121 := KP_fv hkp_1108 es1104_1108 es1104_1121 hi (nI wd) (nI mo) (nI tb) pr (nI wo) rfl rfl rfl rfl rfl rfl rfl rfl rfl rfl rfl rfl
          obtain rfl : r_1121 = (-14) := hr_1121.trans (by decide)
          have h40 : (40 : Int32).toInt = 40 := by decide
          have h00 : (0 : Int32).toInt = 0 := by decide
          exact hp_iretM hx hb hr rfl hlocks hh (⟨hI_1121, hf_1121, ⟨(by have h8 := i_le c_1111; have h9 := i_nle c_1112; unfold spSheet; rw [if_pos hp_1109, if_pos ⟨hp_1110, by omega⟩, if_pos (by omega)]), Or.inl ⟨by decide, hkc3_1121, hkc4_1121, hkc5_1121⟩⟩, hkp_1121⟩) dX12_sheet_49
      · refine lv_bipush (v := (-2)) hx hb dX12_sheet_37 (by decide) ?_
        have h40 : (40 : Int32).toInt = 40 := by decide
        have h00 : (0 : Int32).toInt = 0 := by decide
        exact hp_iretM hx hb hr rfl hlocks hh (⟨hI_1108, hf_1108, ⟨(by have h9 := i_nle c_1111; unfold spSheet; rw [if_pos hp_1109, if_neg (fun q => absurd q.2 (by omega))]), Or.inl ⟨by decide, hkc3_1108, hkc4_1108, hkc5_1108⟩⟩, hkp_1108⟩) dX12_sheet_39
    · obtain rfl : r_1110 = 0 := Eq.trans hw_1110 (if_neg (fun q => hp_1110 ((wj_32 (by decide) (by decide)).mp q)))
      refine lv_if_eq (tgt := 37) hx hb dX12_sheet_28 (by decide) (fun _ => ?_) (fun c_0 => absurd c_0 (by decide))
      refine lv_bipush (v := (-2)) hx hb dX12_sheet_37 (by decide) ?_
      have h40 : (40 : Int32).toInt = 40 := by decide
      have h00 : (0 : Int32).toInt = 0 := by decide
      exact hp_iretM hx hb hr rfl hlocks hh (⟨hI_1108, hf_1108, ⟨(by unfold spSheet; rw [if_pos hp_1109, if_neg (fun q => hp_1110 q.1)]), Or.inl ⟨by decide, hkc3_1108, hkc4_1108, hkc5_1108⟩⟩, hkp_1108⟩) dX12_sheet_39
  · obtain rfl : r_1109 = 0 := Eq.trans hw_1109 (if_neg (fun q => hp_1109 ((wj_32 (by decide) (by decide)).mp q)))
    refine lv_if_ne (tgt := 19) hx hb dX12_sheet_14 (by decide) (fun c_0 => absurd c_0 (by decide)) (fun _ => ?_)
    refine lv_iconst (v := (-1)) hx hb dX12_sheet_17 (by decide) ?_
    have h40 : (40 : Int32).toInt = 40 := by decide
    have h00 : (0 : Int32).toInt = 0 := by decide
    exact hp_iretM hx hb hr rfl hlocks hh (⟨hI_1108, hf_1108, ⟨(by unfold spSheet; rw [if_neg hp_1109]), Or.inl ⟨by decide, hkc3_1108, hkc4_1108, hkc5_1108⟩⟩, hkp_1108⟩) dX12_sheet_18
theorem kw_X12_sheet {R : Room} {s : State} {args : Array Value} {own : String} {idx : Nat} (hts : ∀ w ∈ TB, w.before args s = true) (hl : Cond.methodLink own idx yX12_sheet ∈ TB) (hR : 1 + 1 ≤ R.frames ∧ 8 + (5 + 11) + 40 * 1 ≤ R.locals) : CallW R s args own RX12 idx yX12_sheet cX12_sheet 5 (some .int) (Cond.code yX12_sheet cX12_sheet 5 (some .int) :: TB) (rmN 1) 0 0 3 := cwV 3 hts (TB_V hl tw_1200 tw_1201 tw_9 tw_1202) rfl rfl rfl (by decide +kernel) hR
set_option maxHeartbeats 4000000 in
set_option maxRecDepth 100000 in
/-- lose -/
theorem c_X12_lose (l : Launch) (D : va_G) (cy : Nat → ClassId) (sz : Nat) (cs : List Nat) (ad : Nat → Nat) (en : Nat → va_E) (hI : RX cy cs ad en) (k9 : Int32)   : Met l yX12_lose (Cond.code yX12_lose cX12_lose 3 (some .int) :: TB) (rmN 1) (va_Pc [.ref (ad 0), .int k9] (Pre D cy cs ad en sz)) (va_Qi (S := Nat → va_E) (fun r en1 => RX cy cs ad en1 ∧ (∀ c, (c ≠ 3) → en1 c = en c) ∧ RLO k9 r en en1) (PostM D cs ad) (Af cs ad sz)) 0 0 (Af cs ad sz) := by
  refine Met.ofW (cc := cX12_lose) (maxL := 3) (ret := (some .int)) (by decide) rfl ?_
  intro p e s m args below meth c s₁ B hml hv
  obtain ⟨rfl, hsz, hP, hK, hD0⟩ := hv
  have hx := B.exec
  have hb := B.bytes
  have hr := B.returns
  have hts : ∀ w ∈ TB, w.before _ s = true := fun w h => atoms_spec (ws := _ :: TB) B.pre w (List.mem_cons_of_mem _ h)
  have hown : s.vm.findClass RX12 = some m.cls := findClass_of_methodNamed B.named
  have hlocks := B.notSynchronized
  have hh : Hp D (Af cs ad sz) (Af cs ad sz) s.heap s.heap [] cs ad en := ⟨hP, Af_self hD0, va_S.rf⟩
  have hA : ∀ q : Nat, s.heap.size ≤ q → Af cs ad sz q := fun q h => Or.inr (by rw [hsz] at h; exact h)
  have hl := lv_entry ([.ref (ad 0), .int k9]) (n := 3) (Nat.le_of_ble_eq_true rfl)
  rw [lg_entry_eq]
  generalize (lg_sl ([.ref (ad 0), .int k9]) ++ List.replicate (3 - (lg_sl ([.ref (ad 0), .int k9])).length) Slot.unset).toArray = ls at hl ⊢
  have hl : lv_has ls 3 [(0, .ref (ad 0)), (1, .int k9)] := hl
  have hf0 : ∀ c, (c ≠ 3) → en c = en c := fun _ _ => rfl
  obtain ⟨fa, hi, wd, mo, tb, dp, many, grt, lst, nou, rm, rb, pr, wo, es1122, hwd2, hwd3, hmo, htb, hwo⟩ := getr_M hI
  obtain ⟨f_1123, es1123⟩ := getr_la hI
  refine lv_iload_n hx hb dX12_lose_0 rfl (lv_at hl 1 rfl) ?_
  refine lv_i2l hx hb dX12_lose_1 rfl ?_
  refine lv_lconst (v := 0) hx hb dX12_lose_2 (by decide) ?_
  refine lv_ldc2 hx hb hown (hts _ tw_984) dX12_lose_3 ?_
  refine hp_callRi (va_runS (As := [.long k9.toInt64, .long 0, .long 3]) (rest := []) ⟨hx, hb, hml, hown, hts⟩ (c_X12_within l D cy _ cs ad en k9.toInt64 0 3) (kw_X12_within hts tw_985 ⟨by decide, by decide⟩) (preS_of hh hK) rfl rfl hl.1 rfl (lv_room (Nat.le_of_ble_eq_true rfl)) dX12_lose_6 ⟨Nat.le_of_ble_eq_true rfl, Nat.le_of_ble_eq_true rfl⟩) hh hA (fun r_1124 H locs hw_1124 hh => ?_)
  rcases Decidable.em (wi k9 0 3) with hp_1124 | hp_1124
  · obtain rfl : r_1124 = 1 := Eq.trans hw_1124 (if_pos ((wj_32 (by decide) (by decide)).mpr hp_1124))
    obtain ⟨N_1124, rfl, hA_1124, hB_1124⟩ := wi_natB hp_1124 0 3 (by decide) (by decide)
    refine lv_if_ne (tgt := 14) hx hb dX12_lose_9 (by decide) (fun _ => ?_) (fun c_0 => absurd c_0 (by decide))
    refine lv_aload_n hx hb dX12_lose_14 rfl (lv_at hl 0 rfl) ?_
    refine hp_get hx hb hts ix12 hown hK hh (q := 0) rfl (hI.1 _ (by decide)) es1122 rfl 7 (by decide) (hts _ tw_886) (fun _ h9 => h9) rfl dX12_lose_15 ?_
    refine lv_iload_n hx hb dX12_lose_18 rfl (lv_at hl 1 rfl) ?_
    refine hp_iald hx hb hK hh (q := 3) rfl (hI.1 _ (by decide)) es1123 (vp_in_nI (n := N_1124) (by omega) (by decide)) dX12_lose_19 ?_
    rw [nI_clamp (n := N_1124) (by omega)]
    refine lv_bipush (v := (-9)) hx hb dX12_lose_20 (by decide) ?_
    refine lv_icmp_ne (tgt := 29) hx hb dX12_lose_22 (by decide) (fun c_1125 => ?_) (fun c_1125 => ?_)
    · refine lv_iconst (v := 1) hx hb dX12_lose_29 (by decide) ?_
      refine lv_istore_n (lv' := [(2, .int 1), (0, .ref (ad 0)), (1, .int (nI N_1124))]) hx hb dX12_lose_30 rfl hl (by decide) rfl (fun ls hl => ?_)
      refine lv_aload_n hx hb dX12_lose_31 rfl (lv_at hl 1 rfl) ?_
      refine hp_get hx hb hts ix12 hown hK hh (q := 0) rfl (hI.1 _ (by decide)) es1122 rfl 7 (by decide) (hts _ tw_886) (fun _ h9 => h9) rfl dX12_lose_32 ?_
      refine lv_iload_n hx hb dX12_lose_35 rfl (lv_at hl 2 rfl) ?_
      refine lv_bipush (v := (-9)) hx hb dX12_lose_36 (by decide) ?_
      refine hp_iast hx hb hK hh (q := 3) rfl (hI.1 _ (by decide)) es1123 (vp_in_nI (n := N_1124) (by omega) (by decide)) dX12_lose_38 (fun H locs en_1126 hen_1126 hh => ?_)
      rw [nI_clamp (n := N_1124) (by omega)] at hen_1126
      have es1122_1126 : en_1126 0 = .inr (11, [.int fa, .int hi, .int (nI wd), .int (nI mo), .int (nI tb), .ref (ad 1), .ref (ad 2), .ref (ad 3), .ref (ad 4), .ref (ad 5), .ref (ad 6), .ref (ad 7), .ref (ad 8), .ref (ad 9), .int dp, .long many, .long grt, .long lst, .long nou, .ref (ad 10), .ref (ad 11), .ref (ad 12), .int rm, .long rb, .ref (ad 13), .int pr, .ref (ad 14), .ref (ad 15), .ref (ad 16), .ref (ad 17), .int (nI wo), .ref (ad 18), .ref (ad 19)]) := by rw [hen_1126, va_up_ne _ _ (by decide)]; exact es1122
      have es1123_1126 : en_1126 3 = .inl (cy 0, 4, .inl (upd f_1123 N_1124 (-9))) := by rw [hen_1126]; exact va_up_self _ _ _
      have hI_1126 : RX cy cs ad en_1126 := by rw [hen_1126]; exact upr_la hI ⟨(upd f_1123 N_1124 (-9)), rfl⟩
      have hf_1126 : ∀ c, (c ≠ 3) → en_1126 c = en c := fun c hc => Eq.trans (show en_1126 c = en c from by rw [hen_1126, va_up_ne _ _ (by omega)]) (hf0 c hc)
      refine lv_iload_n hx hb dX12_lose_39 rfl (lv_at hl 0 rfl) ?_
      exact hp_iretM hx hb hr rfl hlocks hh (⟨hI_1126, hf_1126, Or.inr ⟨N_1124, rfl, by omega, Or.inr ⟨fun q => c_1125 ((show rdF (en 3) N_1124 = f_1123 N_1124 from by rw [es1123]; rfl).symm.trans q), rfl⟩, (by rw [es1123_1126, es1123]; rfl)⟩⟩) dX12_lose_40
    · refine lv_iconst (v := 0) hx hb dX12_lose_25 (by decide) ?_
      refine lv_goto (tgt := 30) hx hb dX12_lose_26 (by decide) ?_
      refine lv_istore_n (lv' := [(2, .int 0), (0, .ref (ad 0)), (1, .int (nI N_1124))]) hx hb dX12_lose_30 rfl hl (by decide) rfl (fun ls hl => ?_)
      refine lv_aload_n hx hb dX12_lose_31 rfl (lv_at hl 1 rfl) ?_
      refine hp_get hx hb hts ix12 hown hK hh (q := 0) rfl (hI.1 _ (by decide)) es1122 rfl 7 (by decide) (hts _ tw_886) (fun _ h9 => h9) rfl dX12_lose_32 ?_
      refine lv_iload_n hx hb dX12_lose_35 rfl (lv_at hl 2 rfl) ?_
      refine lv_bipush (v := (-9)) hx hb dX12_lose_36 (by decide) ?_
      refine hp_iast hx hb hK hh (q := 3) rfl (hI.1 _ (by decide)) es1123 (vp_in_nI (n := N_1124) (by omega) (by decide)) dX12_lose_38 (fun H locs en_1127 hen_1127 hh => ?_)
      rw [nI_clamp (n := N_1124) (by omega)] at hen_1127
      have es1122_1127 : en_1127 0 = .inr (11, [.int fa, .int hi, .int (nI wd), .int (nI mo), .int (nI tb), .ref (ad 1), .ref (ad 2), .ref (ad 3), .ref (ad 4), .ref (ad 5), .ref (ad 6), .ref (ad 7), .ref (ad 8), .ref (ad 9), .int dp, .long many, .long grt, .long lst, .long nou, .ref (ad 10), .ref (ad 11), .ref (ad 12), .int rm, .long rb, .ref (ad 13), .int pr, .ref (ad 14), .ref (ad 15), .ref (ad 16), .ref (ad 17), .int (nI wo), .ref (ad 18), .ref (ad 19)]) := by rw [hen_1127, va_up_ne _ _ (by decide)]; exact es1122
      have es1123_1127 : en_1127 3 = .inl (cy 0, 4, .inl (upd f_1123 N_1124 (-9))) := by rw [hen_1127]; exact va_up_self _ _ _
      have hI_1127 : RX cy cs ad en_1127 := by rw [hen_1127]; exact upr_la hI ⟨(upd f_1123 N_1124 (-9)), rfl⟩
      have hf_1127 : ∀ c, (c ≠ 3) → en_1127 c = en c := fun c hc => Eq.trans (show en_1127 c = en c from by rw [hen_1127, va_up_ne _ _ (by omega)]) (hf0 c hc)
      refine lv_iload_n hx hb dX12_lose_39 rfl (lv_at hl 0 rfl) ?_
      exact hp_iretM hx hb hr rfl hlocks hh (⟨hI_1127, hf_1127, Or.inr ⟨N_1124, rfl, by omega, Or.inl ⟨(show rdF (en 3) N_1124 = f_1123 N_1124 from by rw [es1123]; rfl).trans c_1125, rfl⟩, (by rw [es1123_1127, es1123]; rfl)⟩⟩) dX12_lose_40
  · obtain rfl : r_1124 = 0 := Eq.trans hw_1124 (if_neg (fun q => hp_1124 ((wj_32 (by decide) (by decide)).mp q)))
    refine lv_if_ne (tgt := 14) hx hb dX12_lose_9 (by decide) (fun c_0 => absurd c_0 (by decide)) (fun _ => ?_)
    refine lv_iconst (v := (-1)) hx hb dX12_lose_12 (by decide) ?_
    exact hp_iretM hx hb hr rfl hlocks hh (⟨hI, hf0, Or.inl ⟨hp_1124, rfl, rfl⟩⟩) dX12_lose_13
theorem kw_X12_lose {R : Room} {s : State} {args : Array Value} {own : String} {idx : Nat} (hts : ∀ w ∈ TB, w.before args s = true) (hl : Cond.methodLink own idx yX12_lose ∈ TB) (hR : 1 + 1 ≤ R.frames ∧ 8 + (3 + 11) + 40 * 1 ≤ R.locals) : CallW R s args own RX12 idx yX12_lose cX12_lose 3 (some .int) (Cond.code yX12_lose cX12_lose 3 (some .int) :: TB) (rmN 1) 0 0 1 := cwV 1 hts (TB_V hl tw_1204 tw_1205 tw_9 tw_1206) rfl rfl rfl (by decide +kernel) hR
set_option maxHeartbeats 4000000 in
set_option maxRecDepth 100000 in
/-- put -/
theorem c_X12_put (l : Launch) (D : va_G) (cy : Nat → ClassId) (sz : Nat) (cs : List Nat) (ad : Nat → Nat) (en : Nat → va_E) (hI : RX cy cs ad en) (k9 i9 v9 : Int32)   : Met l yX12_put (Cond.code yX12_put cX12_put 4 (some .int) :: TB) (rmN 1) (va_Pc [.ref (ad 0), .int k9, .int i9, .int v9] (Pre D cy cs ad en sz)) (va_Qi (S := Nat → va_E) (fun r en1 => RX cy cs ad en1 ∧ (∀ c, (c ≠ 0 ∧ c ≠ 5) → en1 c = en c) ∧ RPU k9 i9 v9 r en en1 ∧ KP en en1) (PostM D cs ad) (Af cs ad sz)) 0 0 (Af cs ad sz) := by
  refine Met.ofW (cc := cX12_put) (maxL := 4) (ret := (some .int)) (by decide) rfl ?_
  intro p e s m args below meth c s₁ B hml hv
  obtain ⟨rfl, hsz, hP, hK, hD0⟩ := hv
  have hx := B.exec
  have hb := B.bytes
  have hr := B.returns
  have hts : ∀ w ∈ TB, w.before _ s = true := fun w h => atoms_spec (ws := _ :: TB) B.pre w (List.mem_cons_of_mem _ h)
  have hown : s.vm.findClass RX12 = some m.cls := findClass_of_methodNamed B.named
  have hlocks := B.notSynchronized
  have hh : Hp D (Af cs ad sz) (Af cs ad sz) s.heap s.heap [] cs ad en := ⟨hP, Af_self hD0, va_S.rf⟩
  have hA : ∀ q : Nat, s.heap.size ≤ q → Af cs ad sz q := fun q h => Or.inr (by rw [hsz] at h; exact h)
  have hl := lv_entry ([.ref (ad 0), .int k9, .int i9, .int v9]) (n := 4) (Nat.le_of_ble_eq_true rfl)
  rw [lg_entry_eq]
  generalize (lg_sl ([.ref (ad 0), .int k9, .int i9, .int v9]) ++ List.replicate (4 - (lg_sl ([.ref (ad 0), .int k9, .int i9, .int v9])).length) Slot.unset).toArray = ls at hl ⊢
  have hl : lv_has ls 4 [(0, .ref (ad 0)), (1, .int k9), (2, .int i9), (3, .int v9)] := hl
  have hf0 : ∀ c, (c ≠ 0 ∧ c ≠ 5) → en c = en c := fun _ _ => rfl
  obtain ⟨fa, hi, wd, mo, tb, dp, many, grt, lst, nou, rm, rb, pr, wo, es1128, hwd2, hwd3, hmo, htb, hwo⟩ := getr_M hI
  obtain ⟨f_1129, es1129⟩ := getr_la hI
  obtain ⟨f_1130, es1130, p0_1130⟩ := getr_sl hI
  obtain ⟨f_1131, es1131⟩ := getr_ce hI
  refine lv_aload_n hx hb dX12_put_0 rfl (lv_at hl 0 rfl) ?_
  refine lv_iconst (v := 0) hx hb dX12_put_1 (by decide) ?_
  refine hp_put hx hb hts ix12 tyX12 tyX12_ok nmX12 hown hK hh (q := 0) rfl (hI.1 _ (by decide)) es1128 rfl 0 (by decide) (hts _ tw_879) (fun _ h9 => h9) rfl (ty := .int) (by decide +kernel) rfl rfl (Nat.le_of_ble_eq_true rfl) dX12_put_2 (fun H locs en_1132 hen_1132 hh => ?_)
  have es1129_1132 : en_1132 3 = .inl (cy 0, 4, .inl f_1129) := by rw [hen_1132, va_up_ne _ _ (by decide)]; exact es1129
  have es1130_1132 : en_1132 4 = .inl (cy 0, 4, .inl f_1130) := by rw [hen_1132, va_up_ne _ _ (by decide)]; exact es1130
  have es1131_1132 : en_1132 5 = .inl (cy 0, 160, .inl f_1131) := by rw [hen_1132, va_up_ne _ _ (by decide)]; exact es1131
  have es1128_1132 : en_1132 0 = .inr (11, [.int 0, .int hi, .int (nI wd), .int (nI mo), .int (nI tb), .ref (ad 1), .ref (ad 2), .ref (ad 3), .ref (ad 4), .ref (ad 5), .ref (ad 6), .ref (ad 7), .ref (ad 8), .ref (ad 9), .int dp, .long many, .long grt, .long lst, .long nou, .ref (ad 10), .ref (ad 11), .ref (ad 12), .int rm, .long rb, .ref (ad 13), .int pr, .ref (ad 14), .ref (ad 15), .ref (ad 16), .ref (ad 17), .int (nI wo), .ref (ad 18), .ref (ad 19)]) := by rw [hen_1132]; exact va_up_self _ _ _
  have hI_1132 : RX cy cs ad en_1132 := by rw [hen_1132]; exact upr_M hI ⟨0, hi, wd, mo, tb, dp, many, grt, lst, nou, rm, rb, pr, wo, rfl, hwd2, hwd3, hmo, htb, hwo⟩
  have hf_1132 : ∀ c, (c ≠ 0 ∧ c ≠ 5) → en_1132 c = en c := fun c hc => Eq.trans (show en_1132 c = en c from by rw [hen_1132, va_up_ne _ _ (by omega)]) (hf0 c hc)
  have hkc5_1132 : en_1132 5 = en 5 := (show en_1132 5 = en 5 from by rw [hen_1132, va_up_ne _ _ (by decide)]).trans rfl
  have hkp_1132 : KP en en_1132 := KP_fv (KP_rf en) es1128 es1128_1132 hi (nI wd) (nI mo) (nI tb) pr (nI wo) rfl rfl rfl rfl rfl rfl rfl rfl rfl rfl rfl rfl
  refine lv_iload_n hx hb dX12_put_5 rfl (lv_at hl 1 rfl) ?_
  refine lv_i2l hx hb dX12_put_6 rfl ?_
  refine lv_lconst (v := 0) hx hb dX12_put_7 (by decide) ?_
  refine lv_ldc2 hx hb hown (hts _ tw_984) dX12_put_8 ?_
  refine hp_callRi (va_runS (As := [.long k9.toInt64, .long 0, .long 3]) (rest := []) ⟨hx, hb, hml, hown, hts⟩ (c_X12_within l D cy _ cs ad en_1132 k9.toInt64 0 3) (kw_X12_within hts tw_985 ⟨by decide, by decide⟩) (preS_of hh hK) rfl rfl hl.1 rfl (lv_room (Nat.le_of_ble_eq_true rfl)) dX12_put_11 ⟨Nat.le_of_ble_eq_true rfl, Nat.le_of_ble_eq_true rfl⟩) hh hA (fun r_1133 H locs hw_1133 hh => ?_)
  rcases Decidable.em (wi k9 0 3) with hp_1133 | hp_1133
  · obtain rfl : r_1133 = 1 := Eq.trans hw_1133 (if_pos ((wj_32 (by decide) (by decide)).mpr hp_1133))
    obtain ⟨N_1133, rfl, hA_1133, hB_1133⟩ := wi_natB hp_1133 0 3 (by decide) (by decide)
    refine lv_if_ne (tgt := 19) hx hb dX12_put_14 (by decide) (fun _ => ?_) (fun c_0 => absurd c_0 (by decide))
    refine lv_aload_n hx hb dX12_put_19 rfl (lv_at hl 0 rfl) ?_
    refine hp_get hx hb hts ix12 hown hK hh (q := 0) rfl (hI.1 _ (by decide)) es1128_1132 rfl 7 (by decide) (hts _ tw_886) (fun _ h9 => h9) rfl dX12_put_20 ?_
    refine lv_iload_n hx hb dX12_put_23 rfl (lv_at hl 1 rfl) ?_
    refine hp_iald hx hb hK hh (q := 3) rfl (hI.1 _ (by decide)) es1129_1132 (vp_in_nI (n := N_1133) (by omega) (by decide)) dX12_put_24 ?_
    rw [nI_clamp (n := N_1133) (by omega)]
    refine lv_bipush (v := (-9)) hx hb dX12_put_25 (by decide) ?_
    refine lv_icmp_ne (tgt := 36) hx hb dX12_put_27 (by decide) (fun c_1134 => ?_) (fun c_1134 => ?_)
    · refine lv_iload_n hx hb dX12_put_36 rfl (lv_at hl 2 rfl) ?_
      refine lv_i2l hx hb dX12_put_37 rfl ?_
      refine lv_lconst (v := 0) hx hb dX12_put_38 (by decide) ?_
      refine lv_aload_n hx hb dX12_put_39 rfl (lv_at hl 0 rfl) ?_
      refine hp_get hx hb hts ix12 hown hK hh (q := 0) rfl (hI.1 _ (by decide)) es1128_1132 rfl 8 (by decide) (hts _ tw_887) (fun _ h9 => h9) rfl dX12_put_40 ?_
      refine lv_iload_n hx hb dX12_put_43 rfl (lv_at hl 1 rfl) ?_
      refine hp_iald hx hb hK hh (q := 4) rfl (hI.1 _ (by decide)) es1130_1132 (vp_in_nI (n := N_1133) (by omega) (by decide)) dX12_put_44 ?_
      rw [nI_clamp (n := N_1133) (by omega)]
      obtain ⟨v_1135, hv_1135, hfv_1135⟩ := p0_1130 N_1133 (by omega)
      rw [hfv_1135]
      refine lv_i2l hx hb dX12_put_45 rfl ?_
      refine lv_lconst (v := 1) hx hb dX12_put_46 (by decide) ?_
      refine lv_lsub hx hb dX12_put_47 ?_
      refine hp_callRi (va_runS (As := [.long i9.toInt64, .long 0, .long ((nI v_1135).toInt64 - 1)]) (rest := []) ⟨hx, hb, hml, hown, hts⟩ (c_X12_within l D cy _ cs ad en_1132 i9.toInt64 0 ((nI v_1135).toInt64 - 1)) (kw_X12_within hts tw_985 ⟨by decide, by decide⟩) (preS_of hh hK) rfl rfl hl.1 rfl (lv_room (Nat.le_of_ble_eq_true rfl)) dX12_put_48 ⟨Nat.le_of_ble_eq_true rfl, Nat.le_of_ble_eq_true rfl⟩) hh hA (fun r_1136 H locs hw_1136 hh => ?_)
      rcases Decidable.em (0 ≤ i9.toInt ∧ i9.toInt < (v_1135 : Int)) with hp_1136 | hp_1136
      · obtain rfl : r_1136 = 1 := Eq.trans hw_1136 (if_pos ((wj_m1 (by omega)).mpr hp_1136))
        obtain ⟨N_1136, rfl, hB_1136⟩ := has_nat hp_1136
        refine lv_if_ne (tgt := 60) hx hb dX12_put_51 (by decide) (fun _ => ?_) (fun c_0 => absurd c_0 (by decide))
        refine lv_aload_n hx hb dX12_put_60 rfl (lv_at hl 0 rfl) ?_
        refine hp_get hx hb hts ix12 hown hK hh (q := 0) rfl (hI.1 _ (by decide)) es1128_1132 rfl 9 (by decide) (hts _ tw_888) (fun _ h9 => h9) rfl dX12_put_61 ?_
        refine lv_bipush (v := 40) hx hb dX12_put_64 (by decide) ?_
        refine lv_iload_n hx hb dX12_put_66 rfl (lv_at hl 1 rfl) ?_
        refine lv_imul hx hb dX12_put_67 ?_
        rw [show (40 : Int32) = nI 40 from rfl, pk_mul 40 N_1133]
        refine lv_iload_n hx hb dX12_put_68 rfl (lv_at hl 2 rfl) ?_
        refine lv_iadd hx hb dX12_put_69 ?_
        rw [nI_add (40 * N_1133) N_1136]
        refine lv_aload_n hx hb dX12_put_70 rfl (lv_at hl 0 rfl) ?_
        refine hp_get hx hb hts ix12 hown hK hh (q := 0) rfl (hI.1 _ (by decide)) es1128_1132 rfl 7 (by decide) (hts _ tw_886) (fun _ h9 => h9) rfl dX12_put_71 ?_
        refine lv_iload_n hx hb dX12_put_74 rfl (lv_at hl 1 rfl) ?_
        refine hp_iald hx hb hK hh (q := 3) rfl (hI.1 _ (by decide)) es1129_1132 (vp_in_nI (n := N_1133) (by omega) (by decide)) dX12_put_75 ?_
        rw [nI_clamp (n := N_1133) (by omega)]
        refine lv_if_ne (tgt := 84) hx hb dX12_put_76 (by decide) (fun c_1137 => ?_) (fun c_1137 => ?_)
        · refine lv_aload_n hx hb dX12_put_84 rfl (lv_at hl 0 rfl) ?_
          refine hp_get hx hb hts ix12 hown hK hh (q := 0) rfl (hI.1 _ (by decide)) es1128_1132 rfl 7 (by decide) (hts _ tw_886) (fun _ h9 => h9) rfl dX12_put_85 ?_
          refine lv_iload_n hx hb dX12_put_88 rfl (lv_at hl 1 rfl) ?_
          refine hp_iald hx hb hK hh (q := 3) rfl (hI.1 _ (by decide)) es1129_1132 (vp_in_nI (n := N_1133) (by omega) (by decide)) dX12_put_89 ?_
          rw [nI_clamp (n := N_1133) (by omega)]
          refine lv_iconst (v := 1) hx hb dX12_put_90 (by decide) ?_
          refine lv_icmp_ne (tgt := 99) hx hb dX12_put_91 (by decide) (fun c_1138 => ?_) (fun c_1138 => ?_)
          · refine lv_iload_n hx hb dX12_put_99 rfl (lv_at hl 3 rfl) ?_
            refine hp_iast hx hb hK hh (q := 5) rfl (hI.1 _ (by decide)) es1131_1132 (vp_in_nI (n := ((40 * N_1133) + N_1136)) (by omega) (by decide)) dX12_put_100 (fun H locs en_1139 hen_1139 hh => ?_)
            rw [nI_clamp (n := ((40 * N_1133) + N_1136)) (by omega)] at hen_1139
            have es1129_1139 : en_1139 3 = .inl (cy 0, 4, .inl f_1129) := by rw [hen_1139, va_up_ne _ _ (by decide)]; exact es1129_1132
            have es1130_1139 : en_1139 4 = .inl (cy 0, 4, .inl f_1130) := by rw [hen_1139, va_up_ne _ _ (by decide)]; exact es1130_1132
            have es1128_1139 : en_1139 0 = .inr (11, [.int 0, .int hi, .int (nI wd), .int (nI mo), .int (nI tb), .ref (ad 1), .ref (ad 2), .ref (ad 3), .ref (ad 4), .ref (ad 5), .ref (ad 6), .ref (ad 7), .ref (ad 8), .ref (ad 9), .int dp, .long many, .long grt, .long lst, .long nou, .ref (ad 10), .ref (ad 11), .ref (ad 12), .int rm, .long rb, .ref (ad 13), .int pr, .ref (ad 14), .ref (ad 15), .ref (ad 16), .ref (ad 17), .int (nI wo), .ref (ad 18), .ref (ad 19)]) := by rw [hen_1139, va_up_ne _ _ (by decide)]; exact es1128_1132
            have es1131_1139 : en_1139 5 = .inl (cy 0, 160, .inl (upd f_1131 ((40 * N_1133) + N_1136) v9)) := by rw [hen_1139]; exact va_up_self _ _ _
            have hI_1139 : RX cy cs ad en_1139 := by rw [hen_1139]; exact upr_ce hI_1132 ⟨(upd f_1131 ((40 * N_1133) + N_1136) v9), rfl⟩
            have hf_1139 : ∀ c, (c ≠ 0 ∧ c ≠ 5) → en_1139 c = en c := fun c hc => Eq.trans (show en_1139 c = en_1132 c from by rw [hen_1139, va_up_ne _ _ (by omega)]) (hf_1132 c hc)
            have hkp_1139 : KP en en_1139 := KP_same hkp_1132 (show en_1139 0 = en_1132 0 from by rw [hen_1139, va_up_ne _ _ (by decide)])
            refine lv_iconst (v := 1) hx hb dX12_put_101 (by decide) ?_
            exact hp_iretM hx hb hr rfl hlocks hh (⟨hI_1139, hf_1139, ⟨(by (try rw [nI_clamp (n := N_1133) (by omega)]); rw [show rdF (en 3) = f_1129 from by rw [es1129]; rfl, show rdF (en 4) = f_1130 from by rw [es1130]; rfl]; unfold putR; rw [if_pos hp_1133, if_neg c_1134, hfv_1135, nI_toInt (n := v_1135) (by omega), if_pos hp_1136]), Or.inr ⟨rfl, N_1133, N_1136, rfl, rfl, by omega, by omega, (by rw [es1131_1139, show rdF (en 5) = f_1131 from by rw [es1131]; rfl, show rdF (en 3) = f_1129 from by rw [es1129]; rfl]; unfold narV; rw [if_neg c_1137, if_neg c_1138]; rfl)⟩⟩, hkp_1139⟩) dX12_put_102
          · refine lv_iload_n hx hb dX12_put_94 rfl (lv_at hl 3 rfl) ?_
            refine lv_i2s hx hb dX12_put_95 rfl ?_
            refine lv_goto (tgt := 100) hx hb dX12_put_96 (by decide) ?_
            refine hp_iast hx hb hK hh (q := 5) rfl (hI.1 _ (by decide)) es1131_1132 (vp_in_nI (n := ((40 * N_1133) + N_1136)) (by omega) (by decide)) dX12_put_100 (fun H locs en_1140 hen_1140 hh => ?_)
            rw [nI_clamp (n := ((40 * N_1133) + N_1136)) (by omega)] at hen_1140
            have es1129_1140 : en_1140 3 = .inl (cy 0, 4, .inl f_1129) := by rw [hen_1140, va_up_ne _ _ (by decide)]; exact es1129_1132
            have es1130_1140 : en_1140 4 = .inl (cy 0, 4, .inl f_1130) := by rw [hen_1140, va_up_ne _ _ (by decide)]; exact es1130_1132
            have es1128_1140 : en_1140 0 = .inr (11, [.int 0, .int hi, .int (nI wd), .int (nI mo), .int (nI tb), .ref (ad 1), .ref (ad 2), .ref (ad 3), .ref (ad 4), .ref (ad 5), .ref (ad 6), .ref (ad 7), .ref (ad 8), .ref (ad 9), .int dp, .long many, .long grt, .long lst, .long nou, .ref (ad 10), .ref (ad 11), .ref (ad 12), .int rm, .long rb, .ref (ad 13), .int pr, .ref (ad 14), .ref (ad 15), .ref (ad 16), .ref (ad 17), .int (nI wo), .ref (ad 18), .ref (ad 19)]) := by rw [hen_1140, va_up_ne _ _ (by decide)]; exact es1128_1132
            have es1131_1140 : en_1140 5 = .inl (cy 0, 160, .inl (upd f_1131 ((40 * N_1133) + N_1136) v9.toInt16.toInt32)) := by rw [hen_1140]; exact va_up_self _ _ _
            have hI_1140 : RX cy cs ad en_1140 := by rw [hen_1140]; exact upr_ce hI_1132 ⟨(upd f_1131 ((40 * N_1133) + N_1136) v9.toInt16.toInt32), rfl⟩
            have hf_1140 : ∀ c, (c ≠ 0 ∧ c ≠ 5) → en_1140 c = en c := fun c hc => Eq.trans (show en_1140 c = en_1132 c from by rw [hen_1140, va_up_ne _ _ (by omega)]) (hf_1132 c hc)
            have hkp_1140 : KP en en_1140 := KP_same hkp_1132 (show en_1140 0 = en_1132 0 from by rw [hen_1140, va_up_ne _ _ (by decide)])
            refine lv_iconst (v := 1) hx hb dX12_put_101 (by decide) ?_
            exact hp_iretM hx hb hr rfl hlocks hh (⟨hI_1140, hf_1140, ⟨(by (try rw [nI_clamp (n := N_1133) (by omega)]); rw [show rdF (en 3) = f_1129 from by rw [es1129]; rfl, show rdF (en 4) = f_1130 from by rw [es1130]; rfl]; unfold putR; rw [if_pos hp_1133, if_neg c_1134, hfv_1135, nI_toInt (n := v_1135) (by omega), if_pos hp_1136]), Or.inr ⟨rfl, N_1133, N_1136, rfl, rfl, by omega, by omega, (by rw [es1131_1140, show rdF (en 5) = f_1131 from by rw [es1131]; rfl, show rdF (en 3) = f_1129 from by rw [es1129]; rfl]; unfold narV; rw [if_neg c_1137, if_pos c_1138]; rfl)⟩⟩, hkp_1140⟩) dX12_put_102
        · refine lv_iload_n hx hb dX12_put_79 rfl (lv_at hl 3 rfl) ?_
          refine lv_i2b hx hb dX12_put_80 rfl ?_
          refine lv_goto (tgt := 100) hx hb dX12_put_81 (by decide) ?_
          refine hp_iast hx hb hK hh (q := 5) rfl (hI.1 _ (by decide)) es1131_1132 (vp_in_nI (n := ((40 * N_1133) + N_1136)) (by omega) (by decide)) dX12_put_100 (fun H locs en_1141 hen_1141 hh => ?_)
          rw [nI_clamp (n := ((40 * N_1133) + N_1136)) (by omega)] at hen_1141
          have es1129_1141 : en_1141 3 = .inl (cy 0, 4, .inl f_1129) := by rw [hen_1141, va_up_ne _ _ (by decide)]; exact es1129_1132
          have es1130_1141 : en_1141 4 = .inl (cy 0, 4, .inl f_1130) := by rw [hen_1141, va_up_ne _ _ (by decide)]; exact es1130_1132
          have es1128_1141 : en_1141 0 = .inr (11, [.int 0, .int hi, .int (nI wd), .int (nI mo), .int (nI tb), .ref (ad 1), .ref (ad 2), .ref (ad 3), .ref (ad 4), .ref (ad 5), .ref (ad 6), .ref (ad 7), .ref (ad 8), .ref (ad 9), .int dp, .long many, .long grt, .long lst, .long nou, .ref (ad 10), .ref (ad 11), .ref (ad 12), .int rm, .long rb, .ref (ad 13), .int pr, .ref (ad 14), .ref (ad 15), .ref (ad 16), .ref (ad 17), .int (nI wo), .ref (ad 18), .ref (ad 19)]) := by rw [hen_1141, va_up_ne _ _ (by decide)]; exact es1128_1132
          have es1131_1141 : en_1141 5 = .inl (cy 0, 160, .inl (upd f_1131 ((40 * N_1133) + N_1136) v9.toInt8.toInt32)) := by rw [hen_1141]; exact va_up_self _ _ _
          have hI_1141 : RX cy cs ad en_1141 := by rw [hen_1141]; exact upr_ce hI_1132 ⟨(upd f_1131 ((40 * N_1133) + N_1136) v9.toInt8.toInt32), rfl⟩
          have hf_1141 : ∀ c, (c ≠ 0 ∧ c ≠ 5) → en_1141 c = en c := fun c hc => Eq.trans (show en_1141 c = en_1132 c from by rw [hen_1141, va_up_ne _ _ (by omega)]) (hf_1132 c hc)
          have hkp_1141 : KP en en_1141 := KP_same hkp_1132 (show en_1141 0 = en_1132 0 from by rw [hen_1141, va_up_ne _ _ (by decide)])
          refine lv_iconst (v := 1) hx hb dX12_put_101 (by decide) ?_
          exact hp_iretM hx hb hr rfl hlocks hh (⟨hI_1141, hf_1141, ⟨(by (try rw [nI_clamp (n := N_1133) (by omega)]); rw [show rdF (en 3) = f_1129 from by rw [es1129]; rfl, show rdF (en 4) = f_1130 from by rw [es1130]; rfl]; unfold putR; rw [if_pos hp_1133, if_neg c_1134, hfv_1135, nI_toInt (n := v_1135) (by omega), if_pos hp_1136]), Or.inr ⟨rfl, N_1133, N_1136, rfl, rfl, by omega, by omega, (by rw [es1131_1141, show rdF (en 5) = f_1131 from by rw [es1131]; rfl, show rdF (en 3) = f_1129 from by rw [es1129]; rfl]; unfold narV; rw [if_pos c_1137]; rfl)⟩⟩, hkp_1141⟩) dX12_put_102
      · obtain rfl : r_1136 = 0 := Eq.trans hw_1136 (if_neg (fun q => hp_1136 ((wj_m1 (by omega)).mp q)))
        refine lv_if_ne (tgt := 60) hx hb dX12_put_51 (by decide) (fun c_0 => absurd c_0 (by decide)) (fun _ => ?_)
        refine lv_aload_n hx hb dX12_put_54 rfl (lv_at hl 0 rfl) ?_
        refine lv_iconst (v := 3) hx hb dX12_put_55 (by decide) ?_
        refine hp_callMi (va_runV (As := [.int 3]) (rest := []) ⟨hx, hb, hml, hown, hts⟩ (c_X12_fails l D cy _ cs ad en_1132 (hI.1 _ (by decide)) 0 hi wd mo tb dp many grt lst nou rm rb pr wo 3 es1128_1132) (kw_X12_fails hts tw_997 ⟨by decide, by decide⟩) (preV_of hh hK (hI.1 _ (by decide)) es1128_1132 rfl) rfl rfl hl.1 rfl (lv_room (Nat.le_of_ble_eq_true rfl)) dX12_put_56 ⟨Nat.le_of_ble_eq_true rfl, Nat.le_of_ble_eq_true rfl⟩) hh hA (fun r_1142 H locs en_1142 hw_1142 hh => ?_)
        obtain ⟨hr_1142, hen_1142⟩ := hw_1142
        have es1129_1142 : en_1142 3 = .inl (cy 0, 4, .inl f_1129) := by rw [hen_1142, va_up_ne _ _ (by decide)]; exact es1129_1132
        have es1130_1142 : en_1142 4 = .inl (cy 0, 4, .inl f_1130) := by rw [hen_1142, va_up_ne _ _ (by decide)]; exact es1130_1132
        have es1131_1142 : en_1142 5 = .inl (cy 0, 160, .inl f_1131) := by rw [hen_1142, va_up_ne _ _ (by decide)]; exact es1131_1132
        have es1128_1142 : en_1142 0 = .inr (11, [.int 3, .int hi, .int (nI wd), .int (nI mo), .int (nI tb), .ref (ad 1), .ref (ad 2), .ref (ad 3), .ref (ad 4), .ref (ad 5), .ref (ad 6), .ref (ad 7), .ref (ad 8), .ref (ad 9), .int dp, .long many, .long grt, .long lst, .long nou, .ref (ad 10), .ref (ad 11), .ref (ad 12), .int rm, .long rb, .ref (ad 13), .int pr, .ref (ad 14), .ref (ad 15), .ref (ad 16), .ref (ad 17), .int (nI wo), .ref (ad 18), .ref (ad 19)]) := by rw [hen_1142]; exact va_up_self _ _ _
        have hI_1142 : RX cy cs ad en_1142 := by rw [hen_1142]; exact upr_M hI_1132 ⟨3, hi, wd, mo, tb, dp, many, grt, lst, nou, rm, rb, pr, wo, rfl, hwd2, hwd3, hmo, htb, hwo⟩
        have hf_1142 : ∀ c, (c ≠ 0 ∧ c ≠ 5) → en_1142 c = en c := fun c hc => Eq.trans (show en_1142 c = en_1132 c from by rw [hen_1142, va_up_ne _ _ (by omega)]) (hf_1132 c hc)
        have hkc5_1142 : en_1142 5 = en 5 := (show en_1142 5 = en_1132 5 from by rw [hen_1142, va_up_ne _ _ (by decide)]).trans hkc5_1132
        have hkp_1142 : KP en en_1142 := KP_fv hkp_1132 es1128_1132 es1128_1142 hi (nI wd) (nI mo) (nI tb) pr (nI wo) rfl rfl rfl rfl rfl rfl rfl rfl rfl rfl rfl rfl
        obtain rfl : r_1142 = (-13) := hr_1142.trans (by decide)
        exact hp_iretM hx hb hr rfl hlocks hh (⟨hI_1142, hf_1142, ⟨(by (try rw [nI_clamp (n := N_1133) (by omega)]); rw [show rdF (en 3) = f_1129 from by rw [es1129]; rfl, show rdF (en 4) = f_1130 from by rw [es1130]; rfl]; unfold putR; rw [if_pos hp_1133, if_neg c_1134, hfv_1135, nI_toInt (n := v_1135) (by omega), if_neg hp_1136]), Or.inl ⟨by decide, hkc5_1142⟩⟩, hkp_1142⟩) dX12_put_59
    · refine lv_aload_n hx hb dX12_put_30 rfl (lv_at hl 0 rfl) ?_
      refine lv_iconst (v := 1) hx hb dX12_put_31 (by decide) ?_
      refine hp_callMi (va_runV (As := [.int 1]) (rest := []) ⟨hx, hb, hml, hown, hts⟩ (c_X12_fails l D cy _ cs ad en_1132 (hI.1 _ (by decide)) 0 hi wd mo tb dp many grt lst nou rm rb pr wo 1 es1128_1132) (kw_X12_fails hts tw_997 ⟨by decide, by decide⟩) (preV_of hh hK (hI.1 _ (by decide)) es1128_1132 rfl) rfl rfl hl.1 rfl (lv_room (Nat.le_of_ble_eq_true rfl)) dX12_put_32 ⟨Nat.le_of_ble_eq_true rfl, Nat.le_of_ble_eq_true rfl⟩) hh hA (fun r_1143 H locs en_1143 hw_1143 hh => ?_)
      obtain ⟨hr_1143, hen_1143⟩ := hw_1143
      have es1129_1143 : en_1143 3 = .inl (cy 0, 4, .inl f_1129) := by rw [hen_1143, va_up_ne _ _ (by decide)]; exact es1129_1132
      have es1130_1143 : en_1143 4 = .inl (cy 0, 4, .inl f_1130) := by rw [hen_1143, va_up_ne _ _ (by decide)]; exact es1130_1132
      have es1131_1143 : en_1143 5 = .inl (cy 0, 160, .inl f_1131) := by rw [hen_1143, va_up_ne _ _ (by decide)]; exact es1131_1132
      have es1128_1143 : en_1143 0 = .inr (11, [.int 1, .int hi, .int (nI wd), .int (nI mo), .int (nI tb), .ref (ad 1), .ref (ad 2), .ref (ad 3), .ref (ad 4), .ref (ad 5), .ref (ad 6), .ref (ad 7), .ref (ad 8), .ref (ad 9), .int dp, .long many, .long grt, .long lst, .long nou, .ref (ad 10), .ref (ad 11), .ref (ad 12), .int rm, .long rb, .ref (ad 13), .int pr, .ref (ad 14), .ref (ad 15), .ref (ad 16), .ref (ad 17), .int (nI wo), .ref (ad 18), .ref (ad 19)]) := by rw [hen_1143]; exact va_up_self _ _ _
      have hI_1143 : RX cy cs ad en_1143 := by rw [hen_1143]; exact upr_M hI_1132 ⟨1, hi, wd, mo, tb, dp, many, grt, lst, nou, rm, rb, pr, wo, rfl, hwd2, hwd3, hmo, htb, hwo⟩
      have hf_1143 : ∀ c, (c ≠ 0 ∧ c ≠ 5) → en_1143 c = en c := fun c hc => Eq.trans (show en_1143 c = en_1132 c from by rw [hen_1143, va_up_ne _ _ (by omega)]) (hf_1132 c hc)
      have hkc5_1143 : en_1143 5 = en 5 := (show en_1143 5 = en_1132 5 from by rw [hen_1143, va_up_ne _ _ (by decide)]).trans hkc5_1132
      have hkp_1143 : KP en en_1143 := KP_fv hkp_1132 es1128_1132 es1128_1143 hi (nI wd) (nI mo) (nI tb) pr (nI wo) rfl rfl rfl rfl rfl rfl rfl rfl rfl rfl rfl rfl
      obtain rfl : r_1143 = (-11) := hr_1143.trans (by decide)
      exact hp_iretM hx hb hr rfl hlocks hh (⟨hI_1143, hf_1143, ⟨(by (try rw [nI_clamp (n := N_1133) (by omega)]); rw [show rdF (en 3) = f_1129 from by rw [es1129]; rfl, show rdF (en 4) = f_1130 from by rw [es1130]; rfl]; unfold putR; rw [if_pos hp_1133, if_pos c_1134]), Or.inl ⟨by decide, hkc5_1143⟩⟩, hkp_1143⟩) dX12_put_35
  · obtain rfl : r_1133 = 0 := Eq.trans hw_1133 (if_neg (fun q => hp_1133 ((wj_32 (by decide) (by decide)).mp q)))
    refine lv_if_ne (tgt := 19) hx hb dX12_put_14 (by decide) (fun c_0 => absurd c_0 (by decide)) (fun _ => ?_)
    refine lv_iconst (v := (-1)) hx hb dX12_put_17 (by decide) ?_
    exact hp_iretM hx hb hr rfl hlocks hh (⟨hI_1132, hf_1132, ⟨(by unfold putR; rw [if_neg hp_1133]), Or.inl ⟨by decide, hkc5_1132⟩⟩, hkp_1132⟩) dX12_put_18
theorem kw_X12_put {R : Room} {s : State} {args : Array Value} {own : String} {idx : Nat} (hts : ∀ w ∈ TB, w.before args s = true) (hl : Cond.methodLink own idx yX12_put ∈ TB) (hR : 1 + 1 ≤ R.frames ∧ 8 + (4 + 11) + 40 * 1 ≤ R.locals) : CallW R s args own RX12 idx yX12_put cX12_put 4 (some .int) (Cond.code yX12_put cX12_put 4 (some .int) :: TB) (rmN 1) 0 0 3 := cwV 3 hts (TB_V hl tw_1208 tw_1209 tw_9 tw_1210) rfl rfl rfl (by decide +kernel) hR
set_option maxHeartbeats 4000000 in
set_option maxRecDepth 100000 in
/-- at -/
theorem c_X12_at (l : Launch) (D : va_G) (cy : Nat → ClassId) (sz : Nat) (cs : List Nat) (ad : Nat → Nat) (en : Nat → va_E) (hI : RX cy cs ad en) (k9 i9 la9 : Int32)   : Met l yX12_at (Cond.code yX12_at cX12_at 4 (some .long) :: TB) (rmN 1) (va_Pc [.ref (ad 0), .int k9, .int i9, .int la9] (Pre D cy cs ad en sz)) (va_Ql (S := Nat → va_E) (fun r en1 => RX cy cs ad en1 ∧ (∀ c, (c ≠ 0) → en1 c = en c) ∧ RAT k9 i9 la9 r en ∧ KP en en1) (PostM D cs ad) (Af cs ad sz)) 0 0 (Af cs ad sz) := by
  refine Met.ofW (cc := cX12_at) (maxL := 4) (ret := (some .long)) (by decide) rfl ?_
  intro p e s m args below meth c s₁ B hml hv
  obtain ⟨rfl, hsz, hP, hK, hD0⟩ := hv
  have hx := B.exec
  have hb := B.bytes
  have hr := B.returns
  have hts : ∀ w ∈ TB, w.before _ s = true := fun w h => atoms_spec (ws := _ :: TB) B.pre w (List.mem_cons_of_mem _ h)
  have hown : s.vm.findClass RX12 = some m.cls := findClass_of_methodNamed B.named
  have hlocks := B.notSynchronized
  have hh : Hp D (Af cs ad sz) (Af cs ad sz) s.heap s.heap [] cs ad en := ⟨hP, Af_self hD0, va_S.rf⟩
  have hA : ∀ q : Nat, s.heap.size ≤ q → Af cs ad sz q := fun q h => Or.inr (by rw [hsz] at h; exact h)
  have hl := lv_entry ([.ref (ad 0), .int k9, .int i9, .int la9]) (n := 4) (Nat.le_of_ble_eq_true rfl)
  rw [lg_entry_eq]
  generalize (lg_sl ([.ref (ad 0), .int k9, .int i9, .int la9]) ++ List.replicate (4 - (lg_sl ([.ref (ad 0), .int k9, .int i9, .int la9])).length) Slot.unset).toArray = ls at hl ⊢
  have hl : lv_has ls 4 [(0, .ref (ad 0)), (1, .int k9), (2, .int i9), (3, .int la9)] := hl
  have hf0 : ∀ c, (c ≠ 0) → en c = en c := fun _ _ => rfl
  obtain ⟨fa, hi, wd, mo, tb, dp, many, grt, lst, nou, rm, rb, pr, wo, es1144, hwd2, hwd3, hmo, htb, hwo⟩ := getr_M hI
  obtain ⟨f_1145, es1145⟩ := getr_la hI
  obtain ⟨f_1146, es1146, p0_1146⟩ := getr_sl hI
  obtain ⟨f_1147, es1147⟩ := getr_ce hI
  refine lv_aload_n hx hb dX12_at_0 rfl (lv_at hl 0 rfl) ?_
  refine lv_iconst (v := 0) hx hb dX12_at_1 (by decide) ?_
  refine hp_put hx hb hts ix12 tyX12 tyX12_ok nmX12 hown hK hh (q := 0) rfl (hI.1 _ (by decide)) es1144 rfl 0 (by decide) (hts _ tw_879) (fun _ h9 => h9) rfl (ty := .int) (by decide +kernel) rfl rfl (Nat.le_of_ble_eq_true rfl) dX12_at_2 (fun H locs en_1148 hen_1148 hh => ?_)
  have es1145_1148 : en_1148 3 = .inl (cy 0, 4, .inl f_1145) := by rw [hen_1148, va_up_ne _ _ (by decide)]; exact es1145
  have es1146_1148 : en_1148 4 = .inl (cy 0, 4, .inl f_1146) := by rw [hen_1148, va_up_ne _ _ (by decide)]; exact es1146
  have es1147_1148 : en_1148 5 = .inl (cy 0, 160, .inl f_1147) := by rw [hen_1148, va_up_ne _ _ (by decide)]; exact es1147
  have es1144_1148 : en_1148 0 = .inr (11, [.int 0, .int hi, .int (nI wd), .int (nI mo), .int (nI tb), .ref (ad 1), .ref (ad 2), .ref (ad 3), .ref (ad 4), .ref (ad 5), .ref (ad 6), .ref (ad 7), .ref (ad 8), .ref (ad 9), .int dp, .long many, .long grt, .long lst, .long nou, .ref (ad 10), .ref (ad 11), .ref (ad 12), .int rm, .long rb, .ref (ad 13), .int pr, .ref (ad 14), .ref (ad 15), .ref (ad 16), .ref (ad 17), .int (nI wo), .ref (ad 18), .ref (ad 19)]) := by rw [hen_1148]; exact va_up_self _ _ _
  have hI_1148 : RX cy cs ad en_1148 := by rw [hen_1148]; exact upr_M hI ⟨0, hi, wd, mo, tb, dp, many, grt, lst, nou, rm, rb, pr, wo, rfl, hwd2, hwd3, hmo, htb, hwo⟩
  have hf_1148 : ∀ c, (c ≠ 0) → en_1148 c = en c := fun c hc => Eq.trans (show en_1148 c = en c from by rw [hen_1148, va_up_ne _ _ (by omega)]) (hf0 c hc)
  have hkp_1148 : KP en en_1148 := KP_fv (KP_rf en) es1144 es1144_1148 hi (nI wd) (nI mo) (nI tb) pr (nI wo) rfl rfl rfl rfl rfl rfl rfl rfl rfl rfl rfl rfl
  refine lv_iload_n hx hb dX12_at_5 rfl (lv_at hl 1 rfl) ?_
  refine lv_i2l hx hb dX12_at_6 rfl ?_
  refine lv_lconst (v := 0) hx hb dX12_at_7 (by decide) ?_
  refine lv_ldc2 hx hb hown (hts _ tw_984) dX12_at_8 ?_
  refine hp_callRi (va_runS (As := [.long k9.toInt64, .long 0, .long 3]) (rest := []) ⟨hx, hb, hml, hown, hts⟩ (c_X12_within l D cy _ cs ad en_1148 k9.toInt64 0 3) (kw_X12_within hts tw_985 ⟨by decide, by decide⟩) (preS_of hh hK) rfl rfl hl.1 rfl (lv_room (Nat.le_of_ble_eq_true rfl)) dX12_at_11 ⟨Nat.le_of_ble_eq_true rfl, Nat.le_of_ble_eq_true rfl⟩) hh hA (fun r_1149 H locs hw_1149 hh => ?_)
  rcases Decidable.em (wi k9 0 3) with hp_1149 | hp_1149
  · obtain rfl : r_1149 = 1 := Eq.trans hw_1149 (if_pos ((wj_32 (by decide) (by decide)).mpr hp_1149))
    obtain ⟨N_1149, rfl, hA_1149, hB_1149⟩ := wi_natB hp_1149 0 3 (by decide) (by decide)
    refine lv_if_eq (tgt := 29) hx hb dX12_at_14 (by decide) (fun c_0 => absurd c_0 (by decide)) (fun _ => ?_)
    refine lv_iload_n hx hb dX12_at_17 rfl (lv_at hl 3 rfl) ?_
    refine lv_i2l hx hb dX12_at_18 rfl ?_
    refine lv_lconst (v := 0) hx hb dX12_at_19 (by decide) ?_
    refine lv_ldc2 hx hb hown (hts _ tw_983) dX12_at_20 ?_
    refine hp_callRi (va_runS (As := [.long la9.toInt64, .long 0, .long 2]) (rest := []) ⟨hx, hb, hml, hown, hts⟩ (c_X12_within l D cy _ cs ad en_1148 la9.toInt64 0 2) (kw_X12_within hts tw_985 ⟨by decide, by decide⟩) (preS_of hh hK) rfl rfl hl.1 rfl (lv_room (Nat.le_of_ble_eq_true rfl)) dX12_at_23 ⟨Nat.le_of_ble_eq_true rfl, Nat.le_of_ble_eq_true rfl⟩) hh hA (fun r_1150 H locs hw_1150 hh => ?_)
    rcases Decidable.em (wi la9 0 2) with hp_1150 | hp_1150
    · obtain rfl : r_1150 = 1 := Eq.trans hw_1150 (if_pos ((wj_32 (by decide) (by decide)).mpr hp_1150))
      obtain ⟨N_1150, rfl, hA_1150, hB_1150⟩ := wi_natB hp_1150 0 2 (by decide) (by decide)
      refine lv_if_ne (tgt := 33) hx hb dX12_at_26 (by decide) (fun _ => ?_) (fun c_0 => absurd c_0 (by decide))
      refine lv_aload_n hx hb dX12_at_33 rfl (lv_at hl 0 rfl) ?_
      refine hp_get hx hb hts ix12 hown hK hh (q := 0) rfl (hI.1 _ (by decide)) es1144_1148 rfl 7 (by decide) (hts _ tw_886) (fun _ h9 => h9) rfl dX12_at_34 ?_
      refine lv_iload_n hx hb dX12_at_37 rfl (lv_at hl 1 rfl) ?_
      refine hp_iald hx hb hK hh (q := 3) rfl (hI.1 _ (by decide)) es1145_1148 (vp_in_nI (n := N_1149) (by omega) (by decide)) dX12_at_38 ?_
      rw [nI_clamp (n := N_1149) (by omega)]
      refine lv_bipush (v := (-9)) hx hb dX12_at_39 (by decide) ?_
      refine lv_icmp_eq (tgt := 60) hx hb dX12_at_41 (by decide) (fun c_1151 => ?_) (fun c_1151 => ?_)
      · refine lv_aload_n hx hb dX12_at_60 rfl (lv_at hl 0 rfl) ?_
        refine hp_get hx hb hts ix12 hown hK hh (q := 0) rfl (hI.1 _ (by decide)) es1144_1148 rfl 7 (by decide) (hts _ tw_886) (fun _ h9 => h9) rfl dX12_at_61 ?_
        refine lv_iload_n hx hb dX12_at_64 rfl (lv_at hl 1 rfl) ?_
        refine hp_iald hx hb hK hh (q := 3) rfl (hI.1 _ (by decide)) es1145_1148 (vp_in_nI (n := N_1149) (by omega) (by decide)) dX12_at_65 ?_
        rw [nI_clamp (n := N_1149) (by omega)]
        refine lv_bipush (v := (-9)) hx hb dX12_at_66 (by decide) ?_
        refine lv_icmp_ne (tgt := 77) hx hb dX12_at_68 (by decide) (fun c_0 => absurd (c_1151) c_0) (fun _ => ?_)
        refine lv_aload_n hx hb dX12_at_71 rfl (lv_at hl 0 rfl) ?_
        refine lv_iconst (v := 1) hx hb dX12_at_72 (by decide) ?_
        refine hp_callMl (va_runV (As := [.int 1]) (rest := []) ⟨hx, hb, hml, hown, hts⟩ (c_X12_lost l D cy _ cs ad en_1148 (hI.1 _ (by decide)) 0 hi wd mo tb dp many grt lst nou rm rb pr wo 1 es1144_1148) (kw_X12_lost hts tw_1215 ⟨by decide, by decide⟩) (preV_of hh hK (hI.1 _ (by decide)) es1144_1148 rfl) rfl rfl hl.1 rfl (lv_room (Nat.le_of_ble_eq_true rfl)) dX12_at_73 ⟨Nat.le_of_ble_eq_true rfl, Nat.le_of_ble_eq_true rfl⟩) hh hA (fun r_1152 H locs en_1152 hw_1152 hh => ?_)
        obtain ⟨hr_1152, hen_1152⟩ := hw_1152
        have es1145_1152 : en_1152 3 = .inl (cy 0, 4, .inl f_1145) := by rw [hen_1152, va_up_ne _ _ (by decide)]; exact es1145_1148
        have es1146_1152 : en_1152 4 = .inl (cy 0, 4, .inl f_1146) := by rw [hen_1152, va_up_ne _ _ (by decide)]; exact es1146_1148
        have es1147_1152 : en_1152 5 = .inl (cy 0, 160, .inl f_1147) := by rw [hen_1152, va_up_ne _ _ (by decide)]; exact es1147_1148
        have es1144_1152 : en_1152 0 = .inr (11, [.int 1, .int hi, .int (nI wd), .int (nI mo), .int (nI tb), .ref (ad 1), .ref (ad 2), .ref (ad 3), .ref (ad 4), .ref (ad 5), .ref (ad 6), .ref (ad 7), .ref (ad 8), .ref (ad 9), .int dp, .long many, .long grt, .long lst, .long nou, .ref (ad 10), .ref (ad 11), .ref (ad 12), .int rm, .long rb, .ref (ad 13), .int pr, .ref (ad 14), .ref (ad 15), .ref (ad 16), .ref (ad 17), .int (nI wo), .ref (ad 18), .ref (ad 19)]) := by rw [hen_1152]; exact va_up_self _ _ _
        have hI_1152 : RX cy cs ad en_1152 := by rw [hen_1152]; exact upr_M hI_1148 ⟨1, hi, wd, mo, tb, dp, many, grt, lst, nou, rm, rb, pr, wo, rfl, hwd2, hwd3, hmo, htb, hwo⟩
        have hf_1152 : ∀ c, (c ≠ 0) → en_1152 c = en c := fun c hc => Eq.trans (show en_1152 c = en_1148 c from by rw [hen_1152, va_up_ne _ _ (by omega)]) (hf_1148 c hc)
        have hkp_1152 : KP en en_1152 := KP_fv hkp_1148 es1144_1148 es1144_1152 hi (nI wd) (nI mo) (nI tb) pr (nI wo) rfl rfl rfl rfl rfl rfl rfl rfl rfl rfl rfl rfl
        obtain rfl : r_1152 = (-9223372036854775808) := hr_1152
        exact hp_lretM hx hb hr hlocks hh (⟨hI_1152, hf_1152, (by unfold RAT; (try rw [nI_clamp (n := N_1149) (by omega)]); rw [show rdF (en 3) = f_1145 from by rw [es1145]; rfl, show rdF (en 4) = f_1146 from by rw [es1146]; rfl]; unfold atR; rw [if_pos ⟨hp_1149, hp_1150⟩, if_neg (fun q => q.1 c_1151), if_pos c_1151]), hkp_1152⟩) dX12_at_76
      · refine lv_aload_n hx hb dX12_at_44 rfl (lv_at hl 0 rfl) ?_
        refine hp_get hx hb hts ix12 hown hK hh (q := 0) rfl (hI.1 _ (by decide)) es1144_1148 rfl 7 (by decide) (hts _ tw_886) (fun _ h9 => h9) rfl dX12_at_45 ?_
        refine lv_iload_n hx hb dX12_at_48 rfl (lv_at hl 1 rfl) ?_
        refine hp_iald hx hb hK hh (q := 3) rfl (hI.1 _ (by decide)) es1145_1148 (vp_in_nI (n := N_1149) (by omega) (by decide)) dX12_at_49 ?_
        rw [nI_clamp (n := N_1149) (by omega)]
        refine lv_iload_n hx hb dX12_at_50 rfl (lv_at hl 3 rfl) ?_
        refine lv_icmp_eq (tgt := 60) hx hb dX12_at_51 (by decide) (fun c_1153 => ?_) (fun c_1153 => ?_)
        · refine lv_aload_n hx hb dX12_at_60 rfl (lv_at hl 0 rfl) ?_
          refine hp_get hx hb hts ix12 hown hK hh (q := 0) rfl (hI.1 _ (by decide)) es1144_1148 rfl 7 (by decide) (hts _ tw_886) (fun _ h9 => h9) rfl dX12_at_61 ?_
          refine lv_iload_n hx hb dX12_at_64 rfl (lv_at hl 1 rfl) ?_
          refine hp_iald hx hb hK hh (q := 3) rfl (hI.1 _ (by decide)) es1145_1148 (vp_in_nI (n := N_1149) (by omega) (by decide)) dX12_at_65 ?_
          rw [nI_clamp (n := N_1149) (by omega)]
          refine lv_bipush (v := (-9)) hx hb dX12_at_66 (by decide) ?_
          refine lv_icmp_ne (tgt := 77) hx hb dX12_at_68 (by decide) (fun _ => ?_) (fun c_0 => absurd c_0 (c_1151))
          refine lv_iload_n hx hb dX12_at_77 rfl (lv_at hl 2 rfl) ?_
          refine lv_i2l hx hb dX12_at_78 rfl ?_
          refine lv_lconst (v := 0) hx hb dX12_at_79 (by decide) ?_
          refine lv_aload_n hx hb dX12_at_80 rfl (lv_at hl 0 rfl) ?_
          refine hp_get hx hb hts ix12 hown hK hh (q := 0) rfl (hI.1 _ (by decide)) es1144_1148 rfl 8 (by decide) (hts _ tw_887) (fun _ h9 => h9) rfl dX12_at_81 ?_
          refine lv_iload_n hx hb dX12_at_84 rfl (lv_at hl 1 rfl) ?_
          refine hp_iald hx hb hK hh (q := 4) rfl (hI.1 _ (by decide)) es1146_1148 (vp_in_nI (n := N_1149) (by omega) (by decide)) dX12_at_85 ?_
          rw [nI_clamp (n := N_1149) (by omega)]
          obtain ⟨v_1154, hv_1154, hfv_1154⟩ := p0_1146 N_1149 (by omega)
          rw [hfv_1154]
          refine lv_i2l hx hb dX12_at_86 rfl ?_
          refine lv_lconst (v := 1) hx hb dX12_at_87 (by decide) ?_
          refine lv_lsub hx hb dX12_at_88 ?_
          refine hp_callRi (va_runS (As := [.long i9.toInt64, .long 0, .long ((nI v_1154).toInt64 - 1)]) (rest := []) ⟨hx, hb, hml, hown, hts⟩ (c_X12_within l D cy _ cs ad en_1148 i9.toInt64 0 ((nI v_1154).toInt64 - 1)) (kw_X12_within hts tw_985 ⟨by decide, by decide⟩) (preS_of hh hK) rfl rfl hl.1 rfl (lv_room (Nat.le_of_ble_eq_true rfl)) dX12_at_89 ⟨Nat.le_of_ble_eq_true rfl, Nat.le_of_ble_eq_true rfl⟩) hh hA (fun r_1155 H locs hw_1155 hh => ?_)
          rcases Decidable.em (0 ≤ i9.toInt ∧ i9.toInt < (v_1154 : Int)) with hp_1155 | hp_1155
          · obtain rfl : r_1155 = 1 := Eq.trans hw_1155 (if_pos ((wj_m1 (by omega)).mpr hp_1155))
            obtain ⟨N_1155, rfl, hB_1155⟩ := has_nat hp_1155
            refine lv_if_ne (tgt := 101) hx hb dX12_at_92 (by decide) (fun _ => ?_) (fun c_0 => absurd c_0 (by decide))
            refine lv_aload_n hx hb dX12_at_101 rfl (lv_at hl 0 rfl) ?_
            refine hp_get hx hb hts ix12 hown hK hh (q := 0) rfl (hI.1 _ (by decide)) es1144_1148 rfl 9 (by decide) (hts _ tw_888) (fun _ h9 => h9) rfl dX12_at_102 ?_
            refine lv_bipush (v := 40) hx hb dX12_at_105 (by decide) ?_
            refine lv_iload_n hx hb dX12_at_107 rfl (lv_at hl 1 rfl) ?_
            refine lv_imul hx hb dX12_at_108 ?_
            rw [show (40 : Int32) = nI 40 from rfl, pk_mul 40 N_1149]
            refine lv_iload_n hx hb dX12_at_109 rfl (lv_at hl 2 rfl) ?_
            refine lv_iadd hx hb dX12_at_110 ?_
            rw [nI_add (40 * N_1149) N_1155]
            refine hp_iald hx hb hK hh (q := 5) rfl (hI.1 _ (by decide)) es1147_1148 (vp_in_nI (n := ((40 * N_1149) + N_1155)) (by omega) (by decide)) dX12_at_111 ?_
            rw [nI_clamp (n := ((40 * N_1149) + N_1155)) (by omega)]
            refine lv_i2l hx hb dX12_at_112 rfl ?_
            exact hp_lretM hx hb hr hlocks hh (⟨hI_1148, hf_1148, (by unfold RAT; (try rw [nI_clamp (n := N_1149) (by omega)]); rw [show rdF (en 3) = f_1145 from by rw [es1145]; rfl, show rdF (en 4) = f_1146 from by rw [es1146]; rfl]; unfold atR; rw [if_pos ⟨hp_1149, hp_1150⟩, if_neg (fun q => q.2 c_1153), if_neg c_1151, hfv_1154, nI_toInt (n := v_1154) (by omega), if_pos hp_1155, nI_clamp (n := N_1155) (by omega), show rdF (en 5) = f_1147 from by rw [es1147]; rfl]), hkp_1148⟩) dX12_at_113
          · obtain rfl : r_1155 = 0 := Eq.trans hw_1155 (if_neg (fun q => hp_1155 ((wj_m1 (by omega)).mp q)))
            refine lv_if_ne (tgt := 101) hx hb dX12_at_92 (by decide) (fun c_0 => absurd c_0 (by decide)) (fun _ => ?_)
            refine lv_aload_n hx hb dX12_at_95 rfl (lv_at hl 0 rfl) ?_
            refine lv_iconst (v := 3) hx hb dX12_at_96 (by decide) ?_
            refine hp_callMl (va_runV (As := [.int 3]) (rest := []) ⟨hx, hb, hml, hown, hts⟩ (c_X12_lost l D cy _ cs ad en_1148 (hI.1 _ (by decide)) 0 hi wd mo tb dp many grt lst nou rm rb pr wo 3 es1144_1148) (kw_X12_lost hts tw_1215 ⟨by decide, by decide⟩) (preV_of hh hK (hI.1 _ (by decide)) es1144_1148 rfl) rfl rfl hl.1 rfl (lv_room (Nat.le_of_ble_eq_true rfl)) dX12_at_97 ⟨Nat.le_of_ble_eq_true rfl, Nat.le_of_ble_eq_true rfl⟩) hh hA (fun r_1156 H locs en_1156 hw_1156 hh => ?_)
            obtain ⟨hr_1156, hen_1156⟩ := hw_1156
            have es1145_1156 : en_1156 3 = .inl (cy 0, 4, .inl f_1145) := by rw [hen_1156, va_up_ne _ _ (by decide)]; exact es1145_1148
            have es1146_1156 : en_1156 4 = .inl (cy 0, 4, .inl f_1146) := by rw [hen_1156, va_up_ne _ _ (by decide)]; exact es1146_1148
            have es1147_1156 : en_1156 5 = .inl (cy 0, 160, .inl f_1147) := by rw [hen_1156, va_up_ne _ _ (by decide)]; exact es1147_1148
            have es1144_1156 : en_1156 0 = .inr (11, [.int 3, .int hi, .int (nI wd), .int (nI mo), .int (nI tb), .ref (ad 1), .ref (ad 2), .ref (ad 3), .ref (ad 4), .ref (ad 5), .ref (ad 6), .ref (ad 7), .ref (ad 8), .ref (ad 9), .int dp, .long many, .long grt, .long lst, .long nou, .ref (ad 10), .ref (ad 11), .ref (ad 12), .int rm, .long rb, .ref (ad 13), .int pr, .ref (ad 14), .ref (ad 15), .ref (ad 16), .ref (ad 17), .int (nI wo), .ref (ad 18), .ref (ad 19)]) := by rw [hen_1156]; exact va_up_self _ _ _
            have hI_1156 : RX cy cs ad en_1156 := by rw [hen_1156]; exact upr_M hI_1148 ⟨3, hi, wd, mo, tb, dp, many, grt, lst, nou, rm, rb, pr, wo, rfl, hwd2, hwd3, hmo, htb, hwo⟩
            have hf_1156 : ∀ c, (c ≠ 0) → en_1156 c = en c := fun c hc => Eq.trans (show en_1156 c = en_1148 c from by rw [hen_1156, va_up_ne _ _ (by omega)]) (hf_1148 c hc)
            have hkp_1156 : KP en en_1156 := KP_fv hkp_1148 es1144_1148 es1144_1156 hi (nI wd) (nI mo) (nI tb) pr (nI wo) rfl rfl rfl rfl rfl rfl rfl rfl rfl rfl rfl rfl
            obtain rfl : r_1156 = (-9223372036854775808) := hr_1156
            exact hp_lretM hx hb hr hlocks hh (⟨hI_1156, hf_1156, (by unfold RAT; (try rw [nI_clamp (n := N_1149) (by omega)]); rw [show rdF (en 3) = f_1145 from by rw [es1145]; rfl, show rdF (en 4) = f_1146 from by rw [es1146]; rfl]; unfold atR; rw [if_pos ⟨hp_1149, hp_1150⟩, if_neg (fun q => q.2 c_1153), if_neg c_1151, hfv_1154, nI_toInt (n := v_1154) (by omega), if_neg hp_1155]), hkp_1156⟩) dX12_at_100
        · refine lv_aload_n hx hb dX12_at_54 rfl (lv_at hl 0 rfl) ?_
          refine lv_iconst (v := 2) hx hb dX12_at_55 (by decide) ?_
          refine hp_callMl (va_runV (As := [.int 2]) (rest := []) ⟨hx, hb, hml, hown, hts⟩ (c_X12_lost l D cy _ cs ad en_1148 (hI.1 _ (by decide)) 0 hi wd mo tb dp many grt lst nou rm rb pr wo 2 es1144_1148) (kw_X12_lost hts tw_1215 ⟨by decide, by decide⟩) (preV_of hh hK (hI.1 _ (by decide)) es1144_1148 rfl) rfl rfl hl.1 rfl (lv_room (Nat.le_of_ble_eq_true rfl)) dX12_at_56 ⟨Nat.le_of_ble_eq_true rfl, Nat.le_of_ble_eq_true rfl⟩) hh hA (fun r_1157 H locs en_1157 hw_1157 hh => ?_)
          obtain ⟨hr_1157, hen_1157⟩ := hw_1157
          have es1145_1157 : en_1157 3 = .inl (cy 0, 4, .inl f_1145) := by rw [hen_1157, va_up_ne _ _ (by decide)]; exact es1145_1148
          have es1146_1157 : en_1157 4 = .inl (cy 0, 4, .inl f_1146) := by rw [hen_1157, va_up_ne _ _ (by decide)]; exact es1146_1148
          have es1147_1157 : en_1157 5 = .inl (cy 0, 160, .inl f_1147) := by rw [hen_1157, va_up_ne _ _ (by decide)]; exact es1147_1148
          have es1144_1157 : en_1157 0 = .inr (11, [.int 2, .int hi, .int (nI wd), .int (nI mo), .int (nI tb), .ref (ad 1), .ref (ad 2), .ref (ad 3), .ref (ad 4), .ref (ad 5), .ref (ad 6), .ref (ad 7), .ref (ad 8), .ref (ad 9), .int dp, .long many, .long grt, .long lst, .long nou, .ref (ad 10), .ref (ad 11), .ref (ad 12), .int rm, .long rb, .ref (ad 13), .int pr, .ref (ad 14), .ref (ad 15), .ref (ad 16), .ref (ad 17), .int (nI wo), .ref (ad 18), .ref (ad 19)]) := by rw [hen_1157]; exact va_up_self _ _ _
          have hI_1157 : RX cy cs ad en_1157 := by rw [hen_1157]; exact upr_M hI_1148 ⟨2, hi, wd, mo, tb, dp, many, grt, lst, nou, rm, rb, pr, wo, rfl, hwd2, hwd3, hmo, htb, hwo⟩
          have hf_1157 : ∀ c, (c ≠ 0) → en_1157 c = en c := fun c hc => Eq.trans (show en_1157 c = en_1148 c from by rw [hen_1157, va_up_ne _ _ (by omega)]) (hf_1148 c hc)
          have hkp_1157 : KP en en_1157 := KP_fv hkp_1148 es1144_1148 es1144_1157 hi (nI wd) (nI mo) (nI tb) pr (nI wo) rfl rfl rfl rfl rfl rfl rfl rfl rfl rfl rfl rfl
          obtain rfl : r_1157 = (-9223372036854775808) := hr_1157
          exact hp_lretM hx hb hr hlocks hh (⟨hI_1157, hf_1157, (by unfold RAT; (try rw [nI_clamp (n := N_1149) (by omega)]); rw [show rdF (en 3) = f_1145 from by rw [es1145]; rfl, show rdF (en 4) = f_1146 from by rw [es1146]; rfl]; unfold atR; rw [if_pos ⟨hp_1149, hp_1150⟩, if_pos ⟨c_1151, c_1153⟩]), hkp_1157⟩) dX12_at_59
    · obtain rfl : r_1150 = 0 := Eq.trans hw_1150 (if_neg (fun q => hp_1150 ((wj_32 (by decide) (by decide)).mp q)))
      refine lv_if_ne (tgt := 33) hx hb dX12_at_26 (by decide) (fun c_0 => absurd c_0 (by decide)) (fun _ => ?_)
      refine lv_ldc2 hx hb hown (hts _ tw_1015) dX12_at_29 ?_
      exact hp_lretM hx hb hr hlocks hh (⟨hI_1148, hf_1148, (by unfold RAT atR; rw [if_neg (fun q => hp_1150 q.2)]), hkp_1148⟩) dX12_at_32
  · obtain rfl : r_1149 = 0 := Eq.trans hw_1149 (if_neg (fun q => hp_1149 ((wj_32 (by decide) (by decide)).mp q)))
    refine lv_if_eq (tgt := 29) hx hb dX12_at_14 (by decide) (fun _ => ?_) (fun c_0 => absurd c_0 (by decide))
    refine lv_ldc2 hx hb hown (hts _ tw_1015) dX12_at_29 ?_
    exact hp_lretM hx hb hr hlocks hh (⟨hI_1148, hf_1148, (by unfold RAT atR; rw [if_neg (fun q => hp_1149 q.1)]), hkp_1148⟩) dX12_at_32
theorem kw_X12_at {R : Room} {s : State} {args : Array Value} {own : String} {idx : Nat} (hts : ∀ w ∈ TB, w.before args s = true) (hl : Cond.methodLink own idx yX12_at ∈ TB) (hR : 1 + 1 ≤ R.frames ∧ 8 + (4 + 11) + 40 * 1 ≤ R.locals) : CallW R s args own RX12 idx yX12_at cX12_at 4 (some .long) (Cond.code yX12_at cX12_at 4 (some .long) :: TB) (rmN 1) 0 0 3 := cwV 3 hts (TB_V hl tw_1212 tw_1213 tw_9 tw_1214) rfl rfl rfl (by decide +kernel) hR
set_option maxHeartbeats 4000000 in
set_option maxRecDepth 100000 in
/-- kindOf -/
theorem c_X12_kindOf (l : Launch) (D : va_G) (cy : Nat → ClassId) (sz : Nat) (cs : List Nat) (ad : Nat → Nat) (en : Nat → va_E) (hI : RX cy cs ad en) (t : Nat) (ht6 : t < 6)   : Met l yX12_kindOf (Cond.code yX12_kindOf cX12_kindOf 9 (some .int) :: TB) (rmN 0) (va_Pc [.ref (ad 0), .int (nI t)] (Pre D cy cs ad en sz)) (va_Qi (S := Unit) (fun r _ => RKD (fun i => rdF (en 1) (9 * t + i)) (rdI (en 0) 2).toNatClampNeg r) (fun _ _ => True) (Nf sz)) 0 0 (Nf sz) := by
  refine Met.ofW (cc := cX12_kindOf) (maxL := 9) (ret := (some .int)) (by decide) rfl ?_
  intro p e s m args below meth c s₁ B hml hv
  obtain ⟨rfl, hsz, hP, hK, hD0⟩ := hv
  have hx := B.exec
  have hb := B.bytes
  have hr := B.returns
  have hts : ∀ w ∈ TB, w.before _ s = true := fun w h => atoms_spec (ws := _ :: TB) B.pre w (List.mem_cons_of_mem _ h)
  have hown : s.vm.findClass RX12 = some m.cls := findClass_of_methodNamed B.named
  have hlocks := B.notSynchronized
  have hh : Hp D (Nf sz) (fun _ => True) s.heap s.heap [] cs ad en := ⟨hP, hD0, va_S.rf⟩
  have hA : ∀ q : Nat, s.heap.size ≤ q → Nf sz q := fun q h => by rw [hsz] at h; exact h
  have hl := lv_entry ([.ref (ad 0), .int (nI t)]) (n := 9) (Nat.le_of_ble_eq_true rfl)
  rw [lg_entry_eq]
  generalize (lg_sl ([.ref (ad 0), .int (nI t)]) ++ List.replicate (9 - (lg_sl ([.ref (ad 0), .int (nI t)])).length) Slot.unset).toArray = ls at hl ⊢
  have hl : lv_has ls 9 [(0, .ref (ad 0)), (1, .int (nI t))] := hl
  obtain ⟨fa, hi, wd, mo, tb, dp, many, grt, lst, nou, rm, rb, pr, wo, es1158, hwd2, hwd3, hmo, htb, hwo⟩ := getr_M hI
  obtain ⟨f_1159, es1159⟩ := getr_E hI
  refine lv_iconst (v := 1) hx hb dX12_kindOf_0 (by decide) ?_
  refine lv_istore_n (lv' := [(2, .int 1), (0, .ref (ad 0)), (1, .int (nI t))]) hx hb dX12_kindOf_1 rfl hl (by decide) rfl (fun ls hl => ?_)
  refine lv_iconst (v := 1) hx hb dX12_kindOf_2 (by decide) ?_
  refine lv_istore_n (lv' := [(3, .int 1), (2, .int 1), (0, .ref (ad 0)), (1, .int (nI t))]) hx hb dX12_kindOf_3 rfl hl (by decide) rfl (fun ls hl => ?_)
  refine lv_iconst (v := 0) hx hb dX12_kindOf_4 (by decide) ?_
  refine lv_istore (lv' := [(4, .int 0), (3, .int 1), (2, .int 1), (0, .ref (ad 0)), (1, .int (nI t))]) hx hb dX12_kindOf_5 hl (by decide) rfl (fun ls hl => ?_)
  have loop_1160 : ∀ (fu j1160 : Nat) (ev1160 : Int32) (sh1160 : Int32)  (ls : Array Slot) (H : Heap) (locs : List Loc), 0 ≤ j1160 → j1160 ≤ wd → wd < j1160 + fu →  (bI ev1160 (evU (fun i => rdF (en 1) (9 * t + i)) wd j1160 0) ∧ bI sh1160 (zoU (fun i => rdF (en 1) (9 * t + i)) wd j1160 0 ∧ suU (fun i => rdF (en 1) (9 * t + i)) wd j1160)) → lv_has ls 9 [(4, .int (nI j1160)), (3, .int sh1160), (2, .int ev1160), (0, .ref (ad 0)), (1, .int (nI t))] → Hp D (Nf sz) (fun _ => True) s.heap H locs cs ad en → W p l e (headSpec (Cond.code yX12_kindOf cX12_kindOf 9 (some .int) :: TB) (rmN 0)).room s m ([.ref (ad 0), .int (nI t)] : List Value).toArray below meth c H locs 0 0 (MQ below (va_Qi (S := Unit) (fun r _ => RKD (fun i => rdF (en 1) (9 * t + i)) (rdI (en 0) 2).toNatClampNeg r) (fun _ _ => True) (Nf sz)) ([.ref (ad 0), .int (nI t)] : List Value).toArray s 0 0 (Nf sz)) (F0 m 7 ls []) := by
    intro fu
    induction fu with
    | zero => intro j1160 ev1160 sh1160 ls H locs h0 h1 h2; exact absurd h2 (by omega)
    | succ fu ih_1160 =>
      intro j1160 ev1160 sh1160 ls H locs hj0_1160 hj_1160 hfu_1160 i0_1160 hl hh
      refine lv_iload hx hb dX12_kindOf_7 (lv_at hl 0 rfl) ?_
      refine lv_aload_n hx hb dX12_kindOf_9 rfl (lv_at hl 3 rfl) ?_
      refine hp_get hx hb hts ix12 hown hK hh (q := 0) rfl (hI.1 _ (by decide)) es1158 rfl 2 (by decide) (hts _ tw_881) (fun _ h9 => h9) rfl dX12_kindOf_10 ?_
      refine lv_icmp_ge (tgt := 152) hx hb dX12_kindOf_13 (by decide) (fun c_1161 => ?_) (fun c_1161 => ?_)
      · have n_1161 : wd ≤ j1160 := n_le (a := wd) (b := j1160) c_1161 (by omega) (by omega)
        refine lv_iload_n hx hb dX12_kindOf_152 rfl (lv_at hl 1 rfl) ?_
        refine lv_if_eq (tgt := 160) hx hb dX12_kindOf_153 (by decide) (fun c_1162 => ?_) (fun c_1162 => ?_)
        · refine lv_iload_n hx hb dX12_kindOf_160 rfl (lv_at hl 2 rfl) ?_
          refine lv_if_eq (tgt := 168) hx hb dX12_kindOf_161 (by decide) (fun c_1163 => ?_) (fun c_1163 => ?_)
          · refine lv_iconst (v := 0) hx hb dX12_kindOf_168 (by decide) ?_
            exact hp_iretR hx hb hr rfl hlocks hsz hh ((by rw [show rdI (en 0) 2 = nI wd from by rw [es1158]; rfl, nI_clamp (n := wd) (by omega)]; have e9 : j1160 = wd := (by omega); rw [e9] at i0_1160; exact Or.inr (Or.inr ⟨rfl, bI_f i0_1160.2 c_1162, bI_f i0_1160.1 c_1163⟩))) dX12_kindOf_169
          · refine lv_iconst (v := 1) hx hb dX12_kindOf_164 (by decide) ?_
            refine lv_goto (tgt := 169) hx hb dX12_kindOf_165 (by decide) ?_
            exact hp_iretR hx hb hr rfl hlocks hsz hh ((by rw [show rdI (en 0) 2 = nI wd from by rw [es1158]; rfl, nI_clamp (n := wd) (by omega)]; have e9 : j1160 = wd := (by omega); rw [e9] at i0_1160; exact Or.inr (Or.inl ⟨rfl, bI_f i0_1160.2 c_1162, bI_t i0_1160.1 c_1163⟩))) dX12_kindOf_169
        · refine lv_iconst (v := 2) hx hb dX12_kindOf_156 (by decide) ?_
          refine lv_goto (tgt := 169) hx hb dX12_kindOf_157 (by decide) ?_
          exact hp_iretR hx hb hr rfl hlocks hsz hh ((by rw [show rdI (en 0) 2 = nI wd from by rw [es1158]; rfl, nI_clamp (n := wd) (by omega)]; have e9 : j1160 = wd := (by omega); rw [e9] at i0_1160; exact Or.inl ⟨rfl, bI_t i0_1160.2 c_1162⟩)) dX12_kindOf_169
      · have n_1161 : j1160 < wd := n_nle (a := wd) (b := j1160) c_1161 (by omega) (by omega)
        refine lv_iconst (v := 0) hx hb dX12_kindOf_16 (by decide) ?_
        refine lv_istore (lv' := [(5, .int 0), (4, .int (nI j1160)), (3, .int sh1160), (2, .int ev1160), (0, .ref (ad 0)), (1, .int (nI t))]) hx hb dX12_kindOf_17 hl (by decide) rfl (fun ls hl => ?_)
        refine lv_iconst (v := 0) hx hb dX12_kindOf_19 (by decide) ?_
        refine lv_istore (lv' := [(6, .int 0), (5, .int 0), (4, .int (nI j1160)), (3, .int sh1160), (2, .int ev1160), (0, .ref (ad 0)), (1, .int (nI t))]) hx hb dX12_kindOf_20 hl (by decide) rfl (fun ls hl => ?_)
        refine lv_iconst (v := 0) hx hb dX12_kindOf_22 (by decide) ?_
        refine lv_istore (lv' := [(7, .int 0), (6, .int 0), (5, .int 0), (4, .int (nI j1160)), (3, .int sh1160), (2, .int ev1160), (0, .ref (ad 0)), (1, .int (nI t))]) hx hb dX12_kindOf_23 hl (by decide) rfl (fun ls hl => ?_)
        have loop_1164 : ∀ (fu j1164 : Nat) (ev1164 : Int32) (sh1164 : Int32) (ir1164 : Int32) (ic1164 : Int32)  (ls : Array Slot) (H : Heap) (locs : List Loc), 0 ≤ j1164 → j1164 ≤ wd → wd < j1164 + fu →  (bI ev1164 (evU (fun i => rdF (en 1) (9 * t + i)) wd j1160 j1164) ∧ bI sh1164 (zoU (fun i => rdF (en 1) (9 * t + i)) wd j1160 j1164 ∧ suU (fun i => rdF (en 1) (9 * t + i)) wd j1160) ∧ ir1164 = sumI (fun z => rdF (en 1) (9 * t + (wd * j1160 + z))) j1164 ∧ ic1164 = sumI (fun z => rdF (en 1) (9 * t + (wd * z + j1160))) j1164) → lv_has ls 9 [(7, .int (nI j1164)), (6, .int ic1164), (5, .int ir1164), (4, .int (nI j1160)), (3, .int sh1164), (2, .int ev1164), (0, .ref (ad 0)), (1, .int (nI t))] → Hp D (Nf sz) (fun _ => True) s.heap H locs cs ad en → W p l e (headSpec (Cond.code yX12_kindOf cX12_kindOf 9 (some .int) :: TB) (rmN 0)).room s m ([.ref (ad 0), .int (nI t)] : List Value).toArray below meth c H locs 0 0 (MQ below (va_Qi (S := Unit) (fun r _ => RKD (fun i => rdF (en 1) (9 * t + i)) (rdI (en 0) 2).toNatClampNeg r) (fun _ _ => True) (Nf sz)) ([.ref (ad 0), .int (nI t)] : List Value).toArray s 0 0 (Nf sz)) (F0 m 25 ls []) := by
          intro fu
          induction fu with
          | zero => intro j1164 ev1164 sh1164 ir1164 ic1164 ls H locs h0 h1 h2; exact absurd h2 (by omega)
          | succ fu ih_1164 =>
            intro j1164 ev1164 sh1164 ir1164 ic1164 ls H locs hj0_1164 hj_1164 hfu_1164 i0_1164 hl hh
            refine lv_iload hx hb dX12_kindOf_25 (lv_at hl 0 rfl) ?_
            refine lv_aload_n hx hb dX12_kindOf_27 rfl (lv_at hl 6 rfl) ?_
            refine hp_get hx hb hts ix12 hown hK hh (q := 0) rfl (hI.1 _ (by decide)) es1158 rfl 2 (by decide) (hts _ tw_881) (fun _ h9 => h9) rfl dX12_kindOf_28 ?_
            refine lv_icmp_ge (tgt := 126) hx hb dX12_kindOf_31 (by decide) (fun c_1165 => ?_) (fun c_1165 => ?_)
            · have n_1165 : wd ≤ j1164 := n_le (a := wd) (b := j1164) c_1165 (by omega) (by omega)
              refine lv_iload_n hx hb dX12_kindOf_126 rfl (lv_at hl 4 rfl) ?_
              refine lv_iload hx hb dX12_kindOf_127 (lv_at hl 2 rfl) ?_
              refine lv_iconst (v := 1) hx hb dX12_kindOf_129 (by decide) ?_
              refine lv_icmp_ne (tgt := 143) hx hb dX12_kindOf_130 (by decide) (fun c_1166 => ?_) (fun c_1166 => ?_)
              · refine lv_iconst (v := 0) hx hb dX12_kindOf_143 (by decide) ?_
                refine lv_iand hx hb dX12_kindOf_144 ?_
                refine lv_istore_n (lv' := [(3, .int (sh1164 &&& 0)), (7, .int (nI j1164)), (6, .int ic1164), (5, .int ir1164), (4, .int (nI j1160)), (2, .int ev1164), (0, .ref (ad 0)), (1, .int (nI t))]) hx hb dX12_kindOf_145 rfl hl (by decide) rfl (fun ls hl => ?_)
                refine lv_iinc (v := (nI (j1160 + 1))) (lv' := [(4, .int (nI (j1160 + 1))), (3, .int (sh1164 &&& 0)), (7, .int (nI j1164)), (6, .int ic1164), (5, .int ir1164), (2, .int ev1164), (0, .ref (ad 0)), (1, .int (nI t))]) hx hb dX12_kindOf_146 hl (k := 4) rfl (nI_1 _) (by decide) rfl (fun ls hl => ?_)
                refine lv_goto (tgt := 7) hx hb dX12_kindOf_149 (by decide) ?_
                exact ih_1160 ((j1160 + 1)) ev1164 (sh1164 &&& 0) ls H locs (by omega) (by omega) (by omega) ((by have e9 : j1164 = wd := (by omega); rw [e9] at i0_1164; exact ⟨evU_o i0_1164.1, shU_o0 i0_1164.2.1 i0_1164.2.2.1 i0_1164.2.2.2 (fun q => c_1166 q.1)⟩)) (lv_sub hl [0, 1, 5, 6, 7] rfl) hh
              · refine lv_iload hx hb dX12_kindOf_133 (lv_at hl 1 rfl) ?_
                refine lv_iconst (v := 1) hx hb dX12_kindOf_135 (by decide) ?_
                refine lv_icmp_ne (tgt := 143) hx hb dX12_kindOf_136 (by decide) (fun c_1167 => ?_) (fun c_1167 => ?_)
                · refine lv_iconst (v := 0) hx hb dX12_kindOf_143 (by decide) ?_
                  refine lv_iand hx hb dX12_kindOf_144 ?_
                  refine lv_istore_n (lv' := [(3, .int (sh1164 &&& 0)), (7, .int (nI j1164)), (6, .int ic1164), (5, .int ir1164), (4, .int (nI j1160)), (2, .int ev1164), (0, .ref (ad 0)), (1, .int (nI t))]) hx hb dX12_kindOf_145 rfl hl (by decide) rfl (fun ls hl => ?_)
                  refine lv_iinc (v := (nI (j1160 + 1))) (lv' := [(4, .int (nI (j1160 + 1))), (3, .int (sh1164 &&& 0)), (7, .int (nI j1164)), (6, .int ic1164), (5, .int ir1164), (2, .int ev1164), (0, .ref (ad 0)), (1, .int (nI t))]) hx hb dX12_kindOf_146 hl (k := 4) rfl (nI_1 _) (by decide) rfl (fun ls hl => ?_)
                  refine lv_goto (tgt := 7) hx hb dX12_kindOf_149 (by decide) ?_
                  exact ih_1160 ((j1160 + 1)) ev1164 (sh1164 &&& 0) ls H locs (by omega) (by omega) (by omega) ((by have e9 : j1164 = wd := (by omega); rw [e9] at i0_1164; exact ⟨evU_o i0_1164.1, shU_o0 i0_1164.2.1 i0_1164.2.2.1 i0_1164.2.2.2 (fun q => c_1167 q.2)⟩)) (lv_sub hl [0, 1, 5, 6, 7] rfl) hh
                · refine lv_iconst (v := 1) hx hb dX12_kindOf_139 (by decide) ?_
                  refine lv_goto (tgt := 144) hx hb dX12_kindOf_140 (by decide) ?_
                  refine lv_iand hx hb dX12_kindOf_144 ?_
                  refine lv_istore_n (lv' := [(3, .int (sh1164 &&& 1)), (7, .int (nI j1164)), (6, .int ic1164), (5, .int ir1164), (4, .int (nI j1160)), (2, .int ev1164), (0, .ref (ad 0)), (1, .int (nI t))]) hx hb dX12_kindOf_145 rfl hl (by decide) rfl (fun ls hl => ?_)
                  refine lv_iinc (v := (nI (j1160 + 1))) (lv' := [(4, .int (nI (j1160 + 1))), (3, .int (sh1164 &&& 1)), (7, .int (nI j1164)), (6, .int ic1164), (5, .int ir1164), (2, .int ev1164), (0, .ref (ad 0)), (1, .int (nI t))]) hx hb dX12_kindOf_146 hl (k := 4) rfl (nI_1 _) (by decide) rfl (fun ls hl => ?_)
                  refine lv_goto (tgt := 7) hx hb dX12_kindOf_149 (by decide) ?_
                  exact ih_1160 ((j1160 + 1)) ev1164 (sh1164 &&& 1) ls H locs (by omega) (by omega) (by omega) ((by have e9 : j1164 = wd := (by omega); rw [e9] at i0_1164; exact ⟨evU_o i0_1164.1, shU_o1 i0_1164.2.1 i0_1164.2.2.1 i0_1164.2.2.2 c_1166 c_1167⟩)) (lv_sub hl [0, 1, 5, 6, 7] rfl) hh
            · have n_1165 : j1164 < wd := n_nle (a := wd) (b := j1164) c_1165 (by omega) (by omega)
              refine lv_aload_n hx hb dX12_kindOf_34 rfl (lv_at hl 6 rfl) ?_
              refine hp_get hx hb hts ix12 hown hK hh (q := 0) rfl (hI.1 _ (by decide)) es1158 rfl 5 (by decide) (hts _ tw_884) (fun _ h9 => h9) rfl dX12_kindOf_35 ?_
              refine lv_bipush (v := 9) hx hb dX12_kindOf_38 (by decide) ?_
              refine lv_iload_n hx hb dX12_kindOf_40 rfl (lv_at hl 7 rfl) ?_
              refine lv_imul hx hb dX12_kindOf_41 ?_
              rw [show (9 : Int32) = nI 9 from rfl, pk_mul 9 t]
              refine lv_aload_n hx hb dX12_kindOf_42 rfl (lv_at hl 6 rfl) ?_
              refine hp_get hx hb hts ix12 hown hK hh (q := 0) rfl (hI.1 _ (by decide)) es1158 rfl 2 (by decide) (hts _ tw_881) (fun _ h9 => h9) rfl dX12_kindOf_43 ?_
              refine lv_iload hx hb dX12_kindOf_46 (lv_at hl 3 rfl) ?_
              refine lv_imul hx hb dX12_kindOf_48 ?_
              rw [pk_mul wd j1160]
              refine lv_iadd hx hb dX12_kindOf_49 ?_
              rw [nI_add (9 * t) (wd * j1160)]
              refine lv_iload hx hb dX12_kindOf_50 (lv_at hl 0 rfl) ?_
              refine lv_iadd hx hb dX12_kindOf_52 ?_
              rw [nI_add ((9 * t) + (wd * j1160)) j1164]
              have hi_1168 : wd * j1160 + j1164 < 9 := mdr (by omega) (by omega) (by omega)
              refine hp_iald hx hb hK hh (q := 1) rfl (hI.1 _ (by decide)) es1159 (vp_in_nI (n := (((9 * t) + (wd * j1160)) + j1164)) (by omega) (by decide)) dX12_kindOf_53 ?_
              rw [nI_clamp (n := (((9 * t) + (wd * j1160)) + j1164)) (by omega)]
              refine lv_istore (lv' := [(8, .int (f_1159 (((9 * t) + (wd * j1160)) + j1164))), (7, .int (nI j1164)), (6, .int ic1164), (5, .int ir1164), (4, .int (nI j1160)), (3, .int sh1164), (2, .int ev1164), (0, .ref (ad 0)), (1, .int (nI t))]) hx hb dX12_kindOf_54 hl (by decide) rfl (fun ls hl => ?_)
              refine lv_iload_n hx hb dX12_kindOf_56 rfl (lv_at hl 6 rfl) ?_
              refine lv_iload hx hb dX12_kindOf_57 (lv_at hl 0 rfl) ?_
              refine lv_if_lt (tgt := 66) hx hb dX12_kindOf_59 (by decide) (fun c_1169 => ?_) (fun c_1169 => ?_)
              · refine lv_iconst (v := 0) hx hb dX12_kindOf_66 (by decide) ?_
                refine lv_iand hx hb dX12_kindOf_67 ?_
                refine lv_istore_n (lv' := [(2, .int (ev1164 &&& 0)), (8, .int (f_1159 (((9 * t) + (wd * j1160)) + j1164))), (7, .int (nI j1164)), (6, .int ic1164), (5, .int ir1164), (4, .int (nI j1160)), (3, .int sh1164), (0, .ref (ad 0)), (1, .int (nI t))]) hx hb dX12_kindOf_68 rfl hl (by decide) rfl (fun ls hl => ?_)
                refine lv_iload_n hx hb dX12_kindOf_69 rfl (lv_at hl 6 rfl) ?_
                refine lv_iload hx hb dX12_kindOf_70 (lv_at hl 1 rfl) ?_
                refine lv_if_eq (tgt := 81) hx hb dX12_kindOf_72 (by decide) (fun c_1170 => ?_) (fun c_1170 => ?_)
                · refine lv_iconst (v := 1) hx hb dX12_kindOf_81 (by decide) ?_
                  refine lv_goto (tgt := 86) hx hb dX12_kindOf_82 (by decide) ?_
                  refine lv_iand hx hb dX12_kindOf_86 ?_
                  refine lv_istore_n (lv' := [(3, .int (sh1164 &&& 1)), (2, .int (ev1164 &&& 0)), (8, .int (f_1159 (((9 * t) + (wd * j1160)) + j1164))), (7, .int (nI j1164)), (6, .int ic1164), (5, .int ir1164), (4, .int (nI j1160)), (0, .ref (ad 0)), (1, .int (nI t))]) hx hb dX12_kindOf_87 rfl hl (by decide) rfl (fun ls hl => ?_)
                  refine lv_iload hx hb dX12_kindOf_88 (lv_at hl 5 rfl) ?_
                  refine lv_iload hx hb dX12_kindOf_90 (lv_at hl 2 rfl) ?_
                  refine lv_iadd hx hb dX12_kindOf_92 ?_
                  refine lv_istore (lv' := [(5, .int (ir1164 + (f_1159 (((9 * t) + (wd * j1160)) + j1164)))), (3, .int (sh1164 &&& 1)), (2, .int (ev1164 &&& 0)), (8, .int (f_1159 (((9 * t) + (wd * j1160)) + j1164))), (7, .int (nI j1164)), (6, .int ic1164), (4, .int (nI j1160)), (0, .ref (ad 0)), (1, .int (nI t))]) hx hb dX12_kindOf_93 hl (by decide) rfl (fun ls hl => ?_)
                  refine lv_iload hx hb dX12_kindOf_95 (lv_at hl 5 rfl) ?_
                  refine lv_aload_n hx hb dX12_kindOf_97 rfl (lv_at hl 7 rfl) ?_
                  refine hp_get hx hb hts ix12 hown hK hh (q := 0) rfl (hI.1 _ (by decide)) es1158 rfl 5 (by decide) (hts _ tw_884) (fun _ h9 => h9) rfl dX12_kindOf_98 ?_
                  refine lv_bipush (v := 9) hx hb dX12_kindOf_101 (by decide) ?_
                  refine lv_iload_n hx hb dX12_kindOf_103 rfl (lv_at hl 8 rfl) ?_
                  refine lv_imul hx hb dX12_kindOf_104 ?_
                  rw [show (9 : Int32) = nI 9 from rfl, pk_mul 9 t]
                  refine lv_aload_n hx hb dX12_kindOf_105 rfl (lv_at hl 7 rfl) ?_
                  refine hp_get hx hb hts ix12 hown hK hh (q := 0) rfl (hI.1 _ (by decide)) es1158 rfl 2 (by decide) (hts _ tw_881) (fun _ h9 => h9) rfl dX12_kindOf_106 ?_
                  refine lv_iload hx hb dX12_kindOf_109 (lv_at hl 4 rfl) ?_
                  refine lv_imul hx hb dX12_kindOf_111 ?_
                  rw [pk_mul wd j1164]
                  refine lv_iadd hx hb dX12_kindOf_112 ?_
                  rw [nI_add (9 * t) (wd * j1164)]
                  refine lv_iload hx hb dX12_kindOf_113 (lv_at hl 6 rfl) ?_
                  refine lv_iadd hx hb dX12_kindOf_115 ?_
                  rw [nI_add ((9 * t) + (wd * j1164)) j1160]
                  have hi_1171 : wd * j1164 + j1160 < 9 := mdr (by omega) (by omega) (by omega)
                  refine hp_iald hx hb hK hh (q := 1) rfl (hI.1 _ (by decide)) es1159 (vp_in_nI (n := (((9 * t) + (wd * j1164)) + j1160)) (by omega) (by decide)) dX12_kindOf_116 ?_
                  rw [nI_clamp (n := (((9 * t) + (wd * j1164)) + j1160)) (by omega)]
                  refine lv_iadd hx hb dX12_kindOf_117 ?_
                  refine lv_istore (lv' := [(6, .int (ic1164 + (f_1159 (((9 * t) + (wd * j1164)) + j1160)))), (5, .int (ir1164 + (f_1159 (((9 * t) + (wd * j1160)) + j1164)))), (3, .int (sh1164 &&& 1)), (2, .int (ev1164 &&& 0)), (8, .int (f_1159 (((9 * t) + (wd * j1160)) + j1164))), (7, .int (nI j1164)), (4, .int (nI j1160)), (0, .ref (ad 0)), (1, .int (nI t))]) hx hb dX12_kindOf_118 hl (by decide) rfl (fun ls hl => ?_)
                  refine lv_iinc (v := (nI (j1164 + 1))) (lv' := [(7, .int (nI (j1164 + 1))), (6, .int (ic1164 + (f_1159 (((9 * t) + (wd * j1164)) + j1160)))), (5, .int (ir1164 + (f_1159 (((9 * t) + (wd * j1160)) + j1164)))), (3, .int (sh1164 &&& 1)), (2, .int (ev1164 &&& 0)), (8, .int (f_1159 (((9 * t) + (wd * j1160)) + j1164))), (4, .int (nI j1160)), (0, .ref (ad 0)), (1, .int (nI t))]) hx hb dX12_kindOf_120 hl (k := 5) rfl (nI_1 _) (by decide) rfl (fun ls hl => ?_)
                  refine lv_goto (tgt := 25) hx hb dX12_kindOf_123 (by decide) ?_
                  exact ih_1164 ((j1164 + 1)) (ev1164 &&& 0) (sh1164 &&& 1) (ir1164 + (f_1159 (((9 * t) + (wd * j1160)) + j1164))) (ic1164 + (f_1159 (((9 * t) + (wd * j1164)) + j1160))) ls H locs (by omega) (by omega) (by omega) (⟨evU_n (show rdF (en 1) (9 * t + (wd * j1160 + j1164)) = f_1159 (9 * t + wd * j1160 + j1164) from by rw [show rdF (en 1) = f_1159 from by rw [es1159]; rfl, Nat.add_assoc]) i0_1164.1 (by omega) c_1169, shU_s (show rdF (en 1) (9 * t + (wd * j1160 + j1164)) = f_1159 (9 * t + wd * j1160 + j1164) from by rw [show rdF (en 1) = f_1159 from by rw [es1159]; rfl, Nat.add_assoc]) i0_1164.2.1 (Or.inl c_1170), (by rw [i0_1164.2.2.1, ← (show rdF (en 1) (9 * t + (wd * j1160 + j1164)) = f_1159 (9 * t + wd * j1160 + j1164) from by rw [show rdF (en 1) = f_1159 from by rw [es1159]; rfl, Nat.add_assoc])]; rfl), (by rw [i0_1164.2.2.2, ← (show rdF (en 1) (9 * t + (wd * j1164 + j1160)) = f_1159 (9 * t + wd * j1164 + j1160) from by rw [show rdF (en 1) = f_1159 from by rw [es1159]; rfl, Nat.add_assoc])]; rfl)⟩) (lv_sub hl [0, 1, 2, 6, 3, 4, 7, 8] rfl) hh
                · refine lv_iload hx hb dX12_kindOf_75 (lv_at hl 1 rfl) ?_
                  refine lv_iconst (v := 1) hx hb dX12_kindOf_77 (by decide) ?_
                  refine lv_icmp_ne (tgt := 85) hx hb dX12_kindOf_78 (by decide) (fun c_1172 => ?_) (fun c_1172 => ?_)
                  · refine lv_iconst (v := 0) hx hb dX12_kindOf_85 (by decide) ?_
                    refine lv_iand hx hb dX12_kindOf_86 ?_
                    refine lv_istore_n (lv' := [(3, .int (sh1164 &&& 0)), (2, .int (ev1164 &&& 0)), (8, .int (f_1159 (((9 * t) + (wd * j1160)) + j1164))), (7, .int (nI j1164)), (6, .int ic1164), (5, .int ir1164), (4, .int (nI j1160)), (0, .ref (ad 0)), (1, .int (nI t))]) hx hb dX12_kindOf_87 rfl hl (by decide) rfl (fun ls hl => ?_)
                    refine lv_iload hx hb dX12_kindOf_88 (lv_at hl 5 rfl) ?_
                    refine lv_iload hx hb dX12_kindOf_90 (lv_at hl 2 rfl) ?_
                    refine lv_iadd hx hb dX12_kindOf_92 ?_
                    refine lv_istore (lv' := [(5, .int (ir1164 + (f_1159 (((9 * t) + (wd * j1160)) + j1164)))), (3, .int (sh1164 &&& 0)), (2, .int (ev1164 &&& 0)), (8, .int (f_1159 (((9 * t) + (wd * j1160)) + j1164))), (7, .int (nI j1164)), (6, .int ic1164), (4, .int (nI j1160)), (0, .ref (ad 0)), (1, .int (nI t))]) hx hb dX12_kindOf_93 hl (by decide) rfl (fun ls hl => ?_)
                    refine lv_iload hx hb dX12_kindOf_95 (lv_at hl 5 rfl) ?_
                    refine lv_aload_n hx hb dX12_kindOf_97 rfl (lv_at hl 7 rfl) ?_
                    refine hp_get hx hb hts ix12 hown hK hh (q := 0) rfl (hI.1 _ (by decide)) es1158 rfl 5 (by decide) (hts _ tw_884) (fun _ h9 => h9) rfl dX12_kindOf_98 ?_
                    refine lv_bipush (v := 9) hx hb dX12_kindOf_101 (by decide) ?_
                    refine lv_iload_n hx hb dX12_kindOf_103 rfl (lv_at hl 8 rfl) ?_
                    refine lv_imul hx hb dX12_kindOf_104 ?_
                    rw [show (9 : Int32) = nI 9 from rfl, pk_mul 9 t]
                    refine lv_aload_n hx hb dX12_kindOf_105 rfl (lv_at hl 7 rfl) ?_
                    refine hp_get hx hb hts ix12 hown hK hh (q := 0) rfl (hI.1 _ (by decide)) es1158 rfl 2 (by decide) (hts _ tw_881) (fun _ h9 => h9) rfl dX12_kindOf_106 ?_
                    refine lv_iload hx hb dX12_kindOf_109 (lv_at hl 4 rfl) ?_
                    refine lv_imul hx hb dX12_kindOf_111 ?_
                    rw [pk_mul wd j1164]
                    refine lv_iadd hx hb dX12_kindOf_112 ?_
                    rw [nI_add (9 * t) (wd * j1164)]
                    refine lv_iload hx hb dX12_kindOf_113 (lv_at hl 6 rfl) ?_
                    refine lv_iadd hx hb dX12_kindOf_115 ?_
                    rw [nI_add ((9 * t) + (wd * j1164)) j1160]
                    have hi_1173 : wd * j1164 + j1160 < 9 := mdr (by omega) (by omega) (by omega)
                    refine hp_iald hx hb hK hh (q := 1) rfl (hI.1 _ (by decide)) es1159 (vp_in_nI (n := (((9 * t) + (wd * j1164)) + j1160)) (by omega) (by decide)) dX12_kindOf_116 ?_
                    rw [nI_clamp (n := (((9 * t) + (wd * j1164)) + j1160)) (by omega)]
                    refine lv_iadd hx hb dX12_kindOf_117 ?_
                    refine lv_istore (lv' := [(6, .int (ic1164 + (f_1159 (((9 * t) + (wd * j1164)) + j1160)))), (5, .int (ir1164 + (f_1159 (((9 * t) + (wd * j1160)) + j1164)))), (3, .int (sh1164 &&& 0)), (2, .int (ev1164 &&& 0)), (8, .int (f_1159 (((9 * t) + (wd * j1160)) + j1164))), (7, .int (nI j1164)), (4, .int (nI j1160)), (0, .ref (ad 0)), (1, .int (nI t))]) hx hb dX12_kindOf_118 hl (by decide) rfl (fun ls hl => ?_)
                    refine lv_iinc (v := (nI (j1164 + 1))) (lv' := [(7, .int (nI (j1164 + 1))), (6, .int (ic1164 + (f_1159 (((9 * t) + (wd * j1164)) + j1160)))), (5, .int (ir1164 + (f_1159 (((9 * t) + (wd * j1160)) + j1164)))), (3, .int (sh1164 &&& 0)), (2, .int (ev1164 &&& 0)), (8, .int (f_1159 (((9 * t) + (wd * j1160)) + j1164))), (4, .int (nI j1160)), (0, .ref (ad 0)), (1, .int (nI t))]) hx hb dX12_kindOf_120 hl (k := 5) rfl (nI_1 _) (by decide) rfl (fun ls hl => ?_)
                    refine lv_goto (tgt := 25) hx hb dX12_kindOf_123 (by decide) ?_
                    exact ih_1164 ((j1164 + 1)) (ev1164 &&& 0) (sh1164 &&& 0) (ir1164 + (f_1159 (((9 * t) + (wd * j1160)) + j1164))) (ic1164 + (f_1159 (((9 * t) + (wd * j1164)) + j1160))) ls H locs (by omega) (by omega) (by omega) (⟨evU_n (show rdF (en 1) (9 * t + (wd * j1160 + j1164)) = f_1159 (9 * t + wd * j1160 + j1164) from by rw [show rdF (en 1) = f_1159 from by rw [es1159]; rfl, Nat.add_assoc]) i0_1164.1 (by omega) c_1169, shU_n (show rdF (en 1) (9 * t + (wd * j1160 + j1164)) = f_1159 (9 * t + wd * j1160 + j1164) from by rw [show rdF (en 1) = f_1159 from by rw [es1159]; rfl, Nat.add_assoc]) i0_1164.2.1 (by omega) c_1170 c_1172, (by rw [i0_1164.2.2.1, ← (show rdF (en 1) (9 * t + (wd * j1160 + j1164)) = f_1159 (9 * t + wd * j1160 + j1164) from by rw [show rdF (en 1) = f_1159 from by rw [es1159]; rfl, Nat.add_assoc])]; rfl), (by rw [i0_1164.2.2.2, ← (show rdF (en 1) (9 * t + (wd * j1164 + j1160)) = f_1159 (9 * t + wd * j1164 + j1160) from by rw [show rdF (en 1) = f_1159 from by rw [es1159]; rfl, Nat.add_assoc])]; rfl)⟩) (lv_sub hl [0, 1, 2, 6, 3, 4, 7, 8] rfl) hh
                  · refine lv_iconst (v := 1) hx hb dX12_kindOf_81 (by decide) ?_
                    refine lv_goto (tgt := 86) hx hb dX12_kindOf_82 (by decide) ?_
                    refine lv_iand hx hb dX12_kindOf_86 ?_
                    refine lv_istore_n (lv' := [(3, .int (sh1164 &&& 1)), (2, .int (ev1164 &&& 0)), (8, .int (f_1159 (((9 * t) + (wd * j1160)) + j1164))), (7, .int (nI j1164)), (6, .int ic1164), (5, .int ir1164), (4, .int (nI j1160)), (0, .ref (ad 0)), (1, .int (nI t))]) hx hb dX12_kindOf_87 rfl hl (by decide) rfl (fun ls hl => ?_)
                    refine lv_iload hx hb dX12_kindOf_88 (lv_at hl 5 rfl) ?_
                    refine lv_iload hx hb dX12_kindOf_90 (lv_at hl 2 rfl) ?_
                    refine lv_iadd hx hb dX12_kindOf_92 ?_
                    refine lv_istore (lv' := [(5, .int (ir1164 + (f_1159 (((9 * t) + (wd * j1160)) + j1164)))), (3, .int (sh1164 &&& 1)), (2, .int (ev1164 &&& 0)), (8, .int (f_1159 (((9 * t) + (wd * j1160)) + j1164))), (7, .int (nI j1164)), (6, .int ic1164), (4, .int (nI j1160)), (0, .ref (ad 0)), (1, .int (nI t))]) hx hb dX12_kindOf_93 hl (by decide) rfl (fun ls hl => ?_)
                    refine lv_iload hx hb dX12_kindOf_95 (lv_at hl 5 rfl) ?_
                    refine lv_aload_n hx hb dX12_kindOf_97 rfl (lv_at hl 7 rfl) ?_
                    refine hp_get hx hb hts ix12 hown hK hh (q := 0) rfl (hI.1 _ (by decide)) es1158 rfl 5 (by decide) (hts _ tw_884) (fun _ h9 => h9) rfl dX12_kindOf_98 ?_
                    refine lv_bipush (v := 9) hx hb dX12_kindOf_101 (by decide) ?_
                    refine lv_iload_n hx hb dX12_kindOf_103 rfl (lv_at hl 8 rfl) ?_
                    refine lv_imul hx hb dX12_kindOf_104 ?_
                    rw [show (9 : Int32) = nI 9 from rfl, pk_mul 9 t]
                    refine lv_aload_n hx hb dX12_kindOf_105 rfl (lv_at hl 7 rfl) ?_
                    refine hp_get hx hb hts ix12 hown hK hh (q := 0) rfl (hI.1 _ (by decide)) es1158 rfl 2 (by decide) (hts _ tw_881) (fun _ h9 => h9) rfl dX12_kindOf_106 ?_
                    refine lv_iload hx hb dX12_kindOf_109 (lv_at hl 4 rfl) ?_
                    refine lv_imul hx hb dX12_kindOf_111 ?_
                    rw [pk_mul wd j1164]
                    refine lv_iadd hx hb dX12_kindOf_112 ?_
                    rw [nI_add (9 * t) (wd * j1164)]
                    refine lv_iload hx hb dX12_kindOf_113 (lv_at hl 6 rfl) ?_
                    refine lv_iadd hx hb dX12_kindOf_115 ?_
                    rw [nI_add ((9 * t) + (wd * j1164)) j1160]
                    have hi_1174 : wd * j1164 + j1160 < 9 := mdr (by omega) (by omega) (by omega)
                    refine hp_iald hx hb hK hh (q := 1) rfl (hI.1 _ (by decide)) es1159 (vp_in_nI (n := (((9 * t) + (wd * j1164)) + j1160)) (by omega) (by decide)) dX12_kindOf_116 ?_
                    rw [nI_clamp (n := (((9 * t) + (wd * j1164)) + j1160)) (by omega)]
                    refine lv_iadd hx hb dX12_kindOf_117 ?_
                    refine lv_istore (lv' := [(6, .int (ic1164 + (f_1159 (((9 * t) + (wd * j1164)) + j1160)))), (5, .int (ir1164 + (f_1159 (((9 * t) + (wd * j1160)) + j1164)))), (3, .int (sh1164 &&& 1)), (2, .int (ev1164 &&& 0)), (8, .int (f_1159 (((9 * t) + (wd * j1160)) + j1164))), (7, .int (nI j1164)), (4, .int (nI j1160)), (0, .ref (ad 0)), (1, .int (nI t))]) hx hb dX12_kindOf_118 hl (by decide) rfl (fun ls hl => ?_)
                    refine lv_iinc (v := (nI (j1164 + 1))) (lv' := [(7, .int (nI (j1164 + 1))), (6, .int (ic1164 + (f_1159 (((9 * t) + (wd * j1164)) + j1160)))), (5, .int (ir1164 + (f_1159 (((9 * t) + (wd * j1160)) + j1164)))), (3, .int (sh1164 &&& 1)), (2, .int (ev1164 &&& 0)), (8, .int (f_1159 (((9 * t) + (wd * j1160)) + j1164))), (4, .int (nI j1160)), (0, .ref (ad 0)), (1, .int (nI t))]) hx hb dX12_kindOf_120 hl (k := 5) rfl (nI_1 _) (by decide) rfl (fun ls hl => ?_)
                    refine lv_goto (tgt := 25) hx hb dX12_kindOf_123 (by decide) ?_
                    exact ih_1164 ((j1164 + 1)) (ev1164 &&& 0) (sh1164 &&& 1) (ir1164 + (f_1159 (((9 * t) + (wd * j1160)) + j1164))) (ic1164 + (f_1159 (((9 * t) + (wd * j1164)) + j1160))) ls H locs (by omega) (by omega) (by omega) (⟨evU_n (show rdF (en 1) (9 * t + (wd * j1160 + j1164)) = f_1159 (9 * t + wd * j1160 + j1164) from by rw [show rdF (en 1) = f_1159 from by rw [es1159]; rfl, Nat.add_assoc]) i0_1164.1 (by omega) c_1169, shU_s (show rdF (en 1) (9 * t + (wd * j1160 + j1164)) = f_1159 (9 * t + wd * j1160 + j1164) from by rw [show rdF (en 1) = f_1159 from by rw [es1159]; rfl, Nat.add_assoc]) i0_1164.2.1 (Or.inr c_1172), (by rw [i0_1164.2.2.1, ← (show rdF (en 1) (9 * t + (wd * j1160 + j1164)) = f_1159 (9 * t + wd * j1160 + j1164) from by rw [show rdF (en 1) = f_1159 from by rw [es1159]; rfl, Nat.add_assoc])]; rfl), (by rw [i0_1164.2.2.2, ← (show rdF (en 1) (9 * t + (wd * j1164 + j1160)) = f_1159 (9 * t + wd * j1164 + j1160) from by rw [show rdF (en 1) = f_1159 from by rw [es1159]; rfl, Nat.add_assoc])]; rfl)⟩) (lv_sub hl [0, 1, 2, 6, 3, 4, 7, 8] rfl) hh
              · refine lv_iconst (v := 1) hx hb dX12_kindOf_62 (by decide) ?_
                refine lv_goto (tgt := 67) hx hb dX12_kindOf_63 (by decide) ?_
                refine lv_iand hx hb dX12_kindOf_67 ?_
                refine lv_istore_n (lv' := [(2, .int (ev1164 &&& 1)), (8, .int (f_1159 (((9 * t) + (wd * j1160)) + j1164))), (7, .int (nI j1164)), (6, .int ic1164), (5, .int ir1164), (4, .int (nI j1160)), (3, .int sh1164), (0, .ref (ad 0)), (1, .int (nI t))]) hx hb dX12_kindOf_68 rfl hl (by decide) rfl (fun ls hl => ?_)
                refine lv_iload_n hx hb dX12_kindOf_69 rfl (lv_at hl 6 rfl) ?_
                refine lv_iload hx hb dX12_kindOf_70 (lv_at hl 1 rfl) ?_
                refine lv_if_eq (tgt := 81) hx hb dX12_kindOf_72 (by decide) (fun c_1175 => ?_) (fun c_1175 => ?_)
                · refine lv_iconst (v := 1) hx hb dX12_kindOf_81 (by decide) ?_
                  refine lv_goto (tgt := 86) hx hb dX12_kindOf_82 (by decide) ?_
                  refine lv_iand hx hb dX12_kindOf_86 ?_
                  refine lv_istore_n (lv' := [(3, .int (sh1164 &&& 1)), (2, .int (ev1164 &&& 1)), (8, .int (f_1159 (((9 * t) + (wd * j1160)) + j1164))), (7, .int (nI j1164)), (6, .int ic1164), (5, .int ir1164), (4, .int (nI j1160)), (0, .ref (ad 0)), (1, .int (nI t))]) hx hb dX12_kindOf_87 rfl hl (by decide) rfl (fun ls hl => ?_)
                  refine lv_iload hx hb dX12_kindOf_88 (lv_at hl 5 rfl) ?_
                  refine lv_iload hx hb dX12_kindOf_90 (lv_at hl 2 rfl) ?_
                  refine lv_iadd hx hb dX12_kindOf_92 ?_
                  refine lv_istore (lv' := [(5, .int (ir1164 + (f_1159 (((9 * t) + (wd * j1160)) + j1164)))), (3, .int (sh1164 &&& 1)), (2, .int (ev1164 &&& 1)), (8, .int (f_1159 (((9 * t) + (wd * j1160)) + j1164))), (7, .int (nI j1164)), (6, .int ic1164), (4, .int (nI j1160)), (0, .ref (ad 0)), (1, .int (nI t))]) hx hb dX12_kindOf_93 hl (by decide) rfl (fun ls hl => ?_)
                  refine lv_iload hx hb dX12_kindOf_95 (lv_at hl 5 rfl) ?_
                  refine lv_aload_n hx hb dX12_kindOf_97 rfl (lv_at hl 7 rfl) ?_
                  refine hp_get hx hb hts ix12 hown hK hh (q := 0) rfl (hI.1 _ (by decide)) es1158 rfl 5 (by decide) (hts _ tw_884) (fun _ h9 => h9) rfl dX12_kindOf_98 ?_
                  refine lv_bipush (v := 9) hx hb dX12_kindOf_101 (by decide) ?_
                  refine lv_iload_n hx hb dX12_kindOf_103 rfl (lv_at hl 8 rfl) ?_
                  refine lv_imul hx hb dX12_kindOf_104 ?_
                  rw [show (9 : Int32) = nI 9 from rfl, pk_mul 9 t]
                  refine lv_aload_n hx hb dX12_kindOf_105 rfl (lv_at hl 7 rfl) ?_
                  refine hp_get hx hb hts ix12 hown hK hh (q := 0) rfl (hI.1 _ (by decide)) es1158 rfl 2 (by decide) (hts _ tw_881) (fun _ h9 => h9) rfl dX12_kindOf_106 ?_
                  refine lv_iload hx hb dX12_kindOf_109 (lv_at hl 4 rfl) ?_
                  refine lv_imul hx hb dX12_kindOf_111 ?_
                  rw [pk_mul wd j1164]
                  refine lv_iadd hx hb dX12_kindOf_112 ?_
                  rw [nI_add (9 * t) (wd * j1164)]
                  refine lv_iload hx hb dX12_kindOf_113 (lv_at hl 6 rfl) ?_
                  refine lv_iadd hx hb dX12_kindOf_115 ?_
                  rw [nI_add ((9 * t) + (wd * j1164)) j1160]
                  have hi_1176 : wd * j1164 + j1160 < 9 := mdr (by omega) (by omega) (by omega)
                  refine hp_iald hx hb hK hh (q := 1) rfl (hI.1 _ (by decide)) es1159 (vp_in_nI (n := (((9 * t) + (wd * j1164)) + j1160)) (by omega) (by decide)) dX12_kindOf_116 ?_
                  rw [nI_clamp (n := (((9 * t) + (wd * j1164)) + j1160)) (by omega)]
                  refine lv_iadd hx hb dX12_kindOf_117 ?_
                  refine lv_istore (lv' := [(6, .int (ic1164 + (f_1159 (((9 * t) + (wd * j1164)) + j1160)))), (5, .int (ir1164 + (f_1159 (((9 * t) + (wd * j1160)) + j1164)))), (3, .int (sh1164 &&& 1)), (2, .int (ev1164 &&& 1)), (8, .int (f_1159 (((9 * t) + (wd * j1160)) + j1164))), (7, .int (nI j1164)), (4, .int (nI j1160)), (0, .ref (ad 0)), (1, .int (nI t))]) hx hb dX12_kindOf_118 hl (by decide) rfl (fun ls hl => ?_)
                  refine lv_iinc (v := (nI (j1164 + 1))) (lv' := [(7, .int (nI (j1164 + 1))), (6, .int (ic1164 + (f_1159 (((9 * t) + (wd * j1164)) + j1160)))), (5, .int (ir1164 + (f_1159 (((9 * t) + (wd * j1160)) + j1164)))), (3, .int (sh1164 &&& 1)), (2, .int (ev1164 &&& 1)), (8, .int (f_1159 (((9 * t) + (wd * j1160)) + j1164))), (4, .int (nI j1160)), (0, .ref (ad 0)), (1, .int (nI t))]) hx hb dX12_kindOf_120 hl (k := 5) rfl (nI_1 _) (by decide) rfl (fun ls hl => ?_)
                  refine lv_goto (tgt := 25) hx hb dX12_kindOf_123 (by decide) ?_
                  exact ih_1164 ((j1164 + 1)) (ev1164 &&& 1) (sh1164 &&& 1) (ir1164 + (f_1159 (((9 * t) + (wd * j1160)) + j1164))) (ic1164 + (f_1159 (((9 * t) + (wd * j1164)) + j1160))) ls H locs (by omega) (by omega) (by omega) (⟨evU_s (show rdF (en 1) (9 * t + (wd * j1160 + j1164)) = f_1159 (9 * t + wd * j1160 + j1164) from by rw [show rdF (en 1) = f_1159 from by rw [es1159]; rfl, Nat.add_assoc]) i0_1164.1 c_1169, shU_s (show rdF (en 1) (9 * t + (wd * j1160 + j1164)) = f_1159 (9 * t + wd * j1160 + j1164) from by rw [show rdF (en 1) = f_1159 from by rw [es1159]; rfl, Nat.add_assoc]) i0_1164.2.1 (Or.inl c_1175), (by rw [i0_1164.2.2.1, ← (show rdF (en 1) (9 * t + (wd * j1160 + j1164)) = f_1159 (9 * t + wd * j1160 + j1164) from by rw [show rdF (en 1) = f_1159 from by rw [es1159]; rfl, Nat.add_assoc])]; rfl), (by rw [i0_1164.2.2.2, ← (show rdF (en 1) (9 * t + (wd * j1164 + j1160)) = f_1159 (9 * t + wd * j1164 + j1160) from by rw [show rdF (en 1) = f_1159 from by rw [es1159]; rfl, Nat.add_assoc])]; rfl)⟩) (lv_sub hl [0, 1, 2, 6, 3, 4, 7, 8] rfl) hh
                · refine lv_iload hx hb dX12_kindOf_75 (lv_at hl 1 rfl) ?_
                  refine lv_iconst (v := 1) hx hb dX12_kindOf_77 (by decide) ?_
                  refine lv_icmp_ne (tgt := 85) hx hb dX12_kindOf_78 (by decide) (fun c_1177 => ?_) (fun c_1177 => ?_)
                  · refine lv_iconst (v := 0) hx hb dX12_kindOf_85 (by decide) ?_
                    refine lv_iand hx hb dX12_kindOf_86 ?_
                    refine lv_istore_n (lv' := [(3, .int (sh1164 &&& 0)), (2, .int (ev1164 &&& 1)), (8, .int (f_1159 (((9 * t) + (wd * j1160)) + j1164))), (7, .int (nI j1164)), (6, .int ic1164), (5, .int ir1164), (4, .int (nI j1160)), (0, .ref (ad 0)), (1, .int (nI t))]) hx hb dX12_kindOf_87 rfl hl (by decide) rfl (fun ls hl => ?_)
                    refine lv_iload hx hb dX12_kindOf_88 (lv_at hl 5 rfl) ?_
                    refine lv_iload hx hb dX12_kindOf_90 (lv_at hl 2 rfl) ?_
                    refine lv_iadd hx hb dX12_kindOf_92 ?_
                    refine lv_istore (lv' := [(5, .int (ir1164 + (f_1159 (((9 * t) + (wd * j1160)) + j1164)))), (3, .int (sh1164 &&& 0)), (2, .int (ev1164 &&& 1)), (8, .int (f_1159 (((9 * t) + (wd * j1160)) + j1164))), (7, .int (nI j1164)), (6, .int ic1164), (4, .int (nI j1160)), (0, .ref (ad 0)), (1, .int (nI t))]) hx hb dX12_kindOf_93 hl (by decide) rfl (fun ls hl => ?_)
                    refine lv_iload hx hb dX12_kindOf_95 (lv_at hl 5 rfl) ?_
                    refine lv_aload_n hx hb dX12_kindOf_97 rfl (lv_at hl 7 rfl) ?_
                    refine hp_get hx hb hts ix12 hown hK hh (q := 0) rfl (hI.1 _ (by decide)) es1158 rfl 5 (by decide) (hts _ tw_884) (fun _ h9 => h9) rfl dX12_kindOf_98 ?_
                    refine lv_bipush (v := 9) hx hb dX12_kindOf_101 (by decide) ?_
                    refine lv_iload_n hx hb dX12_kindOf_103 rfl (lv_at hl 8 rfl) ?_
                    refine lv_imul hx hb dX12_kindOf_104 ?_
                    rw [show (9 : Int32) = nI 9 from rfl, pk_mul 9 t]
                    refine lv_aload_n hx hb dX12_kindOf_105 rfl (lv_at hl 7 rfl) ?_
                    refine hp_get hx hb hts ix12 hown hK hh (q := 0) rfl (hI.1 _ (by decide)) es1158 rfl 2 (by decide) (hts _ tw_881) (fun _ h9 => h9) rfl dX12_kindOf_106 ?_
                    refine lv_iload hx hb dX12_kindOf_109 (lv_at hl 4 rfl) ?_
                    refine lv_imul hx hb dX12_kindOf_111 ?_
                    rw [pk_mul wd j1164]
                    refine lv_iadd hx hb dX12_kindOf_112 ?_
                    rw [nI_add (9 * t) (wd * j1164)]
                    refine lv_iload hx hb dX12_kindOf_113 (lv_at hl 6 rfl) ?_
                    refine lv_iadd hx hb dX12_kindOf_115 ?_
                    rw [nI_add ((9 * t) + (wd * j1164)) j1160]
                    have hi_1178 : wd * j1164 + j1160 < 9 := mdr (by omega) (by omega) (by omega)
                    refine hp_iald hx hb hK hh (q := 1) rfl (hI.1 _ (by decide)) es1159 (vp_in_nI (n := (((9 * t) + (wd * j1164)) + j1160)) (by omega) (by decide)) dX12_kindOf_116 ?_
                    rw [nI_clamp (n := (((9 * t) + (wd * j1164)) + j1160)) (by omega)]
                    refine lv_iadd hx hb dX12_kindOf_117 ?_
                    refine lv_istore (lv' := [(6, .int (ic1164 + (f_1159 (((9 * t) + (wd * j1164)) + j1160)))), (5, .int (ir1164 + (f_1159 (((9 * t) + (wd * j1160)) + j1164)))), (3, .int (sh1164 &&& 0)), (2, .int (ev1164 &&& 1)), (8, .int (f_1159 (((9 * t) + (wd * j1160)) + j1164))), (7, .int (nI j1164)), (4, .int (nI j1160)), (0, .ref (ad 0)), (1, .int (nI t))]) hx hb dX12_kindOf_118 hl (by decide) rfl (fun ls hl => ?_)
                    refine lv_iinc (v := (nI (j1164 + 1))) (lv' := [(7, .int (nI (j1164 + 1))), (6, .int (ic1164 + (f_1159 (((9 * t) + (wd * j1164)) + j1160)))), (5, .int (ir1164 + (f_1159 (((9 * t) + (wd * j1160)) + j1164)))), (3, .int (sh1164 &&& 0)), (2, .int (ev1164 &&& 1)), (8, .int (f_1159 (((9 * t) + (wd * j1160)) + j1164))), (4, .int (nI j1160)), (0, .ref (ad 0)), (1, .int (nI t))]) hx hb dX12_kindOf_120 hl (k := 5) rfl (nI_1 _) (by decide) rfl (fun ls hl => ?_)
                    refine lv_goto (tgt := 25) hx hb dX12_kindOf_123 (by decide) ?_
                    exact ih_1164 ((j1164 + 1)) (ev1164 &&& 1) (sh1164 &&& 0) (ir1164 + (f_1159 (((9 * t) + (wd * j1160)) + j1164))) (ic1164 + (f_1159 (((9 * t) + (wd * j1164)) + j1160))) ls H locs (by omega) (by omega) (by omega) (⟨evU_s (show rdF (en 1) (9 * t + (wd * j1160 + j1164)) = f_1159 (9 * t + wd * j1160 + j1164) from by rw [show rdF (en 1) = f_1159 from by rw [es1159]; rfl, Nat.add_assoc]) i0_1164.1 c_1169, shU_n (show rdF (en 1) (9 * t + (wd * j1160 + j1164)) = f_1159 (9 * t + wd * j1160 + j1164) from by rw [show rdF (en 1) = f_1159 from by rw [es1159]; rfl, Nat.add_assoc]) i0_1164.2.1 (by omega) c_1175 c_1177, (by rw [i0_1164.2.2.1, ← (show rdF (en 1) (9 * t + (wd * j1160 + j1164)) = f_1159 (9 * t + wd * j1160 + j1164) from by rw [show rdF (en 1) = f_1159 from by rw [es1159]; rfl, Nat.add_assoc])]; rfl), (by rw [i0_1164.2.2.2, ← (show rdF (en 1) (9 * t + (wd * j1164 + j1160)) = f_1159 (9 * t + wd * j1164 + j1160) from by rw [show rdF (en 1) = f_1159 from by rw [es1159]; rfl, Nat.add_assoc])]; rfl)⟩) (lv_sub hl [0, 1, 2, 6, 3, 4, 7, 8] rfl) hh
                  · refine lv_iconst (v := 1) hx hb dX12_kindOf_81 (by decide) ?_
                    refine lv_goto (tgt := 86) hx hb dX12_kindOf_82 (by decide) ?_
                    refine lv_iand hx hb dX12_kindOf_86 ?_
                    refine lv_istore_n (lv' := [(3, .int (sh1164 &&& 1)), (2, .int (ev1164 &&& 1)), (8, .int (f_1159 (((9 * t) + (wd * j1160)) + j1164))), (7, .int (nI j1164)), (6, .int ic1164), (5, .int ir1164), (4, .int (nI j1160)), (0, .ref (ad 0)), (1, .int (nI t))]) hx hb dX12_kindOf_87 rfl hl (by decide) rfl (fun ls hl => ?_)
                    refine lv_iload hx hb dX12_kindOf_88 (lv_at hl 5 rfl) ?_
                    refine lv_iload hx hb dX12_kindOf_90 (lv_at hl 2 rfl) ?_
                    refine lv_iadd hx hb dX12_kindOf_92 ?_
                    refine lv_istore (lv' := [(5, .int (ir1164 + (f_1159 (((9 * t) + (wd * j1160)) + j1164)))), (3, .int (sh1164 &&& 1)), (2, .int (ev1164 &&& 1)), (8, .int (f_1159 (((9 * t) + (wd * j1160)) + j1164))), (7, .int (nI j1164)), (6, .int ic1164), (4, .int (nI j1160)), (0, .ref (ad 0)), (1, .int (nI t))]) hx hb dX12_kindOf_93 hl (by decide) rfl (fun ls hl => ?_)
                    refine lv_iload hx hb dX12_kindOf_95 (lv_at hl 5 rfl) ?_
                    refine lv_aload_n hx hb dX12_kindOf_97 rfl (lv_at hl 7 rfl) ?_
                    refine hp_get hx hb hts ix12 hown hK hh (q := 0) rfl (hI.1 _ (by decide)) es1158 rfl 5 (by decide) (hts _ tw_884) (fun _ h9 => h9) rfl dX12_kindOf_98 ?_
                    refine lv_bipush (v := 9) hx hb dX12_kindOf_101 (by decide) ?_
                    refine lv_iload_n hx hb dX12_kindOf_103 rfl (lv_at hl 8 rfl) ?_
                    refine lv_imul hx hb dX12_kindOf_104 ?_
                    rw [show (9 : Int32) = nI 9 from rfl, pk_mul 9 t]
                    refine lv_aload_n hx hb dX12_kindOf_105 rfl (lv_at hl 7 rfl) ?_
                    refine hp_get hx hb hts ix12 hown hK hh (q := 0) rfl (hI.1 _ (by decide)) es1158 rfl 2 (by decide) (hts _ tw_881) (fun _ h9 => h9) rfl dX12_kindOf_106 ?_
                    refine lv_iload hx hb dX12_kindOf_109 (lv_at hl 4 rfl) ?_
                    refine lv_imul hx hb dX12_kindOf_111 ?_
                    rw [pk_mul wd j1164]
                    refine lv_iadd hx hb dX12_kindOf_112 ?_
                    rw [nI_add (9 * t) (wd * j1164)]
                    refine lv_iload hx hb dX12_kindOf_113 (lv_at hl 6 rfl) ?_
                    refine lv_iadd hx hb dX12_kindOf_115 ?_
                    rw [nI_add ((9 * t) + (wd * j1164)) j1160]
                    have hi_1179 : wd * j1164 + j1160 < 9 := mdr (by omega) (by omega) (by omega)
                    refine hp_iald hx hb hK hh (q := 1) rfl (hI.1 _ (by decide)) es1159 (vp_in_nI (n := (((9 * t) + (wd * j1164)) + j1160)) (by omega) (by decide)) dX12_kindOf_116 ?_
                    rw [nI_clamp (n := (((9 * t) + (wd * j1164)) + j1160)) (by omega)]
                    refine lv_iadd hx hb dX12_kindOf_117 ?_
                    refine lv_istore (lv' := [(6, .int (ic1164 + (f_1159 (((9 * t) + (wd * j1164)) + j1160)))), (5, .int (ir1164 + (f_1159 (((9 * t) + (wd * j1160)) + j1164)))), (3, .int (sh1164 &&& 1)), (2, .int (ev1164 &&& 1)), (8, .int (f_1159 (((9 * t) + (wd * j1160)) + j1164))), (7, .int (nI j1164)), (4, .int (nI j1160)), (0, .ref (ad 0)), (1, .int (nI t))]) hx hb dX12_kindOf_118 hl (by decide) rfl (fun ls hl => ?_)
                    refine lv_iinc (v := (nI (j1164 + 1))) (lv' := [(7, .int (nI (j1164 + 1))), (6, .int (ic1164 + (f_1159 (((9 * t) + (wd * j1164)) + j1160)))), (5, .int (ir1164 + (f_1159 (((9 * t) + (wd * j1160)) + j1164)))), (3, .int (sh1164 &&& 1)), (2, .int (ev1164 &&& 1)), (8, .int (f_1159 (((9 * t) + (wd * j1160)) + j1164))), (4, .int (nI j1160)), (0, .ref (ad 0)), (1, .int (nI t))]) hx hb dX12_kindOf_120 hl (k := 5) rfl (nI_1 _) (by decide) rfl (fun ls hl => ?_)
                    refine lv_goto (tgt := 25) hx hb dX12_kindOf_123 (by decide) ?_
                    exact ih_1164 ((j1164 + 1)) (ev1164 &&& 1) (sh1164 &&& 1) (ir1164 + (f_1159 (((9 * t) + (wd * j1160)) + j1164))) (ic1164 + (f_1159 (((9 * t) + (wd * j1164)) + j1160))) ls H locs (by omega) (by omega) (by omega) (⟨evU_s (show rdF (en 1) (9 * t + (wd * j1160 + j1164)) = f_1159 (9 * t + wd * j1160 + j1164) from by rw [show rdF (en 1) = f_1159 from by rw [es1159]; rfl, Nat.add_assoc]) i0_1164.1 c_1169, shU_s (show rdF (en 1) (9 * t + (wd * j1160 + j1164)) = f_1159 (9 * t + wd * j1160 + j1164) from by rw [show rdF (en 1) = f_1159 from by rw [es1159]; rfl, Nat.add_assoc]) i0_1164.2.1 (Or.inr c_1177), (by rw [i0_1164.2.2.1, ← (show rdF (en 1) (9 * t + (wd * j1160 + j1164)) = f_1159 (9 * t + wd * j1160 + j1164) from by rw [show rdF (en 1) = f_1159 from by rw [es1159]; rfl, Nat.add_assoc])]; rfl), (by rw [i0_1164.2.2.2, ← (show rdF (en 1) (9 * t + (wd * j1164 + j1160)) = f_1159 (9 * t + wd * j1164 + j1160) from by rw [show rdF (en 1) = f_1159 from by rw [es1159]; rfl, Nat.add_assoc])]; rfl)⟩) (lv_sub hl [0, 1, 2, 6, 3, 4, 7, 8] rfl) hh
        exact loop_1164 (wd + 1) 0 ev1160 sh1160 0 0 ls _ _ (Nat.le_refl _) (by omega) (by omega) (⟨i0_1160.1, i0_1160.2, rfl, rfl⟩) (lv_sub hl [0, 1, 2, 3, 4, 5, 6, 7] rfl) hh
  exact loop_1160 (wd + 1) 0 1 1 ls _ _ (Nat.le_refl _) (by omega) (by omega) (⟨Or.inl ⟨rfl, fun a b hb hab => absurd hab (by omega)⟩, Or.inl ⟨rfl, fun a b hb hab => absurd hab (by omega), fun a ha => absurd ha (by omega)⟩⟩) (lv_sub hl [0, 1, 2, 3, 4] rfl) hh
theorem kw_X12_kindOf {R : Room} {s : State} {args : Array Value} {own : String} {idx : Nat} (hts : ∀ w ∈ TB, w.before args s = true) (hl : Cond.methodLink own idx yX12_kindOf ∈ TB) (hR : 0 + 1 ≤ R.frames ∧ 8 + (9 + 11) + 40 * 0 ≤ R.locals) : CallW R s args own RX12 idx yX12_kindOf cX12_kindOf 9 (some .int) (Cond.code yX12_kindOf cX12_kindOf 9 (some .int) :: TB) (rmN 0) 0 0 1 := cwV 1 hts (TB_V hl tw_1225 ts_61 tw_9 tw_1226) rfl rfl rfl (by decide +kernel) hR
set_option maxHeartbeats 4000000 in
set_option maxRecDepth 100000 in
/-- trackOf -/
theorem c_X12_trackOf (l : Launch) (D : va_G) (cy : Nat → ClassId) (sz : Nat) (cs : List Nat) (ad : Nat → Nat) (en : Nat → va_E) (hI : RX cy cs ad en) (t : Nat) (ht6 : t < 6)   : Met l yX12_trackOf (Cond.code yX12_trackOf cX12_trackOf 4 (some .int) :: TB) (rmN 0) (va_Pc [.ref (ad 0), .int (nI t)] (Pre D cy cs ad en sz)) (va_Qi (S := Unit) (fun r _ => r = sumI (fun i => rdF (en 1) (9 * t + (i * (rdI (en 0) 2).toNatClampNeg + i))) (rdI (en 0) 2).toNatClampNeg) (fun _ _ => True) (Nf sz)) 0 0 (Nf sz) := by
  refine Met.ofW (cc := cX12_trackOf) (maxL := 4) (ret := (some .int)) (by decide) rfl ?_
  intro p e s m args below meth c s₁ B hml hv
  obtain ⟨rfl, hsz, hP, hK, hD0⟩ := hv
  have hx := B.exec
  have hb := B.bytes
  have hr := B.returns
  have hts : ∀ w ∈ TB, w.before _ s = true := fun w h => atoms_spec (ws := _ :: TB) B.pre w (List.mem_cons_of_mem _ h)
  have hown : s.vm.findClass RX12 = some m.cls := findClass_of_methodNamed B.named
  have hlocks := B.notSynchronized
  have hh : Hp D (Nf sz) (fun _ => True) s.heap s.heap [] cs ad en := ⟨hP, hD0, va_S.rf⟩
  have hA : ∀ q : Nat, s.heap.size ≤ q → Nf sz q := fun q h => by rw [hsz] at h; exact h
  have hl := lv_entry ([.ref (ad 0), .int (nI t)]) (n := 4) (Nat.le_of_ble_eq_true rfl)
  rw [lg_entry_eq]
  generalize (lg_sl ([.ref (ad 0), .int (nI t)]) ++ List.replicate (4 - (lg_sl ([.ref (ad 0), .int (nI t)])).length) Slot.unset).toArray = ls at hl ⊢
  have hl : lv_has ls 4 [(0, .ref (ad 0)), (1, .int (nI t))] := hl
  obtain ⟨fa, hi, wd, mo, tb, dp, many, grt, lst, nou, rm, rb, pr, wo, es1180, hwd2, hwd3, hmo, htb, hwo⟩ := getr_M hI
  obtain ⟨f_1181, es1181⟩ := getr_E hI
  refine lv_iconst (v := 0) hx hb dX12_trackOf_0 (by decide) ?_
  refine lv_istore_n (lv' := [(2, .int 0), (0, .ref (ad 0)), (1, .int (nI t))]) hx hb dX12_trackOf_1 rfl hl (by decide) rfl (fun ls hl => ?_)
  refine lv_iconst (v := 0) hx hb dX12_trackOf_2 (by decide) ?_
  refine lv_istore_n (lv' := [(3, .int 0), (2, .int 0), (0, .ref (ad 0)), (1, .int (nI t))]) hx hb dX12_trackOf_3 rfl hl (by decide) rfl (fun ls hl => ?_)
  have loop_1182 : ∀ (fu j1182 : Nat) (ac1182 : Int32)  (ls : Array Slot) (H : Heap) (locs : List Loc), 0 ≤ j1182 → j1182 ≤ wd → wd < j1182 + fu →  (ac1182 = sumI (fun i => rdF (en 1) (9 * t + (i * wd + i))) j1182) → lv_has ls 4 [(3, .int (nI j1182)), (2, .int ac1182), (0, .ref (ad 0)), (1, .int (nI t))] → Hp D (Nf sz) (fun _ => True) s.heap H locs cs ad en → W p l e (headSpec (Cond.code yX12_trackOf cX12_trackOf 4 (some .int) :: TB) (rmN 0)).room s m ([.ref (ad 0), .int (nI t)] : List Value).toArray below meth c H locs 0 0 (MQ below (va_Qi (S := Unit) (fun r _ => r = sumI (fun i => rdF (en 1) (9 * t + (i * (rdI (en 0) 2).toNatClampNeg + i))) (rdI (en 0) 2).toNatClampNeg) (fun _ _ => True) (Nf sz)) ([.ref (ad 0), .int (nI t)] : List Value).toArray s 0 0 (Nf sz)) (F0 m 4 ls []) := by
    intro fu
    induction fu with
    | zero => intro j1182 ac1182 ls H locs h0 h1 h2; exact absurd h2 (by omega)
    | succ fu ih_1182 =>
      intro j1182 ac1182 ls H locs hj0_1182 hj_1182 hfu_1182 i0_1182 hl hh
      refine lv_iload_n hx hb dX12_trackOf_4 rfl (lv_at hl 0 rfl) ?_
      refine lv_aload_n hx hb dX12_trackOf_5 rfl (lv_at hl 2 rfl) ?_
      refine hp_get hx hb hts ix12 hown hK hh (q := 0) rfl (hI.1 _ (by decide)) es1180 rfl 2 (by decide) (hts _ tw_881) (fun _ h9 => h9) rfl dX12_trackOf_6 ?_
      refine lv_icmp_ge (tgt := 39) hx hb dX12_trackOf_9 (by decide) (fun c_1183 => ?_) (fun c_1183 => ?_)
      · have n_1183 : wd ≤ j1182 := n_le (a := wd) (b := j1182) c_1183 (by omega) (by omega)
        refine lv_iload_n hx hb dX12_trackOf_39 rfl (lv_at hl 1 rfl) ?_
        exact hp_iretR hx hb hr rfl hlocks hsz hh ((by rw [show rdI (en 0) 2 = nI wd from by rw [es1180]; rfl, nI_clamp (n := wd) (by omega)]; have e9 : j1182 = wd := (by omega); rw [e9] at i0_1182; exact i0_1182)) dX12_trackOf_40
      · have n_1183 : j1182 < wd := n_nle (a := wd) (b := j1182) c_1183 (by omega) (by omega)
        refine lv_iload_n hx hb dX12_trackOf_12 rfl (lv_at hl 1 rfl) ?_
        refine lv_aload_n hx hb dX12_trackOf_13 rfl (lv_at hl 2 rfl) ?_
        refine hp_get hx hb hts ix12 hown hK hh (q := 0) rfl (hI.1 _ (by decide)) es1180 rfl 5 (by decide) (hts _ tw_884) (fun _ h9 => h9) rfl dX12_trackOf_14 ?_
        refine lv_bipush (v := 9) hx hb dX12_trackOf_17 (by decide) ?_
        refine lv_iload_n hx hb dX12_trackOf_19 rfl (lv_at hl 3 rfl) ?_
        refine lv_imul hx hb dX12_trackOf_20 ?_
        rw [show (9 : Int32) = nI 9 from rfl, pk_mul 9 t]
        refine lv_aload_n hx hb dX12_trackOf_21 rfl (lv_at hl 2 rfl) ?_
        refine hp_get hx hb hts ix12 hown hK hh (q := 0) rfl (hI.1 _ (by decide)) es1180 rfl 2 (by decide) (hts _ tw_881) (fun _ h9 => h9) rfl dX12_trackOf_22 ?_
        refine lv_iload_n hx hb dX12_trackOf_25 rfl (lv_at hl 0 rfl) ?_
        refine lv_imul hx hb dX12_trackOf_26 ?_
        rw [pk_mul wd j1182]
        refine lv_iadd hx hb dX12_trackOf_27 ?_
        rw [nI_add (9 * t) (wd * j1182)]
        refine lv_iload_n hx hb dX12_trackOf_28 rfl (lv_at hl 0 rfl) ?_
        refine lv_iadd hx hb dX12_trackOf_29 ?_
        rw [nI_add ((9 * t) + (wd * j1182)) j1182]
        have hi_1184 : wd * j1182 + j1182 < 9 := mdr (by omega) (by omega) (by omega)
        refine hp_iald hx hb hK hh (q := 1) rfl (hI.1 _ (by decide)) es1181 (vp_in_nI (n := (((9 * t) + (wd * j1182)) + j1182)) (by omega) (by decide)) dX12_trackOf_30 ?_
        rw [nI_clamp (n := (((9 * t) + (wd * j1182)) + j1182)) (by omega)]
        refine lv_iadd hx hb dX12_trackOf_31 ?_
        refine lv_istore_n (lv' := [(2, .int (ac1182 + (f_1181 (((9 * t) + (wd * j1182)) + j1182)))), (3, .int (nI j1182)), (0, .ref (ad 0)), (1, .int (nI t))]) hx hb dX12_trackOf_32 rfl hl (by decide) rfl (fun ls hl => ?_)
        refine lv_iinc (v := (nI (j1182 + 1))) (lv' := [(3, .int (nI (j1182 + 1))), (2, .int (ac1182 + (f_1181 (((9 * t) + (wd * j1182)) + j1182)))), (0, .ref (ad 0)), (1, .int (nI t))]) hx hb dX12_trackOf_33 hl (k := 1) rfl (nI_1 _) (by decide) rfl (fun ls hl => ?_)
        refine lv_goto (tgt := 4) hx hb dX12_trackOf_36 (by decide) ?_
        exact ih_1182 ((j1182 + 1)) (ac1182 + (f_1181 (((9 * t) + (wd * j1182)) + j1182))) ls H locs (by omega) (by omega) (by omega) (by rw [i0_1182]; show _ = sumI _ j1182 + rdF (en 1) (9 * t + (j1182 * wd + j1182)); rw [show rdF (en 1) = f_1181 from by rw [es1181]; rfl, Nat.mul_comm j1182 wd, Nat.add_assoc]) (lv_sub hl [0, 1, 2, 3] rfl) hh
  exact loop_1182 (wd + 1) 0 0 ls _ _ (Nat.le_refl _) (by omega) (by omega) (rfl) (lv_sub hl [0, 1, 2, 3] rfl) hh
theorem kw_X12_trackOf {R : Room} {s : State} {args : Array Value} {own : String} {idx : Nat} (hts : ∀ w ∈ TB, w.before args s = true) (hl : Cond.methodLink own idx yX12_trackOf ∈ TB) (hR : 0 + 1 ≤ R.frames ∧ 8 + (4 + 11) + 40 * 0 ≤ R.locals) : CallW R s args own RX12 idx yX12_trackOf cX12_trackOf 4 (some .int) (Cond.code yX12_trackOf cX12_trackOf 4 (some .int) :: TB) (rmN 0) 0 0 1 := cwV 1 hts (TB_V hl tw_1233 ts_63 tw_9 tw_1234) rfl rfl rfl (by decide +kernel) hR
set_option maxHeartbeats 4000000 in
set_option maxRecDepth 100000 in
/-- greatestOf -/
theorem c_X12_greatestOf (l : Launch) (D : va_G) (cy : Nat → ClassId) (sz : Nat) (cs : List Nat) (ad : Nat → Nat) (en : Nat → va_E) (hI : RX cy cs ad en) (t : Nat) (ht6 : t < 6)   : Met l yX12_greatestOf (Cond.code yX12_greatestOf cX12_greatestOf 4 (some .int) :: TB) (rmN 0) (va_Pc [.ref (ad 0), .int (nI t)] (Pre D cy cs ad en sz)) (va_Qi (S := Unit) (fun r _ => r = mxR (fun i => rdF (en 1) (9 * t + i)) ((rdI (en 0) 2).toNatClampNeg * (rdI (en 0) 2).toNatClampNeg)) (fun _ _ => True) (Nf sz)) 0 0 (Nf sz) := by
  refine Met.ofW (cc := cX12_greatestOf) (maxL := 4) (ret := (some .int)) (by decide) rfl ?_
  intro p e s m args below meth c s₁ B hml hv
  obtain ⟨rfl, hsz, hP, hK, hD0⟩ := hv
  have hx := B.exec
  have hb := B.bytes
  have hr := B.returns
  have hts : ∀ w ∈ TB, w.before _ s = true := fun w h => atoms_spec (ws := _ :: TB) B.pre w (List.mem_cons_of_mem _ h)
  have hown : s.vm.findClass RX12 = some m.cls := findClass_of_methodNamed B.named
  have hlocks := B.notSynchronized
  have hh : Hp D (Nf sz) (fun _ => True) s.heap s.heap [] cs ad en := ⟨hP, hD0, va_S.rf⟩
  have hA : ∀ q : Nat, s.heap.size ≤ q → Nf sz q := fun q h => by rw [hsz] at h; exact h
  have hl := lv_entry ([.ref (ad 0), .int (nI t)]) (n := 4) (Nat.le_of_ble_eq_true rfl)
  rw [lg_entry_eq]
  generalize (lg_sl ([.ref (ad 0), .int (nI t)]) ++ List.replicate (4 - (lg_sl ([.ref (ad 0), .int (nI t)])).length) Slot.unset).toArray = ls at hl ⊢
  have hl : lv_has ls 4 [(0, .ref (ad 0)), (1, .int (nI t))] := hl
  obtain ⟨fa, hi, wd, mo, tb, dp, many, grt, lst, nou, rm, rb, pr, wo, es1185, hwd2, hwd3, hmo, htb, hwo⟩ := getr_M hI
  obtain ⟨f_1186, es1186⟩ := getr_E hI
  have hww : wd * wd ≤ 9 := mww (by omega)
  refine lv_aload_n hx hb dX12_greatestOf_0 rfl (lv_at hl 0 rfl) ?_
  refine hp_get hx hb hts ix12 hown hK hh (q := 0) rfl (hI.1 _ (by decide)) es1185 rfl 5 (by decide) (hts _ tw_884) (fun _ h9 => h9) rfl dX12_greatestOf_1 ?_
  refine lv_bipush (v := 9) hx hb dX12_greatestOf_4 (by decide) ?_
  refine lv_iload_n hx hb dX12_greatestOf_6 rfl (lv_at hl 1 rfl) ?_
  refine lv_imul hx hb dX12_greatestOf_7 ?_
  rw [show (9 : Int32) = nI 9 from rfl, pk_mul 9 t]
  refine hp_iald hx hb hK hh (q := 1) rfl (hI.1 _ (by decide)) es1186 (vp_in_nI (n := (9 * t)) (by omega) (by decide)) dX12_greatestOf_8 ?_
  rw [nI_clamp (n := (9 * t)) (by omega)]
  refine lv_istore_n (lv' := [(2, .int (f_1186 (9 * t))), (0, .ref (ad 0)), (1, .int (nI t))]) hx hb dX12_greatestOf_9 rfl hl (by decide) rfl (fun ls hl => ?_)
  refine lv_iconst (v := 0) hx hb dX12_greatestOf_10 (by decide) ?_
  refine lv_istore_n (lv' := [(3, .int 0), (2, .int (f_1186 (9 * t))), (0, .ref (ad 0)), (1, .int (nI t))]) hx hb dX12_greatestOf_11 rfl hl (by decide) rfl (fun ls hl => ?_)
  have loop_1187 : ∀ (fu j1187 : Nat) (mx1187 : Int32)  (ls : Array Slot) (H : Heap) (locs : List Loc), 0 ≤ j1187 → j1187 ≤ (wd * wd) → (wd * wd) < j1187 + fu →  (mx1187 = mxR (fun i => rdF (en 1) (9 * t + i)) j1187) → lv_has ls 4 [(3, .int (nI j1187)), (2, .int mx1187), (0, .ref (ad 0)), (1, .int (nI t))] → Hp D (Nf sz) (fun _ => True) s.heap H locs cs ad en → W p l e (headSpec (Cond.code yX12_greatestOf cX12_greatestOf 4 (some .int) :: TB) (rmN 0)).room s m ([.ref (ad 0), .int (nI t)] : List Value).toArray below meth c H locs 0 0 (MQ below (va_Qi (S := Unit) (fun r _ => r = mxR (fun i => rdF (en 1) (9 * t + i)) ((rdI (en 0) 2).toNatClampNeg * (rdI (en 0) 2).toNatClampNeg)) (fun _ _ => True) (Nf sz)) ([.ref (ad 0), .int (nI t)] : List Value).toArray s 0 0 (Nf sz)) (F0 m 12 ls []) := by
    intro fu
    induction fu with
    | zero => intro j1187 mx1187 ls H locs h0 h1 h2; exact absurd h2 (by omega)
    | succ fu ih_1187 =>
      intro j1187 mx1187 ls H locs hj0_1187 hj_1187 hfu_1187 i0_1187 hl hh
      refine lv_iload_n hx hb dX12_greatestOf_12 rfl (lv_at hl 0 rfl) ?_
      refine lv_aload_n hx hb dX12_greatestOf_13 rfl (lv_at hl 2 rfl) ?_
      refine hp_get hx hb hts ix12 hown hK hh (q := 0) rfl (hI.1 _ (by decide)) es1185 rfl 2 (by decide) (hts _ tw_881) (fun _ h9 => h9) rfl dX12_greatestOf_14 ?_
      refine lv_aload_n hx hb dX12_greatestOf_17 rfl (lv_at hl 2 rfl) ?_
      refine hp_get hx hb hts ix12 hown hK hh (q := 0) rfl (hI.1 _ (by decide)) es1185 rfl 2 (by decide) (hts _ tw_881) (fun _ h9 => h9) rfl dX12_greatestOf_18 ?_
      refine lv_imul hx hb dX12_greatestOf_21 ?_
      rw [pk_mul wd wd]
      have hw2_1188 : wd * wd ≤ 9 := mww (by omega)
      refine lv_icmp_ge (tgt := 62) hx hb dX12_greatestOf_22 (by decide) (fun c_1189 => ?_) (fun c_1189 => ?_)
      · have n_1189 : (wd * wd) ≤ j1187 := n_le (a := (wd * wd)) (b := j1187) c_1189 (by omega) (by omega)
        refine lv_iload_n hx hb dX12_greatestOf_62 rfl (lv_at hl 1 rfl) ?_
        exact hp_iretR hx hb hr rfl hlocks hsz hh ((by rw [show rdI (en 0) 2 = nI wd from by rw [es1185]; rfl, nI_clamp (n := wd) (by omega)]; have e9 : j1187 = wd * wd := (by omega); rw [e9] at i0_1187; exact i0_1187)) dX12_greatestOf_63
      · have n_1189 : j1187 < (wd * wd) := n_nle (a := (wd * wd)) (b := j1187) c_1189 (by omega) (by omega)
        refine lv_aload_n hx hb dX12_greatestOf_25 rfl (lv_at hl 2 rfl) ?_
        refine hp_get hx hb hts ix12 hown hK hh (q := 0) rfl (hI.1 _ (by decide)) es1185 rfl 5 (by decide) (hts _ tw_884) (fun _ h9 => h9) rfl dX12_greatestOf_26 ?_
        refine lv_bipush (v := 9) hx hb dX12_greatestOf_29 (by decide) ?_
        refine lv_iload_n hx hb dX12_greatestOf_31 rfl (lv_at hl 3 rfl) ?_
        refine lv_imul hx hb dX12_greatestOf_32 ?_
        rw [show (9 : Int32) = nI 9 from rfl, pk_mul 9 t]
        refine lv_iload_n hx hb dX12_greatestOf_33 rfl (lv_at hl 0 rfl) ?_
        refine lv_iadd hx hb dX12_greatestOf_34 ?_
        rw [nI_add (9 * t) j1187]
        refine hp_iald hx hb hK hh (q := 1) rfl (hI.1 _ (by decide)) es1186 (vp_in_nI (n := ((9 * t) + j1187)) (by omega) (by decide)) dX12_greatestOf_35 ?_
        rw [nI_clamp (n := ((9 * t) + j1187)) (by omega)]
        refine lv_iload_n hx hb dX12_greatestOf_36 rfl (lv_at hl 1 rfl) ?_
        refine lv_icmp_le (tgt := 54) hx hb dX12_greatestOf_37 (by decide) (fun c_1190 => ?_) (fun c_1190 => ?_)
        · refine lv_iload_n hx hb dX12_greatestOf_54 rfl (lv_at hl 1 rfl) ?_
          refine lv_istore_n (lv' := [(2, .int mx1187), (3, .int (nI j1187)), (0, .ref (ad 0)), (1, .int (nI t))]) hx hb dX12_greatestOf_55 rfl hl (by decide) rfl (fun ls hl => ?_)
          refine lv_iinc (v := (nI (j1187 + 1))) (lv' := [(3, .int (nI (j1187 + 1))), (2, .int mx1187), (0, .ref (ad 0)), (1, .int (nI t))]) hx hb dX12_greatestOf_56 hl (k := 1) rfl (nI_1 _) (by decide) rfl (fun ls hl => ?_)
          refine lv_goto (tgt := 12) hx hb dX12_greatestOf_59 (by decide) ?_
          exact ih_1187 ((j1187 + 1)) mx1187 ls H locs (by omega) (by omega) (by omega) (by show _ = maxI (mxR (fun i => rdF (en 1) (9 * t + i)) j1187) (rdF (en 1) (9 * t + j1187)); rw [← i0_1187, show rdF (en 1) (9 * t + j1187) = f_1186 (9 * t + j1187) from by rw [es1186]; rfl]; unfold maxI; exact (if_neg (Int32.not_lt.mpr c_1190)).symm) (lv_sub hl [0, 1, 2, 3] rfl) hh
        · refine lv_aload_n hx hb dX12_greatestOf_40 rfl (lv_at hl 2 rfl) ?_
          refine hp_get hx hb hts ix12 hown hK hh (q := 0) rfl (hI.1 _ (by decide)) es1185 rfl 5 (by decide) (hts _ tw_884) (fun _ h9 => h9) rfl dX12_greatestOf_41 ?_
          refine lv_bipush (v := 9) hx hb dX12_greatestOf_44 (by decide) ?_
          refine lv_iload_n hx hb dX12_greatestOf_46 rfl (lv_at hl 3 rfl) ?_
          refine lv_imul hx hb dX12_greatestOf_47 ?_
          rw [show (9 : Int32) = nI 9 from rfl, pk_mul 9 t]
          refine lv_iload_n hx hb dX12_greatestOf_48 rfl (lv_at hl 0 rfl) ?_
          refine lv_iadd hx hb dX12_greatestOf_49 ?_
          rw [nI_add (9 * t) j1187]
          refine hp_iald hx hb hK hh (q := 1) rfl (hI.1 _ (by decide)) es1186 (vp_in_nI (n := ((9 * t) + j1187)) (by omega) (by decide)) dX12_greatestOf_50 ?_
          rw [nI_clamp (n := ((9 * t) + j1187)) (by omega)]
          refine lv_goto (tgt := 55) hx hb dX12_greatestOf_51 (by decide) ?_
          refine lv_istore_n (lv' := [(2, .int (f_1186 ((9 * t) + j1187))), (3, .int (nI j1187)), (0, .ref (ad 0)), (1, .int (nI t))]) hx hb dX12_greatestOf_55 rfl hl (by decide) rfl (fun ls hl => ?_)
          refine lv_iinc (v := (nI (j1187 + 1))) (lv' := [(3, .int (nI (j1187 + 1))), (2, .int (f_1186 ((9 * t) + j1187))), (0, .ref (ad 0)), (1, .int (nI t))]) hx hb dX12_greatestOf_56 hl (k := 1) rfl (nI_1 _) (by decide) rfl (fun ls hl => ?_)
          refine lv_goto (tgt := 12) hx hb dX12_greatestOf_59 (by decide) ?_
          exact ih_1187 ((j1187 + 1)) (f_1186 ((9 * t) + j1187)) ls H locs (by omega) (by omega) (by omega) (by show _ = maxI (mxR (fun i => rdF (en 1) (9 * t + i)) j1187) (rdF (en 1) (9 * t + j1187)); rw [← i0_1187, show rdF (en 1) (9 * t + j1187) = f_1186 (9 * t + j1187) from by rw [es1186]; rfl]; unfold maxI; exact (if_pos (Int32.not_le.mp c_1190)).symm) (lv_sub hl [0, 1, 2, 3] rfl) hh
  exact loop_1187 ((wd * wd) + 1) 0 (f_1186 (9 * t)) ls _ _ (Nat.le_refl _) (by omega) (by omega) ((by show _ = rdF (en 1) (9 * t + 0); rw [show rdF (en 1) = f_1186 from by rw [es1186]; rfl]; rfl)) (lv_sub hl [0, 1, 2, 3] rfl) hh
theorem kw_X12_greatestOf {R : Room} {s : State} {args : Array Value} {own : String} {idx : Nat} (hts : ∀ w ∈ TB, w.before args s = true) (hl : Cond.methodLink own idx yX12_greatestOf ∈ TB) (hR : 0 + 1 ≤ R.frames ∧ 8 + (4 + 11) + 40 * 0 ≤ R.locals) : CallW R s args own RX12 idx yX12_greatestOf cX12_greatestOf 4 (some .int) (Cond.code yX12_greatestOf cX12_greatestOf 4 (some .int) :: TB) (rmN 0) 0 0 1 := cwV 1 hts (TB_V hl tw_1237 ts_64 tw_9 tw_1238) rfl rfl rfl (by decide +kernel) hR
set_option maxHeartbeats 4000000 in
set_option maxRecDepth 100000 in
/-- tell -/
theorem c_X12_tell (l : Launch) (D : va_G) (cy : Nat → ClassId) (sz : Nat) (cs : List Nat) (ad : Nat → Nat) (en : Nat → va_E) (hI : RX cy cs ad en) (t : Int32)   : Met l yX12_tell (Cond.code yX12_tell cX12_tell 3 (some .int) :: TB) (rmN 1) (va_Pc [.ref (ad 0), .int t] (Pre D cy cs ad en sz)) (va_Qi (S := Nat → va_E) (fun r en1 => RX cy cs ad en1 ∧ (∀ c, (c ≠ 0) → en1 c = en c) ∧ RTE t r en en1 ∧ KPx en en1) (PostM D cs ad) (Af cs ad sz)) 0 0 (Af cs ad sz) := by
  refine Met.ofW (cc := cX12_tell) (maxL := 3) (ret := (some .int)) (by decide) rfl ?_
  intro p e s m args below meth c s₁ B hml hv
  obtain ⟨rfl, hsz, hP, hK, hD0⟩ := hv
  have hx := B.exec
  have hb := B.bytes
  have hr := B.returns
  have hts : ∀ w ∈ TB, w.before _ s = true := fun w h => atoms_spec (ws := _ :: TB) B.pre w (List.mem_cons_of_mem _ h)
  have hown : s.vm.findClass RX12 = some m.cls := findClass_of_methodNamed B.named
  have hlocks := B.notSynchronized
  have hh : Hp D (Af cs ad sz) (Af cs ad sz) s.heap s.heap [] cs ad en := ⟨hP, Af_self hD0, va_S.rf⟩
  have hA : ∀ q : Nat, s.heap.size ≤ q → Af cs ad sz q := fun q h => Or.inr (by rw [hsz] at h; exact h)
  have hl := lv_entry ([.ref (ad 0), .int t]) (n := 3) (Nat.le_of_ble_eq_true rfl)
  rw [lg_entry_eq]
  generalize (lg_sl ([.ref (ad 0), .int t]) ++ List.replicate (3 - (lg_sl ([.ref (ad 0), .int t])).length) Slot.unset).toArray = ls at hl ⊢
  have hl : lv_has ls 3 [(0, .ref (ad 0)), (1, .int t)] := hl
  have hf0 : ∀ c, (c ≠ 0) → en c = en c := fun _ _ => rfl
  obtain ⟨fa, hi, wd, mo, tb, dp, many, grt, lst, nou, rm, rb, pr, wo, es1191, hwd2, hwd3, hmo, htb, hwo⟩ := getr_M hI
  refine lv_aload_n hx hb dX12_tell_0 rfl (lv_at hl 0 rfl) ?_
  refine lv_iload_n hx hb dX12_tell_1 rfl (lv_at hl 1 rfl) ?_
  refine hp_callRi (va_runV (As := [.int t]) (rest := []) ⟨hx, hb, hml, hown, hts⟩ (c_X12_isTable l D cy _ cs ad en hI t ) (kw_X12_isTable hts tw_1007 ⟨by decide, by decide⟩) (preV_of hh hK (hI.1 _ (by decide)) es1191 rfl) rfl rfl hl.1 rfl (lv_room (Nat.le_of_ble_eq_true rfl)) dX12_tell_2 ⟨Nat.le_of_ble_eq_true rfl, Nat.le_of_ble_eq_true rfl⟩) hh hA (fun r_1192 H locs hw_1192 hh => ?_)
  rw [show rdI (en 0) 4 = (nI tb) from by rw [es1191]; rfl, nI_toInt (n := tb) (by omega)] at hw_1192
  rcases Decidable.em (0 ≤ t.toInt ∧ t.toInt < (tb : Int)) with hp_1192 | hp_1192
  · obtain rfl : r_1192 = 1 := Eq.trans hw_1192 (if_pos hp_1192)
    obtain ⟨T_1192, rfl, hT_1192⟩ := has_nat hp_1192
    refine lv_if_ne (tgt := 10) hx hb dX12_tell_5 (by decide) (fun _ => ?_) (fun c_0 => absurd c_0 (by decide))
    refine lv_aload_n hx hb dX12_tell_10 rfl (lv_at hl 0 rfl) ?_
    refine lv_iload_n hx hb dX12_tell_11 rfl (lv_at hl 1 rfl) ?_
    refine hp_callRi (va_runV (As := [.int (nI T_1192)]) (rest := []) ⟨hx, hb, hml, hown, hts⟩ (c_X12_kindOf l D cy _ cs ad en hI T_1192 (by omega)) (kw_X12_kindOf hts tw_1223 ⟨by decide, by decide⟩) (preV_of hh hK (hI.1 _ (by decide)) es1191 rfl) rfl rfl hl.1 rfl (lv_room (Nat.le_of_ble_eq_true rfl)) dX12_tell_12 ⟨Nat.le_of_ble_eq_true rfl, Nat.le_of_ble_eq_true rfl⟩) hh hA (fun r_1193 H locs hw_1193 hh => ?_)
    have hk_1193 := hw_1193
    rcases hw_1193 with hb_1193 | hb_1193 | hb_1193
    · obtain rfl : r_1193 = 2 := hb_1193.1
      refine lv_istore_n (lv' := [(2, .int 2), (0, .ref (ad 0)), (1, .int (nI T_1192))]) hx hb dX12_tell_15 rfl hl (by decide) rfl (fun ls hl => ?_)
      refine lv_iload_n hx hb dX12_tell_16 rfl (lv_at hl 0 rfl) ?_
      refine lv_iconst (v := 2) hx hb dX12_tell_17 (by decide) ?_
      refine lv_icmp_ne (tgt := 26) hx hb dX12_tell_18 (by decide) (fun c_0 => absurd c_0 (by decide)) (fun _ => ?_)
      refine lv_aload_n hx hb dX12_tell_21 rfl (lv_at hl 1 rfl) ?_
      refine lv_iconst (v := 3) hx hb dX12_tell_22 (by decide) ?_
      refine hp_callMv (va_runV (As := [.int 3]) (rest := []) ⟨hx, hb, hml, hown, hts⟩ (c_X12_begins l D cy _ cs ad en (hI.1 _ (by decide)) fa hi wd mo tb dp many grt lst nou rm rb pr wo 3 es1191) (kw_X12_begins hts tw_1227 ⟨by decide, by decide⟩) (preV_of hh hK (hI.1 _ (by decide)) es1191 rfl) rfl rfl hl.1 rfl (lv_room (Nat.le_of_ble_eq_true rfl)) dX12_tell_23 ⟨Nat.le_of_ble_eq_true rfl, Nat.le_of_ble_eq_true rfl⟩) hh hA (fun H locs en_1194 hw_1194 hh => ?_)
      have hen_1194 := hw_1194
      have es1191_1194 : en_1194 0 = .inr (11, [.int fa, .int (31 * hi + 3), .int (nI wd), .int (nI mo), .int (nI tb), .ref (ad 1), .ref (ad 2), .ref (ad 3), .ref (ad 4), .ref (ad 5), .ref (ad 6), .ref (ad 7), .ref (ad 8), .ref (ad 9), .int dp, .long many, .long grt, .long lst, .long nou, .ref (ad 10), .ref (ad 11), .ref (ad 12), .int rm, .long rb, .ref (ad 13), .int pr, .ref (ad 14), .ref (ad 15), .ref (ad 16), .ref (ad 17), .int (nI wo), .ref (ad 18), .ref (ad 19)]) := by rw [hen_1194]; exact va_up_self _ _ _
      have hI_1194 : RX cy cs ad en_1194 := by rw [hen_1194]; exact upr_M hI ⟨fa, (31 * hi + 3), wd, mo, tb, dp, many, grt, lst, nou, rm, rb, pr, wo, rfl, hwd2, hwd3, hmo, htb, hwo⟩
      have hf_1194 : ∀ c, (c ≠ 0) → en_1194 c = en c := fun c hc => Eq.trans (show en_1194 c = en c from by rw [hen_1194, va_up_ne _ _ (by omega)]) (hf0 c hc)
      have hkp_1194 : KPx en en_1194 := KPx_fv (KPx_rf en) es1191 es1191_1194 (nI wd) (nI mo) (nI tb) pr (nI wo) rfl rfl rfl rfl rfl rfl rfl rfl rfl rfl
      refine lv_iload_n hx hb dX12_tell_26 rfl (lv_at hl 0 rfl) ?_
      refine lv_if_le (tgt := 35) hx hb dX12_tell_27 (by decide) (fun c_0 => absurd c_0 (by decide)) (fun _ => ?_)
      refine lv_aload_n hx hb dX12_tell_30 rfl (lv_at hl 1 rfl) ?_
      refine lv_iconst (v := 2) hx hb dX12_tell_31 (by decide) ?_
      refine hp_callMv (va_runV (As := [.int 2]) (rest := []) ⟨hx, hb, hml, hown, hts⟩ (c_X12_begins l D cy _ cs ad en_1194 (hI.1 _ (by decide)) fa (31 * hi + 3) wd mo tb dp many grt lst nou rm rb pr wo 2 es1191_1194) (kw_X12_begins hts tw_1227 ⟨by decide, by decide⟩) (preV_of hh hK (hI.1 _ (by decide)) es1191_1194 rfl) rfl rfl hl.1 rfl (lv_room (Nat.le_of_ble_eq_true rfl)) dX12_tell_32 ⟨Nat.le_of_ble_eq_true rfl, Nat.le_of_ble_eq_true rfl⟩) hh hA (fun H locs en_1195 hw_1195 hh => ?_)
      have hen_1195 := hw_1195
      have es1191_1195 : en_1195 0 = .inr (11, [.int fa, .int (31 * (31 * hi + 3) + 2), .int (nI wd), .int (nI mo), .int (nI tb), .ref (ad 1), .ref (ad 2), .ref (ad 3), .ref (ad 4), .ref (ad 5), .ref (ad 6), .ref (ad 7), .ref (ad 8), .ref (ad 9), .int dp, .long many, .long grt, .long lst, .long nou, .ref (ad 10), .ref (ad 11), .ref (ad 12), .int rm, .long rb, .ref (ad 13), .int pr, .ref (ad 14), .ref (ad 15), .ref (ad 16), .ref (ad 17), .int (nI wo), .ref (ad 18), .ref (ad 19)]) := by rw [hen_1195]; exact va_up_self _ _ _
      have hI_1195 : RX cy cs ad en_1195 := by rw [hen_1195]; exact upr_M hI_1194 ⟨fa, (31 * (31 * hi + 3) + 2), wd, mo, tb, dp, many, grt, lst, nou, rm, rb, pr, wo, rfl, hwd2, hwd3, hmo, htb, hwo⟩
      have hf_1195 : ∀ c, (c ≠ 0) → en_1195 c = en c := fun c hc => Eq.trans (show en_1195 c = en_1194 c from by rw [hen_1195, va_up_ne _ _ (by omega)]) (hf_1194 c hc)
      have hkp_1195 : KPx en en_1195 := KPx_fv hkp_1194 es1191_1194 es1191_1195 (nI wd) (nI mo) (nI tb) pr (nI wo) rfl rfl rfl rfl rfl rfl rfl rfl rfl rfl
      refine lv_aload_n hx hb dX12_tell_35 rfl (lv_at hl 1 rfl) ?_
      refine lv_iconst (v := 1) hx hb dX12_tell_36 (by decide) ?_
      refine hp_callMv (va_runV (As := [.int 1]) (rest := []) ⟨hx, hb, hml, hown, hts⟩ (c_X12_begins l D cy _ cs ad en_1195 (hI.1 _ (by decide)) fa (31 * (31 * hi + 3) + 2) wd mo tb dp many grt lst nou rm rb pr wo 1 es1191_1195) (kw_X12_begins hts tw_1227 ⟨by decide, by decide⟩) (preV_of hh hK (hI.1 _ (by decide)) es1191_1195 rfl) rfl rfl hl.1 rfl (lv_room (Nat.le_of_ble_eq_true rfl)) dX12_tell_37 ⟨Nat.le_of_ble_eq_true rfl, Nat.le_of_ble_eq_true rfl⟩) hh hA (fun H locs en_1196 hw_1196 hh => ?_)
      have hen_1196 := hw_1196
      have es1191_1196 : en_1196 0 = .inr (11, [.int fa, .int (31 * (31 * (31 * hi + 3) + 2) + 1), .int (nI wd), .int (nI mo), .int (nI tb), .ref (ad 1), .ref (ad 2), .ref (ad 3), .ref (ad 4), .ref (ad 5), .ref (ad 6), .ref (ad 7), .ref (ad 8), .ref (ad 9), .int dp, .long many, .long grt, .long lst, .long nou, .ref (ad 10), .ref (ad 11), .ref (ad 12), .int rm, .long rb, .ref (ad 13), .int pr, .ref (ad 14), .ref (ad 15), .ref (ad 16), .ref (ad 17), .int (nI wo), .ref (ad 18), .ref (ad 19)]) := by rw [hen_1196]; exact va_up_self _ _ _
      have hI_1196 : RX cy cs ad en_1196 := by rw [hen_1196]; exact upr_M hI_1195 ⟨fa, (31 * (31 * (31 * hi + 3) + 2) + 1), wd, mo, tb, dp, many, grt, lst, nou, rm, rb, pr, wo, rfl, hwd2, hwd3, hmo, htb, hwo⟩
      have hf_1196 : ∀ c, (c ≠ 0) → en_1196 c = en c := fun c hc => Eq.trans (show en_1196 c = en_1195 c from by rw [hen_1196, va_up_ne _ _ (by omega)]) (hf_1195 c hc)
      have hkp_1196 : KPx en en_1196 := KPx_fv hkp_1195 es1191_1195 es1191_1196 (nI wd) (nI mo) (nI tb) pr (nI wo) rfl rfl rfl rfl rfl rfl rfl rfl rfl rfl
      refine lv_iload_n hx hb dX12_tell_40 rfl (lv_at hl 0 rfl) ?_
      refine lv_iconst (v := 2) hx hb dX12_tell_41 (by decide) ?_
      refine lv_icmp_ne (tgt := 50) hx hb dX12_tell_42 (by decide) (fun c_0 => absurd c_0 (by decide)) (fun _ => ?_)
      refine lv_aload_n hx hb dX12_tell_45 rfl (lv_at hl 1 rfl) ?_
      refine lv_iconst (v := 1) hx hb dX12_tell_46 (by decide) ?_
      refine hp_callMv (va_runV (As := [.int 1]) (rest := []) ⟨hx, hb, hml, hown, hts⟩ (c_X12_begins l D cy _ cs ad en_1196 (hI.1 _ (by decide)) fa (31 * (31 * (31 * hi + 3) + 2) + 1) wd mo tb dp many grt lst nou rm rb pr wo 1 es1191_1196) (kw_X12_begins hts tw_1227 ⟨by decide, by decide⟩) (preV_of hh hK (hI.1 _ (by decide)) es1191_1196 rfl) rfl rfl hl.1 rfl (lv_room (Nat.le_of_ble_eq_true rfl)) dX12_tell_47 ⟨Nat.le_of_ble_eq_true rfl, Nat.le_of_ble_eq_true rfl⟩) hh hA (fun H locs en_1197 hw_1197 hh => ?_)
      have hen_1197 := hw_1197
      have es1191_1197 : en_1197 0 = .inr (11, [.int fa, .int (31 * (31 * (31 * (31 * hi + 3) + 2) + 1) + 1), .int (nI wd), .int (nI mo), .int (nI tb), .ref (ad 1), .ref (ad 2), .ref (ad 3), .ref (ad 4), .ref (ad 5), .ref (ad 6), .ref (ad 7), .ref (ad 8), .ref (ad 9), .int dp, .long many, .long grt, .long lst, .long nou, .ref (ad 10), .ref (ad 11), .ref (ad 12), .int rm, .long rb, .ref (ad 13), .int pr, .ref (ad 14), .ref (ad 15), .ref (ad 16), .ref (ad 17), .int (nI wo), .ref (ad 18), .ref (ad 19)]) := by rw [hen_1197]; exact va_up_self _ _ _
      have hI_1197 : RX cy cs ad en_1197 := by rw [hen_1197]; exact upr_M hI_1196 ⟨fa, (31 * (31 * (31 * (31 * hi + 3) + 2) + 1) + 1), wd, mo, tb, dp, many, grt, lst, nou, rm, rb, pr, wo, rfl, hwd2, hwd3, hmo, htb, hwo⟩
      have hf_1197 : ∀ c, (c ≠ 0) → en_1197 c = en c := fun c hc => Eq.trans (show en_1197 c = en_1196 c from by rw [hen_1197, va_up_ne _ _ (by omega)]) (hf_1196 c hc)
      have hkp_1197 : KPx en en_1197 := KPx_fv hkp_1196 es1191_1196 es1191_1197 (nI wd) (nI mo) (nI tb) pr (nI wo) rfl rfl rfl rfl rfl rfl rfl rfl rfl rfl
      refine lv_iload_n hx hb dX12_tell_50 rfl (lv_at hl 0 rfl) ?_
      refine lv_if_ne (tgt := 62) hx hb dX12_tell_51 (by decide) (fun _ => ?_) (fun c_0 => absurd c_0 (by decide))
      refine lv_iload_n hx hb dX12_tell_62 rfl (lv_at hl 0 rfl) ?_
      refine lv_iconst (v := 1) hx hb dX12_tell_63 (by decide) ?_
      refine lv_icmp_ne (tgt := 81) hx hb dX12_tell_64 (by decide) (fun _ => ?_) (fun c_0 => absurd c_0 (by decide))
      refine lv_iconst (v := 2) hx hb dX12_tell_81 (by decide) ?_
      refine lv_aload_n hx hb dX12_tell_82 rfl (lv_at hl 1 rfl) ?_
      refine lv_iload_n hx hb dX12_tell_83 rfl (lv_at hl 2 rfl) ?_
      refine hp_callRi (va_runV (As := [.int (nI T_1192)]) (rest := [.int 2]) ⟨hx, hb, hml, hown, hts⟩ (c_X12_trackOf l D cy _ cs ad en_1197 hI_1197 T_1192 (by omega)) (kw_X12_trackOf hts tw_1231 ⟨by decide, by decide⟩) (preV_of hh hK (hI.1 _ (by decide)) es1191_1197 rfl) rfl rfl hl.1 rfl (lv_room (Nat.le_of_ble_eq_true rfl)) dX12_tell_84 ⟨Nat.le_of_ble_eq_true rfl, Nat.le_of_ble_eq_true rfl⟩) hh hA (fun r_1198 H locs hw_1198 hh => ?_)
      rw [hf_1197 1 (by decide), hkp_1197.1] at hw_1198
      refine lv_imul hx hb dX12_tell_87 ?_
      refine lv_aload_n hx hb dX12_tell_88 rfl (lv_at hl 1 rfl) ?_
      refine lv_iload_n hx hb dX12_tell_89 rfl (lv_at hl 2 rfl) ?_
      refine hp_callRi (va_runV (As := [.int (nI T_1192)]) (rest := [.int (2 * r_1198)]) ⟨hx, hb, hml, hown, hts⟩ (c_X12_greatestOf l D cy _ cs ad en_1197 hI_1197 T_1192 (by omega)) (kw_X12_greatestOf hts tw_1235 ⟨by decide, by decide⟩) (preV_of hh hK (hI.1 _ (by decide)) es1191_1197 rfl) rfl rfl hl.1 rfl (lv_room (Nat.le_of_ble_eq_true rfl)) dX12_tell_90 ⟨Nat.le_of_ble_eq_true rfl, Nat.le_of_ble_eq_true rfl⟩) hh hA (fun r_1199 H locs hw_1199 hh => ?_)
      rw [hf_1197 1 (by decide), hkp_1197.1] at hw_1199
      refine lv_iadd hx hb dX12_tell_93 ?_
      have hc4 : (rdI (en 0) 4).toInt = (tb : Int) := by rw [es1191]; exact nI_toInt (by omega)
      exact hp_iretM hx hb hr rfl hlocks hh (⟨hI_1197, hf_1197, Or.inr ⟨T_1192, 2, rfl, by omega, ⟨hp_1192.1, by have := hp_1192.2; omega⟩, hk_1193, Or.inr (Or.inr ⟨rfl, (by rw [hw_1198, hw_1199]; rfl), (by rw [es1191_1197, es1191]; rfl)⟩)⟩, hkp_1197⟩) dX12_tell_94
    · obtain rfl : r_1193 = 1 := hb_1193.1
      refine lv_istore_n (lv' := [(2, .int 1), (0, .ref (ad 0)), (1, .int (nI T_1192))]) hx hb dX12_tell_15 rfl hl (by decide) rfl (fun ls hl => ?_)
      refine lv_iload_n hx hb dX12_tell_16 rfl (lv_at hl 0 rfl) ?_
      refine lv_iconst (v := 2) hx hb dX12_tell_17 (by decide) ?_
      refine lv_icmp_ne (tgt := 26) hx hb dX12_tell_18 (by decide) (fun _ => ?_) (fun c_0 => absurd c_0 (by decide))
      refine lv_iload_n hx hb dX12_tell_26 rfl (lv_at hl 0 rfl) ?_
      refine lv_if_le (tgt := 35) hx hb dX12_tell_27 (by decide) (fun c_0 => absurd c_0 (by decide)) (fun _ => ?_)
      refine lv_aload_n hx hb dX12_tell_30 rfl (lv_at hl 1 rfl) ?_
      refine lv_iconst (v := 2) hx hb dX12_tell_31 (by decide) ?_
      refine hp_callMv (va_runV (As := [.int 2]) (rest := []) ⟨hx, hb, hml, hown, hts⟩ (c_X12_begins l D cy _ cs ad en (hI.1 _ (by decide)) fa hi wd mo tb dp many grt lst nou rm rb pr wo 2 es1191) (kw_X12_begins hts tw_1227 ⟨by decide, by decide⟩) (preV_of hh hK (hI.1 _ (by decide)) es1191 rfl) rfl rfl hl.1 rfl (lv_room (Nat.le_of_ble_eq_true rfl)) dX12_tell_32 ⟨Nat.le_of_ble_eq_true rfl, Nat.le_of_ble_eq_true rfl⟩) hh hA (fun H locs en_1200 hw_1200 hh => ?_)
      have hen_1200 := hw_1200
      have es1191_1200 : en_1200 0 = .inr (11, [.int fa, .int (31 * hi + 2), .int (nI wd), .int (nI mo), .int (nI tb), .ref (ad 1), .ref (ad 2), .ref (ad 3), .ref (ad 4), .ref (ad 5), .ref (ad 6), .ref (ad 7), .ref (ad 8), .ref (ad 9), .int dp, .long many, .long grt, .long lst, .long nou, .ref (ad 10), .ref (ad 11), .ref (ad 12), .int rm, .long rb, .ref (ad 13), .int pr, .ref (ad 14), .ref (ad 15), .ref (ad 16), .ref (ad 17), .int (nI wo), .ref (ad 18), .ref (ad 19)]) := by rw [hen_1200]; exact va_up_self _ _ _
      have hI_1200 : RX cy cs ad en_1200 := by rw [hen_1200]; exact upr_M hI ⟨fa, (31 * hi + 2), wd, mo, tb, dp, many, grt, lst, nou, rm, rb, pr, wo, rfl, hwd2, hwd3, hmo, htb, hwo⟩
      have hf_1200 : ∀ c, (c ≠ 0) → en_1200 c = en c := fun c hc => Eq.trans (show en_1200 c = en c from by rw [hen_1200, va_up_ne _ _ (by omega)]) (hf0 c hc)
      have hkp_1200 : KPx en en_1200 := KPx_fv (KPx_rf en) es1191 es1191_1200 (nI wd) (nI mo) (nI tb) pr (nI wo) rfl rfl rfl rfl rfl rfl rfl rfl rfl rfl
      refine lv_aload_n hx hb dX12_tell_35 rfl (lv_at hl 1 rfl) ?_
      refine lv_iconst (v := 1) hx hb dX12_tell_36 (by decide) ?_
      refine hp_callMv (va_runV (As := [.int 1]) (rest := []) ⟨hx, hb, hml, hown, hts⟩ (c_X12_begins l D cy _ cs ad en_1200 (hI.1 _ (by decide)) fa (31 * hi + 2) wd mo tb dp many grt lst nou rm rb pr wo 1 es1191_1200) (kw_X12_begins hts tw_1227 ⟨by decide, by decide⟩) (preV_of hh hK (hI.1 _ (by decide)) es1191_1200 rfl) rfl rfl hl.1 rfl (lv_room (Nat.le_of_ble_eq_true rfl)) dX12_tell_37 ⟨Nat.le_of_ble_eq_true rfl, Nat.le_of_ble_eq_true rfl⟩) hh hA (fun H locs en_1201 hw_1201 hh => ?_)
      have hen_1201 := hw_1201
      have es1191_1201 : en_1201 0 = .inr (11, [.int fa, .int (31 * (31 * hi + 2) + 1), .int (nI wd), .int (nI mo), .int (nI tb), .ref (ad 1), .ref (ad 2), .ref (ad 3), .ref (ad 4), .ref (ad 5), .ref (ad 6), .ref (ad 7), .ref (ad 8), .ref (ad 9), .int dp, .long many, .long grt, .long lst, .long nou, .ref (ad 10), .ref (ad 11), .ref (ad 12), .int rm, .long rb, .ref (ad 13), .int pr, .ref (ad 14), .ref (ad 15), .ref (ad 16), .ref (ad 17), .int (nI wo), .ref (ad 18), .ref (ad 19)]) := by rw [hen_1201]; exact va_up_self _ _ _
      have hI_1201 : RX cy cs ad en_1201 := by rw [hen_1201]; exact upr_M hI_1200 ⟨fa, (31 * (31 * hi + 2) + 1), wd, mo, tb, dp, many, grt, lst, nou, rm, rb, pr, wo, rfl, hwd2, hwd3, hmo, htb, hwo⟩
      have hf_1201 : ∀ c, (c ≠ 0) → en_1201 c = en c := fun c hc => Eq.trans (show en_1201 c = en_1200 c from by rw [hen_1201, va_up_ne _ _ (by omega)]) (hf_1200 c hc)
      have hkp_1201 : KPx en en_1201 := KPx_fv hkp_1200 es1191_1200 es1191_1201 (nI wd) (nI mo) (nI tb) pr (nI wo) rfl rfl rfl rfl rfl rfl rfl rfl rfl rfl
      refine lv_iload_n hx hb dX12_tell_40 rfl (lv_at hl 0 rfl) ?_
      refine lv_iconst (v := 2) hx hb dX12_tell_41 (by decide) ?_
      refine lv_icmp_ne (tgt := 50) hx hb dX12_tell_42 (by decide) (fun _ => ?_) (fun c_0 => absurd c_0 (by decide))
      refine lv_iload_n hx hb dX12_tell_50 rfl (lv_at hl 0 rfl) ?_
      refine lv_if_ne (tgt := 62) hx hb dX12_tell_51 (by decide) (fun _ => ?_) (fun c_0 => absurd c_0 (by decide))
      refine lv_iload_n hx hb dX12_tell_62 rfl (lv_at hl 0 rfl) ?_
      refine lv_iconst (v := 1) hx hb dX12_tell_63 (by decide) ?_
      refine lv_icmp_ne (tgt := 81) hx hb dX12_tell_64 (by decide) (fun c_0 => absurd c_0 (by decide)) (fun _ => ?_)
      refine lv_aload_n hx hb dX12_tell_67 rfl (lv_at hl 1 rfl) ?_
      refine lv_iload_n hx hb dX12_tell_68 rfl (lv_at hl 2 rfl) ?_
      refine hp_callRi (va_runV (As := [.int (nI T_1192)]) (rest := []) ⟨hx, hb, hml, hown, hts⟩ (c_X12_trackOf l D cy _ cs ad en_1201 hI_1201 T_1192 (by omega)) (kw_X12_trackOf hts tw_1231 ⟨by decide, by decide⟩) (preV_of hh hK (hI.1 _ (by decide)) es1191_1201 rfl) rfl rfl hl.1 rfl (lv_room (Nat.le_of_ble_eq_true rfl)) dX12_tell_69 ⟨Nat.le_of_ble_eq_true rfl, Nat.le_of_ble_eq_true rfl⟩) hh hA (fun r_1202 H locs hw_1202 hh => ?_)
      rw [hf_1201 1 (by decide), hkp_1201.1] at hw_1202
      refine lv_aload_n hx hb dX12_tell_72 rfl (lv_at hl 1 rfl) ?_
      refine lv_iload_n hx hb dX12_tell_73 rfl (lv_at hl 2 rfl) ?_
      refine hp_callRi (va_runV (As := [.int (nI T_1192)]) (rest := [.int r_1202]) ⟨hx, hb, hml, hown, hts⟩ (c_X12_greatestOf l D cy _ cs ad en_1201 hI_1201 T_1192 (by omega)) (kw_X12_greatestOf hts tw_1235 ⟨by decide, by decide⟩) (preV_of hh hK (hI.1 _ (by decide)) es1191_1201 rfl) rfl rfl hl.1 rfl (lv_room (Nat.le_of_ble_eq_true rfl)) dX12_tell_74 ⟨Nat.le_of_ble_eq_true rfl, Nat.le_of_ble_eq_true rfl⟩) hh hA (fun r_1203 H locs hw_1203 hh => ?_)
      rw [hf_1201 1 (by decide), hkp_1201.1] at hw_1203
      refine lv_iadd hx hb dX12_tell_77 ?_
      refine lv_goto (tgt := 94) hx hb dX12_tell_78 (by decide) ?_
      have hc4 : (rdI (en 0) 4).toInt = (tb : Int) := by rw [es1191]; exact nI_toInt (by omega)
      exact hp_iretM hx hb hr rfl hlocks hh (⟨hI_1201, hf_1201, Or.inr ⟨T_1192, 1, rfl, by omega, ⟨hp_1192.1, by have := hp_1192.2; omega⟩, hk_1193, Or.inr (Or.inl ⟨rfl, (by rw [hw_1202, hw_1203]; rfl), (by rw [es1191_1201, es1191]; rfl)⟩)⟩, hkp_1201⟩) dX12_tell_94
    · obtain rfl : r_1193 = 0 := hb_1193.1
      refine lv_istore_n (lv' := [(2, .int 0), (0, .ref (ad 0)), (1, .int (nI T_1192))]) hx hb dX12_tell_15 rfl hl (by decide) rfl (fun ls hl => ?_)
      refine lv_iload_n hx hb dX12_tell_16 rfl (lv_at hl 0 rfl) ?_
      refine lv_iconst (v := 2) hx hb dX12_tell_17 (by decide) ?_
      refine lv_icmp_ne (tgt := 26) hx hb dX12_tell_18 (by decide) (fun _ => ?_) (fun c_0 => absurd c_0 (by decide))
      refine lv_iload_n hx hb dX12_tell_26 rfl (lv_at hl 0 rfl) ?_
      refine lv_if_le (tgt := 35) hx hb dX12_tell_27 (by decide) (fun _ => ?_) (fun c_0 => absurd c_0 (by decide))
      refine lv_aload_n hx hb dX12_tell_35 rfl (lv_at hl 1 rfl) ?_
      refine lv_iconst (v := 1) hx hb dX12_tell_36 (by decide) ?_
      refine hp_callMv (va_runV (As := [.int 1]) (rest := []) ⟨hx, hb, hml, hown, hts⟩ (c_X12_begins l D cy _ cs ad en (hI.1 _ (by decide)) fa hi wd mo tb dp many grt lst nou rm rb pr wo 1 es1191) (kw_X12_begins hts tw_1227 ⟨by decide, by decide⟩) (preV_of hh hK (hI.1 _ (by decide)) es1191 rfl) rfl rfl hl.1 rfl (lv_room (Nat.le_of_ble_eq_true rfl)) dX12_tell_37 ⟨Nat.le_of_ble_eq_true rfl, Nat.le_of_ble_eq_true rfl⟩) hh hA (fun H locs en_1204 hw_1204 hh => ?_)
      have hen_1204 := hw_1204
      have es1191_1204 : en_1204 0 = .inr (11, [.int fa, .int (31 * hi + 1), .int (nI wd), .int (nI mo), .int (nI tb), .ref (ad 1), .ref (ad 2), .ref (ad 3), .ref (ad 4), .ref (ad 5), .ref (ad 6), .ref (ad 7), .ref (ad 8), .ref (ad 9), .int dp, .long many, .long grt, .long lst, .long nou, .ref (ad 10), .ref (ad 11), .ref (ad 12), .int rm, .long rb, .ref (ad 13), .int pr, .ref (ad 14), .ref (ad 15), .ref (ad 16), .ref (ad 17), .int (nI wo), .ref (ad 18), .ref (ad 19)]) := by rw [hen_1204]; exact va_up_self _ _ _
      have hI_1204 : RX cy cs ad en_1204 := by rw [hen_1204]; exact upr_M hI ⟨fa, (31 * hi + 1), wd, mo, tb, dp, many, grt, lst, nou, rm, rb, pr, wo, rfl, hwd2, hwd3, hmo, htb, hwo⟩
      have hf_1204 : ∀ c, (c ≠ 0) → en_1204 c = en c := fun c hc => Eq.trans (show en_1204 c = en c from by rw [hen_1204, va_up_ne _ _ (by omega)]) (hf0 c hc)
      have hkp_1204 : KPx en en_1204 := KPx_fv (KPx_rf en) es1191 es1191_1204 (nI wd) (nI mo) (nI tb) pr (nI wo) rfl rfl rfl rfl rfl rfl rfl rfl rfl rfl
      refine lv_iload_n hx hb dX12_tell_40 rfl (lv_at hl 0 rfl) ?_
      refine lv_iconst (v := 2) hx hb dX12_tell_41 (by decide) ?_
      refine lv_icmp_ne (tgt := 50) hx hb dX12_tell_42 (by decide) (fun _ => ?_) (fun c_0 => absurd c_0 (by decide))
      refine lv_iload_n hx hb dX12_tell_50 rfl (lv_at hl 0 rfl) ?_
      refine lv_if_ne (tgt := 62) hx hb dX12_tell_51 (by decide) (fun c_0 => absurd c_0 (by decide)) (fun _ => ?_)
      refine lv_aload_n hx hb dX12_tell_54 rfl (lv_at hl 1 rfl) ?_
      refine lv_iload_n hx hb dX12_tell_55 rfl (lv_at hl 2 rfl) ?_
      refine hp_callRi (va_runV (As := [.int (nI T_1192)]) (rest := []) ⟨hx, hb, hml, hown, hts⟩ (c_X12_trackOf l D cy _ cs ad en_1204 hI_1204 T_1192 (by omega)) (kw_X12_trackOf hts tw_1231 ⟨by decide, by decide⟩) (preV_of hh hK (hI.1 _ (by decide)) es1191_1204 rfl) rfl rfl hl.1 rfl (lv_room (Nat.le_of_ble_eq_true rfl)) dX12_tell_56 ⟨Nat.le_of_ble_eq_true rfl, Nat.le_of_ble_eq_true rfl⟩) hh hA (fun r_1205 H locs hw_1205 hh => ?_)
      rw [hf_1204 1 (by decide), hkp_1204.1] at hw_1205
      refine lv_goto (tgt := 94) hx hb dX12_tell_59 (by decide) ?_
      have hc4 : (rdI (en 0) 4).toInt = (tb : Int) := by rw [es1191]; exact nI_toInt (by omega)
      exact hp_iretM hx hb hr rfl hlocks hh (⟨hI_1204, hf_1204, Or.inr ⟨T_1192, 0, rfl, by omega, ⟨hp_1192.1, by have := hp_1192.2; omega⟩, hk_1193, Or.inl ⟨rfl, hw_1205, (by rw [es1191_1204, es1191]; rfl)⟩⟩, hkp_1204⟩) dX12_tell_94
  · obtain rfl : r_1192 = 0 := Eq.trans hw_1192 (if_neg hp_1192)
    refine lv_if_ne (tgt := 10) hx hb dX12_tell_5 (by decide) (fun c_0 => absurd c_0 (by decide)) (fun _ => ?_)
    refine lv_iconst (v := (-1)) hx hb dX12_tell_8 (by decide) ?_
    have hc4 : (rdI (en 0) 4).toInt = (tb : Int) := by rw [es1191]; exact nI_toInt (by omega)
    exact hp_iretM hx hb hr rfl hlocks hh (⟨hI, hf0, Or.inl ⟨fun q => hp_1192 ⟨q.1, by have := q.2; omega⟩, rfl, rfl⟩, (KPx_rf en)⟩) dX12_tell_9
theorem kw_X12_tell {R : Room} {s : State} {args : Array Value} {own : String} {idx : Nat} (hts : ∀ w ∈ TB, w.before args s = true) (hl : Cond.methodLink own idx yX12_tell ∈ TB) (hR : 1 + 1 ≤ R.frames ∧ 8 + (3 + 11) + 40 * 1 ≤ R.locals) : CallW R s args own RX12 idx yX12_tell cX12_tell 3 (some .int) (Cond.code yX12_tell cX12_tell 3 (some .int) :: TB) (rmN 1) 0 0 1 := cwV 1 hts (TB_V hl tw_1220 tw_1221 tw_9 tw_1222) rfl rfl rfl (by decide +kernel) hR
set_option maxHeartbeats 4000000 in
set_option maxRecDepth 100000 in
/-- weigh -/
theorem c_X12_weigh (l : Launch) (D : va_G) (cy : Nat → ClassId) (sz : Nat) (cs : List Nat) (ad : Nat → Nat) (en : Nat → va_E) (hI : RX cy cs ad en) (t : Int32)   : Met l yX12_weigh (Cond.code yX12_weigh cX12_weigh 3 (some .int) :: TB) (rmN 1) (va_Pc [.ref (ad 0), .int t] (Pre D cy cs ad en sz)) (va_Qi (S := Nat → va_E) (fun r en1 => RX cy cs ad en1 ∧ (∀ c, (c ≠ 0) → en1 c = en c) ∧ RWE t r en en1 ∧ KPx en en1) (PostM D cs ad) (Af cs ad sz)) 0 0 (Af cs ad sz) := by
  refine Met.ofW (cc := cX12_weigh) (maxL := 3) (ret := (some .int)) (by decide) rfl ?_
  intro p e s m args below meth c s₁ B hml hv
  obtain ⟨rfl, hsz, hP, hK, hD0⟩ := hv
  have hx := B.exec
  have hb := B.bytes
  have hr := B.returns
  have hts : ∀ w ∈ TB, w.before _ s = true := fun w h => atoms_spec (ws := _ :: TB) B.pre w (List.mem_cons_of_mem _ h)
  have hown : s.vm.findClass RX12 = some m.cls := findClass_of_methodNamed B.named
  have hlocks := B.notSynchronized
  have hh : Hp D (Af cs ad sz) (Af cs ad sz) s.heap s.heap [] cs ad en := ⟨hP, Af_self hD0, va_S.rf⟩
  have hA : ∀ q : Nat, s.heap.size ≤ q → Af cs ad sz q := fun q h => Or.inr (by rw [hsz] at h; exact h)
  have hl := lv_entry ([.ref (ad 0), .int t]) (n := 3) (Nat.le_of_ble_eq_true rfl)
  rw [lg_entry_eq]
  generalize (lg_sl ([.ref (ad 0), .int t]) ++ List.replicate (3 - (lg_sl ([.ref (ad 0), .int t])).length) Slot.unset).toArray = ls at hl ⊢
  have hl : lv_has ls 3 [(0, .ref (ad 0)), (1, .int t)] := hl
  have hf0 : ∀ c, (c ≠ 0) → en c = en c := fun _ _ => rfl
  obtain ⟨fa, hi, wd, mo, tb, dp, many, grt, lst, nou, rm, rb, pr, wo, es1206, hwd2, hwd3, hmo, htb, hwo⟩ := getr_M hI
  refine lv_aload_n hx hb dX12_weigh_0 rfl (lv_at hl 0 rfl) ?_
  refine lv_iload_n hx hb dX12_weigh_1 rfl (lv_at hl 1 rfl) ?_
  refine hp_callRi (va_runV (As := [.int t]) (rest := []) ⟨hx, hb, hml, hown, hts⟩ (c_X12_isTable l D cy _ cs ad en hI t ) (kw_X12_isTable hts tw_1007 ⟨by decide, by decide⟩) (preV_of hh hK (hI.1 _ (by decide)) es1206 rfl) rfl rfl hl.1 rfl (lv_room (Nat.le_of_ble_eq_true rfl)) dX12_weigh_2 ⟨Nat.le_of_ble_eq_true rfl, Nat.le_of_ble_eq_true rfl⟩) hh hA (fun r_1207 H locs hw_1207 hh => ?_)
  rw [show rdI (en 0) 4 = (nI tb) from by rw [es1206]; rfl, nI_toInt (n := tb) (by omega)] at hw_1207
  rcases Decidable.em (0 ≤ t.toInt ∧ t.toInt < (tb : Int)) with hp_1207 | hp_1207
  · obtain rfl : r_1207 = 1 := Eq.trans hw_1207 (if_pos hp_1207)
    obtain ⟨T_1207, rfl, hT_1207⟩ := has_nat hp_1207
    refine lv_if_ne (tgt := 10) hx hb dX12_weigh_5 (by decide) (fun _ => ?_) (fun c_0 => absurd c_0 (by decide))
    refine lv_aload_n hx hb dX12_weigh_10 rfl (lv_at hl 0 rfl) ?_
    refine lv_iload_n hx hb dX12_weigh_11 rfl (lv_at hl 1 rfl) ?_
    refine hp_callRi (va_runV (As := [.int (nI T_1207)]) (rest := []) ⟨hx, hb, hml, hown, hts⟩ (c_X12_kindOf l D cy _ cs ad en hI T_1207 (by omega)) (kw_X12_kindOf hts tw_1223 ⟨by decide, by decide⟩) (preV_of hh hK (hI.1 _ (by decide)) es1206 rfl) rfl rfl hl.1 rfl (lv_room (Nat.le_of_ble_eq_true rfl)) dX12_weigh_12 ⟨Nat.le_of_ble_eq_true rfl, Nat.le_of_ble_eq_true rfl⟩) hh hA (fun r_1208 H locs hw_1208 hh => ?_)
    have hk_1208 := hw_1208
    rcases hw_1208 with hb_1208 | hb_1208 | hb_1208
    · obtain rfl : r_1208 = 2 := hb_1208.1
      refine lv_iconst (v := 2) hx hb dX12_weigh_15 (by decide) ?_
      refine lv_icmp_ne (tgt := 23) hx hb dX12_weigh_16 (by decide) (fun c_0 => absurd c_0 (by decide)) (fun _ => ?_)
      refine lv_iconst (v := 1) hx hb dX12_weigh_19 (by decide) ?_
      refine lv_goto (tgt := 24) hx hb dX12_weigh_20 (by decide) ?_
      refine lv_istore_n (lv' := [(2, .int 1), (0, .ref (ad 0)), (1, .int (nI T_1207))]) hx hb dX12_weigh_24 rfl hl (by decide) rfl (fun ls hl => ?_)
      refine lv_aload_n hx hb dX12_weigh_25 rfl (lv_at hl 1 rfl) ?_
      refine lv_iload_n hx hb dX12_weigh_26 rfl (lv_at hl 0 rfl) ?_
      refine lv_if_eq (tgt := 34) hx hb dX12_weigh_27 (by decide) (fun c_0 => absurd c_0 (by decide)) (fun _ => ?_)
      refine lv_iconst (v := 5) hx hb dX12_weigh_30 (by decide) ?_
      refine lv_goto (tgt := 35) hx hb dX12_weigh_31 (by decide) ?_
      refine hp_callMv (va_runV (As := [.int 5]) (rest := []) ⟨hx, hb, hml, hown, hts⟩ (c_X12_begins l D cy _ cs ad en (hI.1 _ (by decide)) fa hi wd mo tb dp many grt lst nou rm rb pr wo 5 es1206) (kw_X12_begins hts tw_1227 ⟨by decide, by decide⟩) (preV_of hh hK (hI.1 _ (by decide)) es1206 rfl) rfl rfl hl.1 rfl (lv_room (Nat.le_of_ble_eq_true rfl)) dX12_weigh_35 ⟨Nat.le_of_ble_eq_true rfl, Nat.le_of_ble_eq_true rfl⟩) hh hA (fun H locs en_1209 hw_1209 hh => ?_)
      have hen_1209 := hw_1209
      have es1206_1209 : en_1209 0 = .inr (11, [.int fa, .int (31 * hi + 5), .int (nI wd), .int (nI mo), .int (nI tb), .ref (ad 1), .ref (ad 2), .ref (ad 3), .ref (ad 4), .ref (ad 5), .ref (ad 6), .ref (ad 7), .ref (ad 8), .ref (ad 9), .int dp, .long many, .long grt, .long lst, .long nou, .ref (ad 10), .ref (ad 11), .ref (ad 12), .int rm, .long rb, .ref (ad 13), .int pr, .ref (ad 14), .ref (ad 15), .ref (ad 16), .ref (ad 17), .int (nI wo), .ref (ad 18), .ref (ad 19)]) := by rw [hen_1209]; exact va_up_self _ _ _
      have hI_1209 : RX cy cs ad en_1209 := by rw [hen_1209]; exact upr_M hI ⟨fa, (31 * hi + 5), wd, mo, tb, dp, many, grt, lst, nou, rm, rb, pr, wo, rfl, hwd2, hwd3, hmo, htb, hwo⟩
      have hf_1209 : ∀ c, (c ≠ 0) → en_1209 c = en c := fun c hc => Eq.trans (show en_1209 c = en c from by rw [hen_1209, va_up_ne _ _ (by omega)]) (hf0 c hc)
      have hkp_1209 : KPx en en_1209 := KPx_fv (KPx_rf en) es1206 es1206_1209 (nI wd) (nI mo) (nI tb) pr (nI wo) rfl rfl rfl rfl rfl rfl rfl rfl rfl rfl
      refine lv_iload_n hx hb dX12_weigh_38 rfl (lv_at hl 0 rfl) ?_
      refine lv_if_eq (tgt := 47) hx hb dX12_weigh_39 (by decide) (fun c_0 => absurd c_0 (by decide)) (fun _ => ?_)
      refine lv_bipush (v := 60) hx hb dX12_weigh_42 (by decide) ?_
      refine lv_goto (tgt := 48) hx hb dX12_weigh_44 (by decide) ?_
      have hc4 : (rdI (en 0) 4).toInt = (tb : Int) := by rw [es1206]; exact nI_toInt (by omega)
      exact hp_iretM hx hb hr rfl hlocks hh (⟨hI_1209, hf_1209, Or.inr ⟨T_1207, 2, rfl, by omega, ⟨hp_1207.1, by have := hp_1207.2; omega⟩, hk_1208, Or.inl ⟨rfl, rfl, (by rw [es1206_1209, es1206]; rfl)⟩⟩, hkp_1209⟩) dX12_weigh_48
    · obtain rfl : r_1208 = 1 := hb_1208.1
      refine lv_iconst (v := 2) hx hb dX12_weigh_15 (by decide) ?_
      refine lv_icmp_ne (tgt := 23) hx hb dX12_weigh_16 (by decide) (fun _ => ?_) (fun c_0 => absurd c_0 (by decide))
      refine lv_iconst (v := 0) hx hb dX12_weigh_23 (by decide) ?_
      refine lv_istore_n (lv' := [(2, .int 0), (0, .ref (ad 0)), (1, .int (nI T_1207))]) hx hb dX12_weigh_24 rfl hl (by decide) rfl (fun ls hl => ?_)
      refine lv_aload_n hx hb dX12_weigh_25 rfl (lv_at hl 1 rfl) ?_
      refine lv_iload_n hx hb dX12_weigh_26 rfl (lv_at hl 0 rfl) ?_
      refine lv_if_eq (tgt := 34) hx hb dX12_weigh_27 (by decide) (fun _ => ?_) (fun c_0 => absurd c_0 (by decide))
      refine lv_iconst (v := 4) hx hb dX12_weigh_34 (by decide) ?_
      refine hp_callMv (va_runV (As := [.int 4]) (rest := []) ⟨hx, hb, hml, hown, hts⟩ (c_X12_begins l D cy _ cs ad en (hI.1 _ (by decide)) fa hi wd mo tb dp many grt lst nou rm rb pr wo 4 es1206) (kw_X12_begins hts tw_1227 ⟨by decide, by decide⟩) (preV_of hh hK (hI.1 _ (by decide)) es1206 rfl) rfl rfl hl.1 rfl (lv_room (Nat.le_of_ble_eq_true rfl)) dX12_weigh_35 ⟨Nat.le_of_ble_eq_true rfl, Nat.le_of_ble_eq_true rfl⟩) hh hA (fun H locs en_1210 hw_1210 hh => ?_)
      have hen_1210 := hw_1210
      have es1206_1210 : en_1210 0 = .inr (11, [.int fa, .int (31 * hi + 4), .int (nI wd), .int (nI mo), .int (nI tb), .ref (ad 1), .ref (ad 2), .ref (ad 3), .ref (ad 4), .ref (ad 5), .ref (ad 6), .ref (ad 7), .ref (ad 8), .ref (ad 9), .int dp, .long many, .long grt, .long lst, .long nou, .ref (ad 10), .ref (ad 11), .ref (ad 12), .int rm, .long rb, .ref (ad 13), .int pr, .ref (ad 14), .ref (ad 15), .ref (ad 16), .ref (ad 17), .int (nI wo), .ref (ad 18), .ref (ad 19)]) := by rw [hen_1210]; exact va_up_self _ _ _
      have hI_1210 : RX cy cs ad en_1210 := by rw [hen_1210]; exact upr_M hI ⟨fa, (31 * hi + 4), wd, mo, tb, dp, many, grt, lst, nou, rm, rb, pr, wo, rfl, hwd2, hwd3, hmo, htb, hwo⟩
      have hf_1210 : ∀ c, (c ≠ 0) → en_1210 c = en c := fun c hc => Eq.trans (show en_1210 c = en c from by rw [hen_1210, va_up_ne _ _ (by omega)]) (hf0 c hc)
      have hkp_1210 : KPx en en_1210 := KPx_fv (KPx_rf en) es1206 es1206_1210 (nI wd) (nI mo) (nI tb) pr (nI wo) rfl rfl rfl rfl rfl rfl rfl rfl rfl rfl
      refine lv_iload_n hx hb dX12_weigh_38 rfl (lv_at hl 0 rfl) ?_
      refine lv_if_eq (tgt := 47) hx hb dX12_weigh_39 (by decide) (fun _ => ?_) (fun c_0 => absurd c_0 (by decide))
      refine lv_iload_n hx hb dX12_weigh_47 rfl (lv_at hl 2 rfl) ?_
      have hc4 : (rdI (en 0) 4).toInt = (tb : Int) := by rw [es1206]; exact nI_toInt (by omega)
      exact hp_iretM hx hb hr rfl hlocks hh (⟨hI_1210, hf_1210, Or.inr ⟨T_1207, 1, rfl, by omega, ⟨hp_1207.1, by have := hp_1207.2; omega⟩, hk_1208, Or.inr ⟨by decide, rfl, (by rw [es1206_1210, es1206]; rfl)⟩⟩, hkp_1210⟩) dX12_weigh_48
    · obtain rfl : r_1208 = 0 := hb_1208.1
      refine lv_iconst (v := 2) hx hb dX12_weigh_15 (by decide) ?_
      refine lv_icmp_ne (tgt := 23) hx hb dX12_weigh_16 (by decide) (fun _ => ?_) (fun c_0 => absurd c_0 (by decide))
      refine lv_iconst (v := 0) hx hb dX12_weigh_23 (by decide) ?_
      refine lv_istore_n (lv' := [(2, .int 0), (0, .ref (ad 0)), (1, .int (nI T_1207))]) hx hb dX12_weigh_24 rfl hl (by decide) rfl (fun ls hl => ?_)
      refine lv_aload_n hx hb dX12_weigh_25 rfl (lv_at hl 1 rfl) ?_
      refine lv_iload_n hx hb dX12_weigh_26 rfl (lv_at hl 0 rfl) ?_
      refine lv_if_eq (tgt := 34) hx hb dX12_weigh_27 (by decide) (fun _ => ?_) (fun c_0 => absurd c_0 (by decide))
      refine lv_iconst (v := 4) hx hb dX12_weigh_34 (by decide) ?_
      refine hp_callMv (va_runV (As := [.int 4]) (rest := []) ⟨hx, hb, hml, hown, hts⟩ (c_X12_begins l D cy _ cs ad en (hI.1 _ (by decide)) fa hi wd mo tb dp many grt lst nou rm rb pr wo 4 es1206) (kw_X12_begins hts tw_1227 ⟨by decide, by decide⟩) (preV_of hh hK (hI.1 _ (by decide)) es1206 rfl) rfl rfl hl.1 rfl (lv_room (Nat.le_of_ble_eq_true rfl)) dX12_weigh_35 ⟨Nat.le_of_ble_eq_true rfl, Nat.le_of_ble_eq_true rfl⟩) hh hA (fun H locs en_1211 hw_1211 hh => ?_)
      have hen_1211 := hw_1211
      have es1206_1211 : en_1211 0 = .inr (11, [.int fa, .int (31 * hi + 4), .int (nI wd), .int (nI mo), .int (nI tb), .ref (ad 1), .ref (ad 2), .ref (ad 3), .ref (ad 4), .ref (ad 5), .ref (ad 6), .ref (ad 7), .ref (ad 8), .ref (ad 9), .int dp, .long many, .long grt, .long lst, .long nou, .ref (ad 10), .ref (ad 11), .ref (ad 12), .int rm, .long rb, .ref (ad 13), .int pr, .ref (ad 14), .ref (ad 15), .ref (ad 16), .ref (ad 17), .int (nI wo), .ref (ad 18), .ref (ad 19)]) := by rw [hen_1211]; exact va_up_self _ _ _
      have hI_1211 : RX cy cs ad en_1211 := by rw [hen_1211]; exact upr_M hI ⟨fa, (31 * hi + 4), wd, mo, tb, dp, many, grt, lst, nou, rm, rb, pr, wo, rfl, hwd2, hwd3, hmo, htb, hwo⟩
      have hf_1211 : ∀ c, (c ≠ 0) → en_1211 c = en c := fun c hc => Eq.trans (show en_1211 c = en c from by rw [hen_1211, va_up_ne _ _ (by omega)]) (hf0 c hc)
      have hkp_1211 : KPx en en_1211 := KPx_fv (KPx_rf en) es1206 es1206_1211 (nI wd) (nI mo) (nI tb) pr (nI wo) rfl rfl rfl rfl rfl rfl rfl rfl rfl rfl
      refine lv_iload_n hx hb dX12_weigh_38 rfl (lv_at hl 0 rfl) ?_
      refine lv_if_eq (tgt := 47) hx hb dX12_weigh_39 (by decide) (fun _ => ?_) (fun c_0 => absurd c_0 (by decide))
      refine lv_iload_n hx hb dX12_weigh_47 rfl (lv_at hl 2 rfl) ?_
      have hc4 : (rdI (en 0) 4).toInt = (tb : Int) := by rw [es1206]; exact nI_toInt (by omega)
      exact hp_iretM hx hb hr rfl hlocks hh (⟨hI_1211, hf_1211, Or.inr ⟨T_1207, 0, rfl, by omega, ⟨hp_1207.1, by have := hp_1207.2; omega⟩, hk_1208, Or.inr ⟨by decide, rfl, (by rw [es1206_1211, es1206]; rfl)⟩⟩, hkp_1211⟩) dX12_weigh_48
  · obtain rfl : r_1207 = 0 := Eq.trans hw_1207 (if_neg hp_1207)
    refine lv_if_ne (tgt := 10) hx hb dX12_weigh_5 (by decide) (fun c_0 => absurd c_0 (by decide)) (fun _ => ?_)
    refine lv_iconst (v := (-1)) hx hb dX12_weigh_8 (by decide) ?_
    have hc4 : (rdI (en 0) 4).toInt = (tb : Int) := by rw [es1206]; exact nI_toInt (by omega)
    exact hp_iretM hx hb hr rfl hlocks hh (⟨hI, hf0, Or.inl ⟨fun q => hp_1207 ⟨q.1, by have := q.2; omega⟩, rfl, rfl⟩, (KPx_rf en)⟩) dX12_weigh_9
theorem kw_X12_weigh {R : Room} {s : State} {args : Array Value} {own : String} {idx : Nat} (hts : ∀ w ∈ TB, w.before args s = true) (hl : Cond.methodLink own idx yX12_weigh ∈ TB) (hR : 1 + 1 ≤ R.frames ∧ 8 + (3 + 11) + 40 * 1 ≤ R.locals) : CallW R s args own RX12 idx yX12_weigh cX12_weigh 3 (some .int) (Cond.code yX12_weigh cX12_weigh 3 (some .int) :: TB) (rmN 1) 0 0 1 := cwV 1 hts (TB_V hl tw_1240 tw_1241 tw_9 tw_1242) rfl rfl rfl (by decide +kernel) hR
set_option maxHeartbeats 4000000 in
set_option maxRecDepth 100000 in
/-- as -/
theorem c_X12_as (l : Launch) (D : va_G) (cy : Nat → ClassId) (sz : Nat) (cs : List Nat) (ad : Nat → Nat) (en : Nat → va_E) (hI : RX cy cs ad en) (t z : Int32)   : Met l yX12_as (Cond.code yX12_as cX12_as 3 (some .int) :: TB) (rmN 1) (va_Pc [.ref (ad 0), .int t, .int z] (Pre D cy cs ad en sz)) (va_Qi (S := Nat → va_E) (fun r en1 => RX cy cs ad en1 ∧ (∀ c, (c ≠ 0) → en1 c = en c) ∧ RAS t z r en ∧ KP en en1) (PostM D cs ad) (Af cs ad sz)) 0 0 (Af cs ad sz) := by
  refine Met.ofW (cc := cX12_as) (maxL := 3) (ret := (some .int)) (by decide) rfl ?_
  intro p e s m args below meth c s₁ B hml hv
  obtain ⟨rfl, hsz, hP, hK, hD0⟩ := hv
  have hx := B.exec
  have hb := B.bytes
  have hr := B.returns
  have hts : ∀ w ∈ TB, w.before _ s = true := fun w h => atoms_spec (ws := _ :: TB) B.pre w (List.mem_cons_of_mem _ h)
  have hown : s.vm.findClass RX12 = some m.cls := findClass_of_methodNamed B.named
  have hlocks := B.notSynchronized
  have hh : Hp D (Af cs ad sz) (Af cs ad sz) s.heap s.heap [] cs ad en := ⟨hP, Af_self hD0, va_S.rf⟩
  have hA : ∀ q : Nat, s.heap.size ≤ q → Af cs ad sz q := fun q h => Or.inr (by rw [hsz] at h; exact h)
  have hl := lv_entry ([.ref (ad 0), .int t, .int z]) (n := 3) (Nat.le_of_ble_eq_true rfl)
  rw [lg_entry_eq]
  generalize (lg_sl ([.ref (ad 0), .int t, .int z]) ++ List.replicate (3 - (lg_sl ([.ref (ad 0), .int t, .int z])).length) Slot.unset).toArray = ls at hl ⊢
  have hl : lv_has ls 3 [(0, .ref (ad 0)), (1, .int t), (2, .int z)] := hl
  have hf0 : ∀ c, (c ≠ 0) → en c = en c := fun _ _ => rfl
  obtain ⟨fa, hi, wd, mo, tb, dp, many, grt, lst, nou, rm, rb, pr, wo, es1212, hwd2, hwd3, hmo, htb, hwo⟩ := getr_M hI
  refine lv_aload_n hx hb dX12_as_0 rfl (lv_at hl 0 rfl) ?_
  refine lv_iconst (v := 0) hx hb dX12_as_1 (by decide) ?_
  refine hp_put hx hb hts ix12 tyX12 tyX12_ok nmX12 hown hK hh (q := 0) rfl (hI.1 _ (by decide)) es1212 rfl 0 (by decide) (hts _ tw_879) (fun _ h9 => h9) rfl (ty := .int) (by decide +kernel) rfl rfl (Nat.le_of_ble_eq_true rfl) dX12_as_2 (fun H locs en_1213 hen_1213 hh => ?_)
  have es1212_1213 : en_1213 0 = .inr (11, [.int 0, .int hi, .int (nI wd), .int (nI mo), .int (nI tb), .ref (ad 1), .ref (ad 2), .ref (ad 3), .ref (ad 4), .ref (ad 5), .ref (ad 6), .ref (ad 7), .ref (ad 8), .ref (ad 9), .int dp, .long many, .long grt, .long lst, .long nou, .ref (ad 10), .ref (ad 11), .ref (ad 12), .int rm, .long rb, .ref (ad 13), .int pr, .ref (ad 14), .ref (ad 15), .ref (ad 16), .ref (ad 17), .int (nI wo), .ref (ad 18), .ref (ad 19)]) := by rw [hen_1213]; exact va_up_self _ _ _
  have hI_1213 : RX cy cs ad en_1213 := by rw [hen_1213]; exact upr_M hI ⟨0, hi, wd, mo, tb, dp, many, grt, lst, nou, rm, rb, pr, wo, rfl, hwd2, hwd3, hmo, htb, hwo⟩
  have hf_1213 : ∀ c, (c ≠ 0) → en_1213 c = en c := fun c hc => Eq.trans (show en_1213 c = en c from by rw [hen_1213, va_up_ne _ _ (by omega)]) (hf0 c hc)
  have hkp_1213 : KP en en_1213 := KP_fv (KP_rf en) es1212 es1212_1213 hi (nI wd) (nI mo) (nI tb) pr (nI wo) rfl rfl rfl rfl rfl rfl rfl rfl rfl rfl rfl rfl
  refine lv_aload_n hx hb dX12_as_5 rfl (lv_at hl 0 rfl) ?_
  refine lv_iload_n hx hb dX12_as_6 rfl (lv_at hl 1 rfl) ?_
  refine hp_callRi (va_runV (As := [.int t]) (rest := []) ⟨hx, hb, hml, hown, hts⟩ (c_X12_isTable l D cy _ cs ad en_1213 hI_1213 t ) (kw_X12_isTable hts tw_1007 ⟨by decide, by decide⟩) (preV_of hh hK (hI.1 _ (by decide)) es1212_1213 rfl) rfl rfl hl.1 rfl (lv_room (Nat.le_of_ble_eq_true rfl)) dX12_as_7 ⟨Nat.le_of_ble_eq_true rfl, Nat.le_of_ble_eq_true rfl⟩) hh hA (fun r_1214 H locs hw_1214 hh => ?_)
  rw [show rdI (en_1213 0) 4 = (nI tb) from by rw [es1212_1213]; rfl, nI_toInt (n := tb) (by omega)] at hw_1214
  rcases Decidable.em (0 ≤ t.toInt ∧ t.toInt < (tb : Int)) with hp_1214 | hp_1214
  · obtain rfl : r_1214 = 1 := Eq.trans hw_1214 (if_pos hp_1214)
    obtain ⟨T_1214, rfl, hT_1214⟩ := has_nat hp_1214
    refine lv_if_ne (tgt := 15) hx hb dX12_as_10 (by decide) (fun _ => ?_) (fun c_0 => absurd c_0 (by decide))
    refine lv_iload_n hx hb dX12_as_15 rfl (lv_at hl 2 rfl) ?_
    refine lv_i2l hx hb dX12_as_16 rfl ?_
    refine lv_lconst (v := 0) hx hb dX12_as_17 (by decide) ?_
    refine lv_ldc2 hx hb hown (hts _ tw_983) dX12_as_18 ?_
    refine hp_callRi (va_runS (As := [.long z.toInt64, .long 0, .long 2]) (rest := []) ⟨hx, hb, hml, hown, hts⟩ (c_X12_within l D cy _ cs ad en_1213 z.toInt64 0 2) (kw_X12_within hts tw_985 ⟨by decide, by decide⟩) (preS_of hh hK) rfl rfl hl.1 rfl (lv_room (Nat.le_of_ble_eq_true rfl)) dX12_as_21 ⟨Nat.le_of_ble_eq_true rfl, Nat.le_of_ble_eq_true rfl⟩) hh hA (fun r_1215 H locs hw_1215 hh => ?_)
    rcases Decidable.em (wi z 0 2) with hp_1215 | hp_1215
    · obtain rfl : r_1215 = 1 := Eq.trans hw_1215 (if_pos ((wj_32 (by decide) (by decide)).mpr hp_1215))
      obtain ⟨N_1215, rfl, hA_1215, hB_1215⟩ := wi_natB hp_1215 0 2 (by decide) (by decide)
      refine lv_if_ne (tgt := 30) hx hb dX12_as_24 (by decide) (fun _ => ?_) (fun c_0 => absurd c_0 (by decide))
      refine lv_aload_n hx hb dX12_as_30 rfl (lv_at hl 0 rfl) ?_
      refine lv_iload_n hx hb dX12_as_31 rfl (lv_at hl 1 rfl) ?_
      refine hp_callRi (va_runV (As := [.int (nI T_1214)]) (rest := []) ⟨hx, hb, hml, hown, hts⟩ (c_X12_kindOf l D cy _ cs ad en_1213 hI_1213 T_1214 (by omega)) (kw_X12_kindOf hts tw_1223 ⟨by decide, by decide⟩) (preV_of hh hK (hI.1 _ (by decide)) es1212_1213 rfl) rfl rfl hl.1 rfl (lv_room (Nat.le_of_ble_eq_true rfl)) dX12_as_32 ⟨Nat.le_of_ble_eq_true rfl, Nat.le_of_ble_eq_true rfl⟩) hh hA (fun r_1216 H locs hw_1216 hh => ?_)
      have hk_1216 := hw_1216
      rw [hf_1213 1 (by decide), hkp_1213.2.1] at hk_1216
      rcases hw_1216 with hb_1216 | hb_1216 | hb_1216
      · obtain rfl : r_1216 = 2 := hb_1216.1
        refine lv_iload_n hx hb dX12_as_35 rfl (lv_at hl 2 rfl) ?_
        refine lv_icmp_lt (tgt := 43) hx hb dX12_as_36 (by decide) (fun c_1217 => ?_) (fun c_1217 => ?_)
        · have n_1217 : 2 < N_1215 := n_lt (a := 2) (b := N_1215) c_1217 (by decide) (by omega)
          refine lv_aload_n hx hb dX12_as_43 rfl (lv_at hl 0 rfl) ?_
          refine lv_iconst (v := 2) hx hb dX12_as_44 (by decide) ?_
          refine hp_callMi (va_runV (As := [.int 2]) (rest := []) ⟨hx, hb, hml, hown, hts⟩ (c_X12_fails l D cy _ cs ad en_1213 (hI.1 _ (by decide)) 0 hi wd mo tb dp many grt lst nou rm rb pr wo 2 es1212_1213) (kw_X12_fails hts tw_997 ⟨by decide, by decide⟩) (preV_of hh hK (hI.1 _ (by decide)) es1212_1213 rfl) rfl rfl hl.1 rfl (lv_room (Nat.le_of_ble_eq_true rfl)) dX12_as_45 ⟨Nat.le_of_ble_eq_true rfl, Nat.le_of_ble_eq_true rfl⟩) hh hA (fun r_1218 H locs en_1218 hw_1218 hh => ?_)
          obtain ⟨hr_1218, hen_1218⟩ := hw_1218
          have es1212_1218 : en_1218 0 = .inr (11, [.int 2, .int hi, .int (nI wd), .int (nI mo), .int (nI tb), .ref (ad 1), .ref (ad 2), .ref (ad 3), .ref (ad 4), .ref (ad 5), .ref (ad 6), .ref (ad 7), .ref (ad 8), .ref (ad 9), .int dp, .long many, .long grt, .long lst, .long nou, .ref (ad 10), .ref (ad 11), .ref (ad 12), .int rm, .long rb, .ref (ad 13), .int pr, .ref (ad 14), .ref (ad 15), .ref (ad 16), .ref (ad 17), .int (nI wo), .ref (ad 18), .ref (ad 19)]) := by rw [hen_1218]; exact va_up_self _ _ _
          have hI_1218 : RX cy cs ad en_1218 := by rw [hen_1218]; exact upr_M hI_1213 ⟨2, hi, wd, mo, tb, dp, many, grt, lst, nou, rm, rb, pr, wo, rfl, hwd2, hwd3, hmo, htb, hwo⟩
          have hf_1218 : ∀ c, (c ≠ 0) → en_1218 c = en c := fun c hc => Eq.trans (show en_1218 c = en_1213 c from by rw [hen_1218, va_up_ne _ _ (by omega)]) (hf_1213 c hc)
          have hkp_1218 : KP en en_1218 := KP_fv hkp_1213 es1212_1213 es1212_1218 hi (nI wd) (nI mo) (nI tb) pr (nI wo) rfl rfl rfl rfl rfl rfl rfl rfl rfl rfl rfl rfl
          obtain rfl : r_1218 = (-12) := hr_1218.trans (by decide)
          have hc4 : (rdI (en 0) 4).toInt = (tb : Int) := by rw [es1212]; exact nI_toInt (by omega)
          exact hp_iretM hx hb hr rfl hlocks hh (⟨hI_1218, hf_1218, Or.inr (Or.inr ⟨T_1214, N_1215, 2, rfl, rfl, by omega, by omega, by omega, ⟨hp_1214.1, by have := hp_1214.2; omega⟩, hp_1215, hk_1216, Or.inr ⟨by omega, rfl⟩⟩), hkp_1218⟩) dX12_as_48
        · have n_1217 : N_1215 ≤ 2 := n_nlt (a := 2) (b := N_1215) c_1217 (by decide) (by omega)
          refine lv_iconst (v := 1) hx hb dX12_as_39 (by decide) ?_
          refine lv_goto (tgt := 48) hx hb dX12_as_40 (by decide) ?_
          have hc4 : (rdI (en 0) 4).toInt = (tb : Int) := by rw [es1212]; exact nI_toInt (by omega)
          exact hp_iretM hx hb hr rfl hlocks hh (⟨hI_1213, hf_1213, Or.inr (Or.inr ⟨T_1214, N_1215, 2, rfl, rfl, by omega, by omega, by omega, ⟨hp_1214.1, by have := hp_1214.2; omega⟩, hp_1215, hk_1216, Or.inl ⟨by omega, rfl⟩⟩), hkp_1213⟩) dX12_as_48
      · obtain rfl : r_1216 = 1 := hb_1216.1
        refine lv_iload_n hx hb dX12_as_35 rfl (lv_at hl 2 rfl) ?_
        refine lv_icmp_lt (tgt := 43) hx hb dX12_as_36 (by decide) (fun c_1219 => ?_) (fun c_1219 => ?_)
        · have n_1219 : 1 < N_1215 := n_lt (a := 1) (b := N_1215) c_1219 (by decide) (by omega)
          refine lv_aload_n hx hb dX12_as_43 rfl (lv_at hl 0 rfl) ?_
          refine lv_iconst (v := 2) hx hb dX12_as_44 (by decide) ?_
          refine hp_callMi (va_runV (As := [.int 2]) (rest := []) ⟨hx, hb, hml, hown, hts⟩ (c_X12_fails l D cy _ cs ad en_1213 (hI.1 _ (by decide)) 0 hi wd mo tb dp many grt lst nou rm rb pr wo 2 es1212_1213) (kw_X12_fails hts tw_997 ⟨by decide, by decide⟩) (preV_of hh hK (hI.1 _ (by decide)) es1212_1213 rfl) rfl rfl hl.1 rfl (lv_room (Nat.le_of_ble_eq_true rfl)) dX12_as_45 ⟨Nat.le_of_ble_eq_true rfl, Nat.le_of_ble_eq_true rfl⟩) hh hA (fun r_1220 H locs en_1220 hw_1220 hh => ?_)
          obtain ⟨hr_1220, hen_1220⟩ := hw_1220
          have es1212_1220 : en_1220 0 = .inr (11, [.int 2, .int hi, .int (nI wd), .int (nI mo), .int (nI tb), .ref (ad 1), .ref (ad 2), .ref (ad 3), .ref (ad 4), .ref (ad 5), .ref (ad 6), .ref (ad 7), .ref (ad 8), .ref (ad 9), .int dp, .long many, .long grt, .long lst, .long nou, .ref (ad 10), .ref (ad 11), .ref (ad 12), .int rm, .long rb, .ref (ad 13), .int pr, .ref (ad 14), .ref (ad 15), .ref (ad 16), .ref (ad 17), .int (nI wo), .ref (ad 18), .ref (ad 19)]) := by rw [hen_1220]; exact va_up_self _ _ _
          have hI_1220 : RX cy cs ad en_1220 := by rw [hen_1220]; exact upr_M hI_1213 ⟨2, hi, wd, mo, tb, dp, many, grt, lst, nou, rm, rb, pr, wo, rfl, hwd2, hwd3, hmo, htb, hwo⟩
          have hf_1220 : ∀ c, (c ≠ 0) → en_1220 c = en c := fun c hc => Eq.trans (show en_1220 c = en_1213 c from by rw [hen_1220, va_up_ne _ _ (by omega)]) (hf_1213 c hc)
          have hkp_1220 : KP en en_1220 := KP_fv hkp_1213 es1212_1213 es1212_1220 hi (nI wd) (nI mo) (nI tb) pr (nI wo) rfl rfl rfl rfl rfl rfl rfl rfl rfl rfl rfl rfl
          obtain rfl : r_1220 = (-12) := hr_1220.trans (by decide)
          have hc4 : (rdI (en 0) 4).toInt = (tb : Int) := by rw [es1212]; exact nI_toInt (by omega)
          exact hp_iretM hx hb hr rfl hlocks hh (⟨hI_1220, hf_1220, Or.inr (Or.inr ⟨T_1214, N_1215, 1, rfl, rfl, by omega, by omega, by omega, ⟨hp_1214.1, by have := hp_1214.2; omega⟩, hp_1215, hk_1216, Or.inr ⟨by omega, rfl⟩⟩), hkp_1220⟩) dX12_as_48
        · have n_1219 : N_1215 ≤ 1 := n_nlt (a := 1) (b := N_1215) c_1219 (by decide) (by omega)
          refine lv_iconst (v := 1) hx hb dX12_as_39 (by decide) ?_
          refine lv_goto (tgt := 48) hx hb dX12_as_40 (by decide) ?_
          have hc4 : (rdI (en 0) 4).toInt = (tb : Int) := by rw [es1212]; exact nI_toInt (by omega)
          exact hp_iretM hx hb hr rfl hlocks hh (⟨hI_1213, hf_1213, Or.inr (Or.inr ⟨T_1214, N_1215, 1, rfl, rfl, by omega, by omega, by omega, ⟨hp_1214.1, by have := hp_1214.2; omega⟩, hp_1215, hk_1216, Or.inl ⟨by omega, rfl⟩⟩), hkp_1213⟩) dX12_as_48
      · obtain rfl : r_1216 = 0 := hb_1216.1
        refine lv_iload_n hx hb dX12_as_35 rfl (lv_at hl 2 rfl) ?_
        refine lv_icmp_lt (tgt := 43) hx hb dX12_as_36 (by decide) (fun c_1221 => ?_) (fun c_1221 => ?_)
        · have n_1221 : 0 < N_1215 := n_lt (a := 0) (b := N_1215) c_1221 (by decide) (by omega)
          refine lv_aload_n hx hb dX12_as_43 rfl (lv_at hl 0 rfl) ?_
          refine lv_iconst (v := 2) hx hb dX12_as_44 (by decide) ?_
          refine hp_callMi (va_runV (As := [.int 2]) (rest := []) ⟨hx, hb, hml, hown, hts⟩ (c_X12_fails l D cy _ cs ad en_1213 (hI.1 _ (by decide)) 0 hi wd mo tb dp many grt lst nou rm rb pr wo 2 es1212_1213) (kw_X12_fails hts tw_997 ⟨by decide, by decide⟩) (preV_of hh hK (hI.1 _ (by decide)) es1212_1213 rfl) rfl rfl hl.1 rfl (lv_room (Nat.le_of_ble_eq_true rfl)) dX12_as_45 ⟨Nat.le_of_ble_eq_true rfl, Nat.le_of_ble_eq_true rfl⟩) hh hA (fun r_1222 H locs en_1222 hw_1222 hh => ?_)
          obtain ⟨hr_1222, hen_1222⟩ := hw_1222
          have es1212_1222 : en_1222 0 = .inr (11, [.int 2, .int hi, .int (nI wd), .int (nI mo), .int (nI tb), .ref (ad 1), .ref (ad 2), .ref (ad 3), .ref (ad 4), .ref (ad 5), .ref (ad 6), .ref (ad 7), .ref (ad 8), .ref (ad 9), .int dp, .long many, .long grt, .long lst, .long nou, .ref (ad 10), .ref (ad 11), .ref (ad 12), .int rm, .long rb, .ref (ad 13), .int pr, .ref (ad 14), .ref (ad 15), .ref (ad 16), .ref (ad 17), .int (nI wo), .ref (ad 18), .ref (ad 19)]) := by rw [hen_1222]; exact va_up_self _ _ _
          have hI_1222 : RX cy cs ad en_1222 := by rw [hen_1222]; exact upr_M hI_1213 ⟨2, hi, wd, mo, tb, dp, many, grt, lst, nou, rm, rb, pr, wo, rfl, hwd2, hwd3, hmo, htb, hwo⟩
          have hf_1222 : ∀ c, (c ≠ 0) → en_1222 c = en c := fun c hc => Eq.trans (show en_1222 c = en_1213 c from by rw [hen_1222, va_up_ne _ _ (by omega)]) (hf_1213 c hc)
          have hkp_1222 : KP en en_1222 := KP_fv hkp_1213 es1212_1213 es1212_1222 hi (nI wd) (nI mo) (nI tb) pr (nI wo) rfl rfl rfl rfl rfl rfl rfl rfl rfl rfl rfl rfl
          obtain rfl : r_1222 = (-12) := hr_1222.trans (by decide)
          have hc4 : (rdI (en 0) 4).toInt = (tb : Int) := by rw [es1212]; exact nI_toInt (by omega)
          exact hp_iretM hx hb hr rfl hlocks hh (⟨hI_1222, hf_1222, Or.inr (Or.inr ⟨T_1214, N_1215, 0, rfl, rfl, by omega, by omega, by omega, ⟨hp_1214.1, by have := hp_1214.2; omega⟩, hp_1215, hk_1216, Or.inr ⟨by omega, rfl⟩⟩), hkp_1222⟩) dX12_as_48
        · have n_1221 : N_1215 ≤ 0 := n_nlt (a := 0) (b := N_1215) c_1221 (by decide) (by omega)
          refine lv_iconst (v := 1) hx hb dX12_as_39 (by decide) ?_
          refine lv_goto (tgt := 48) hx hb dX12_as_40 (by decide) ?_
          have hc4 : (rdI (en 0) 4).toInt = (tb : Int) := by rw [es1212]; exact nI_toInt (by omega)
          exact hp_iretM hx hb hr rfl hlocks hh (⟨hI_1213, hf_1213, Or.inr (Or.inr ⟨T_1214, N_1215, 0, rfl, rfl, by omega, by omega, by omega, ⟨hp_1214.1, by have := hp_1214.2; omega⟩, hp_1215, hk_1216, Or.inl ⟨by omega, rfl⟩⟩), hkp_1213⟩) dX12_as_48
    · obtain rfl : r_1215 = 0 := Eq.trans hw_1215 (if_neg (fun q => hp_1215 ((wj_32 (by decide) (by decide)).mp q)))
      refine lv_if_ne (tgt := 30) hx hb dX12_as_24 (by decide) (fun c_0 => absurd c_0 (by decide)) (fun _ => ?_)
      refine lv_bipush (v := (-2)) hx hb dX12_as_27 (by decide) ?_
      have hc4 : (rdI (en 0) 4).toInt = (tb : Int) := by rw [es1212]; exact nI_toInt (by omega)
      exact hp_iretM hx hb hr rfl hlocks hh (⟨hI_1213, hf_1213, Or.inr (Or.inl ⟨⟨hp_1214.1, by have := hp_1214.2; omega⟩, hp_1215, rfl⟩), hkp_1213⟩) dX12_as_29
  · obtain rfl : r_1214 = 0 := Eq.trans hw_1214 (if_neg hp_1214)
    refine lv_if_ne (tgt := 15) hx hb dX12_as_10 (by decide) (fun c_0 => absurd c_0 (by decide)) (fun _ => ?_)
    refine lv_iconst (v := (-1)) hx hb dX12_as_13 (by decide) ?_
    have hc4 : (rdI (en 0) 4).toInt = (tb : Int) := by rw [es1212]; exact nI_toInt (by omega)
    exact hp_iretM hx hb hr rfl hlocks hh (⟨hI_1213, hf_1213, Or.inl ⟨fun q => hp_1214 ⟨q.1, by have := q.2; omega⟩, rfl⟩, hkp_1213⟩) dX12_as_14
theorem kw_X12_as {R : Room} {s : State} {args : Array Value} {own : String} {idx : Nat} (hts : ∀ w ∈ TB, w.before args s = true) (hl : Cond.methodLink own idx yX12_as ∈ TB) (hR : 1 + 1 ≤ R.frames ∧ 8 + (3 + 11) + 40 * 1 ≤ R.locals) : CallW R s args own RX12 idx yX12_as cX12_as 3 (some .int) (Cond.code yX12_as cX12_as 3 (some .int) :: TB) (rmN 1) 0 0 2 := cwV 2 hts (TB_V hl tw_1244 tw_1245 tw_9 tw_1246) rfl rfl rfl (by decide +kernel) hR
set_option maxHeartbeats 4000000 in
set_option maxRecDepth 100000 in
/-- history -/
theorem c_X12_history (l : Launch) (D : va_G) (cy : Nat → ClassId) (sz : Nat) (cs : List Nat) (ad : Nat → Nat) (en : Nat → va_E) (hI : RX cy cs ad en)    : Met l yX12_history (Cond.code yX12_history cX12_history 1 (some .int) :: TB) (rmN 0) (va_Pc [.ref (ad 0)] (Pre D cy cs ad en sz)) (va_Qi (S := Unit) (fun r _ => r = rdI (en 0) 1) (fun _ _ => True) (Nf sz)) 0 0 (Nf sz) := by
  refine Met.ofW (cc := cX12_history) (maxL := 1) (ret := (some .int)) (by decide) rfl ?_
  intro p e s m args below meth c s₁ B hml hv
  obtain ⟨rfl, hsz, hP, hK, hD0⟩ := hv
  have hx := B.exec
  have hb := B.bytes
  have hr := B.returns
  have hts : ∀ w ∈ TB, w.before _ s = true := fun w h => atoms_spec (ws := _ :: TB) B.pre w (List.mem_cons_of_mem _ h)
  have hown : s.vm.findClass RX12 = some m.cls := findClass_of_methodNamed B.named
  have hlocks := B.notSynchronized
  have hh : Hp D (Nf sz) (fun _ => True) s.heap s.heap [] cs ad en := ⟨hP, hD0, va_S.rf⟩
  have hA : ∀ q : Nat, s.heap.size ≤ q → Nf sz q := fun q h => by rw [hsz] at h; exact h
  have hl := lv_entry ([.ref (ad 0)]) (n := 1) (Nat.le_of_ble_eq_true rfl)
  rw [lg_entry_eq]
  generalize (lg_sl ([.ref (ad 0)]) ++ List.replicate (1 - (lg_sl ([.ref (ad 0)])).length) Slot.unset).toArray = ls at hl ⊢
  have hl : lv_has ls 1 [(0, .ref (ad 0))] := hl
  obtain ⟨fa, hi, wd, mo, tb, dp, many, grt, lst, nou, rm, rb, pr, wo, es1223, hwd2, hwd3, hmo, htb, hwo⟩ := getr_M hI
  refine lv_aload_n hx hb dX12_history_0 rfl (lv_at hl 0 rfl) ?_
  refine hp_get hx hb hts ix12 hown hK hh (q := 0) rfl (hI.1 _ (by decide)) es1223 rfl 1 (by decide) (hts _ tw_880) (fun _ h9 => h9) rfl dX12_history_1 ?_
  exact hp_iretR hx hb hr rfl hlocks hsz hh ((by rw [es1223]; rfl)) dX12_history_4
theorem kw_X12_history {R : Room} {s : State} {args : Array Value} {own : String} {idx : Nat} (hts : ∀ w ∈ TB, w.before args s = true) (hl : Cond.methodLink own idx yX12_history ∈ TB) (hR : 0 + 1 ≤ R.frames ∧ 8 + (1 + 11) + 40 * 0 ≤ R.locals) : CallW R s args own RX12 idx yX12_history cX12_history 1 (some .int) (Cond.code yX12_history cX12_history 1 (some .int) :: TB) (rmN 0) 0 0 0 := cwV 0 hts (TB_V hl tw_1248 tw_1249 tw_9 tw_1250) rfl rfl rfl (by decide +kernel) hR
set_option maxHeartbeats 4000000 in
set_option maxRecDepth 100000 in
/-- fault -/
theorem c_X12_fault (l : Launch) (D : va_G) (cy : Nat → ClassId) (sz : Nat) (cs : List Nat) (ad : Nat → Nat) (en : Nat → va_E) (hI : RX cy cs ad en)    : Met l yX12_fault (Cond.code yX12_fault cX12_fault 1 (some .int) :: TB) (rmN 0) (va_Pc [.ref (ad 0)] (Pre D cy cs ad en sz)) (va_Qi (S := Unit) (fun _ _ => True) (fun _ _ => True) (Nf sz)) 0 0 (Nf sz) := by
  refine Met.ofW (cc := cX12_fault) (maxL := 1) (ret := (some .int)) (by decide) rfl ?_
  intro p e s m args below meth c s₁ B hml hv
  obtain ⟨rfl, hsz, hP, hK, hD0⟩ := hv
  have hx := B.exec
  have hb := B.bytes
  have hr := B.returns
  have hts : ∀ w ∈ TB, w.before _ s = true := fun w h => atoms_spec (ws := _ :: TB) B.pre w (List.mem_cons_of_mem _ h)
  have hown : s.vm.findClass RX12 = some m.cls := findClass_of_methodNamed B.named
  have hlocks := B.notSynchronized
  have hh : Hp D (Nf sz) (fun _ => True) s.heap s.heap [] cs ad en := ⟨hP, hD0, va_S.rf⟩
  have hA : ∀ q : Nat, s.heap.size ≤ q → Nf sz q := fun q h => by rw [hsz] at h; exact h
  have hl := lv_entry ([.ref (ad 0)]) (n := 1) (Nat.le_of_ble_eq_true rfl)
  rw [lg_entry_eq]
  generalize (lg_sl ([.ref (ad 0)]) ++ List.replicate (1 - (lg_sl ([.ref (ad 0)])).length) Slot.unset).toArray = ls at hl ⊢
  have hl : lv_has ls 1 [(0, .ref (ad 0))] := hl
  obtain ⟨fa, hi, wd, mo, tb, dp, many, grt, lst, nou, rm, rb, pr, wo, es1224, hwd2, hwd3, hmo, htb, hwo⟩ := getr_M hI
  refine lv_aload_n hx hb dX12_fault_0 rfl (lv_at hl 0 rfl) ?_
  refine hp_get hx hb hts ix12 hown hK hh (q := 0) rfl (hI.1 _ (by decide)) es1224 rfl 0 (by decide) (hts _ tw_879) (fun _ h9 => h9) rfl dX12_fault_1 ?_
  exact hp_iretR hx hb hr rfl hlocks hsz hh (trivial) dX12_fault_4
theorem kw_X12_fault {R : Room} {s : State} {args : Array Value} {own : String} {idx : Nat} (hts : ∀ w ∈ TB, w.before args s = true) (hl : Cond.methodLink own idx yX12_fault ∈ TB) (hR : 0 + 1 ≤ R.frames ∧ 8 + (1 + 11) + 40 * 0 ≤ R.locals) : CallW R s args own RX12 idx yX12_fault cX12_fault 1 (some .int) (Cond.code yX12_fault cX12_fault 1 (some .int) :: TB) (rmN 0) 0 0 0 := cwV 0 hts (TB_V hl tw_1252 tw_1253 tw_9 tw_1254) rfl rfl rfl (by decide +kernel) hR
set_option maxHeartbeats 4000000 in
set_option maxRecDepth 100000 in
/-- told -/
theorem c_X12_told (l : Launch) (D : va_G) (cy : Nat → ClassId) (sz : Nat) (cs : List Nat) (ad : Nat → Nat) (en : Nat → va_E) (hI : RX cy cs ad en) (z : Int32)   : Met l yX12_told (Cond.code yX12_told cX12_told 5 (some .int) :: TB) (rmN 1) (va_Pc [.ref (ad 0), .int z] (Pre D cy cs ad en sz)) (va_Qi (S := Unit) (fun r _ => RTO z r en) (fun _ _ => True) (Nf sz)) 0 0 (Nf sz) := by
  refine Met.ofW (cc := cX12_told) (maxL := 5) (ret := (some .int)) (by decide) rfl ?_
  intro p e s m args below meth c s₁ B hml hv
  obtain ⟨rfl, hsz, hP, hK, hD0⟩ := hv
  have hx := B.exec
  have hb := B.bytes
  have hr := B.returns
  have hts : ∀ w ∈ TB, w.before _ s = true := fun w h => atoms_spec (ws := _ :: TB) B.pre w (List.mem_cons_of_mem _ h)
  have hown : s.vm.findClass RX12 = some m.cls := findClass_of_methodNamed B.named
  have hlocks := B.notSynchronized
  have hh : Hp D (Nf sz) (fun _ => True) s.heap s.heap [] cs ad en := ⟨hP, hD0, va_S.rf⟩
  have hA : ∀ q : Nat, s.heap.size ≤ q → Nf sz q := fun q h => by rw [hsz] at h; exact h
  have hl := lv_entry ([.ref (ad 0), .int z]) (n := 5) (Nat.le_of_ble_eq_true rfl)
  rw [lg_entry_eq]
  generalize (lg_sl ([.ref (ad 0), .int z]) ++ List.replicate (5 - (lg_sl ([.ref (ad 0), .int z])).length) Slot.unset).toArray = ls at hl ⊢
  have hl : lv_has ls 5 [(0, .ref (ad 0)), (1, .int z)] := hl
  obtain ⟨fa, hi, wd, mo, tb, dp, many, grt, lst, nou, rm, rb, pr, wo, es1225, hwd2, hwd3, hmo, htb, hwo⟩ := getr_M hI
  refine lv_iload_n hx hb dX12_told_0 rfl (lv_at hl 1 rfl) ?_
  by_cases q_1226_0 : z = 0
  · refine lv_tableIn (off := 35) (tgt := 36) hx hb dX12_told_1 (by rw [q_1226_0]; decide) (by rw [q_1226_0]; decide) (by rw [q_1226_0]; decide) (by decide) ?_
    refine lv_aload_n hx hb dX12_told_36 rfl (lv_at hl 0 rfl) ?_
    refine hp_get hx hb hts ix12 hown hK hh (q := 0) rfl (hI.1 _ (by decide)) es1225 rfl 4 (by decide) (hts _ tw_883) (fun _ h9 => h9) rfl dX12_told_37 ?_
    exact hp_iretR hx hb hr rfl hlocks hsz hh ((Or.inl ⟨q_1226_0, (by rw [es1225]; rfl)⟩)) dX12_told_40
  by_cases q_1226_1 : z = 1
  · refine lv_tableIn (off := 40) (tgt := 41) hx hb dX12_told_1 (by rw [q_1226_1]; decide) (by rw [q_1226_1]; decide) (by rw [q_1226_1]; decide) (by decide) ?_
    refine lv_aload_n hx hb dX12_told_41 rfl (lv_at hl 0 rfl) ?_
    refine hp_get hx hb hts ix12 hown hK hh (q := 0) rfl (hI.1 _ (by decide)) es1225 rfl 2 (by decide) (hts _ tw_881) (fun _ h9 => h9) rfl dX12_told_42 ?_
    exact hp_iretR hx hb hr rfl hlocks hsz hh ((Or.inr (Or.inl ⟨q_1226_1, (by rw [es1225]; rfl)⟩))) dX12_told_45
  by_cases q_1226_2 : z = 2
  · refine lv_tableIn (off := 45) (tgt := 46) hx hb dX12_told_1 (by rw [q_1226_2]; decide) (by rw [q_1226_2]; decide) (by rw [q_1226_2]; decide) (by decide) ?_
    refine lv_aload_n hx hb dX12_told_46 rfl (lv_at hl 0 rfl) ?_
    refine hp_get hx hb hts ix12 hown hK hh (q := 0) rfl (hI.1 _ (by decide)) es1225 rfl 3 (by decide) (hts _ tw_882) (fun _ h9 => h9) rfl dX12_told_47 ?_
    exact hp_iretR hx hb hr rfl hlocks hsz hh ((Or.inr (Or.inr (Or.inl ⟨q_1226_2, (by rw [es1225]; rfl)⟩)))) dX12_told_50
  by_cases q_1226_3 : z = 3
  · refine lv_tableIn (off := 50) (tgt := 51) hx hb dX12_told_1 (by rw [q_1226_3]; decide) (by rw [q_1226_3]; decide) (by rw [q_1226_3]; decide) (by decide) ?_
    refine lv_aload_n hx hb dX12_told_51 rfl (lv_at hl 0 rfl) ?_
    refine hp_get hx hb hts ix12 hown hK hh (q := 0) rfl (hI.1 _ (by decide)) es1225 rfl 30 (by decide) (hts _ tw_909) (fun _ h9 => h9) rfl dX12_told_52 ?_
    exact hp_iretR hx hb hr rfl hlocks hsz hh ((Or.inr (Or.inr (Or.inr (Or.inl ⟨q_1226_3, (by rw [es1225]; rfl)⟩))))) dX12_told_55
  by_cases q_1226_4 : z = 4
  · refine lv_tableIn (off := 55) (tgt := 56) hx hb dX12_told_1 (by rw [q_1226_4]; decide) (by rw [q_1226_4]; decide) (by rw [q_1226_4]; decide) (by decide) ?_
    refine lv_iconst (v := 0) hx hb dX12_told_56 (by decide) ?_
    refine lv_istore_n (lv' := [(2, .int 0), (0, .ref (ad 0)), (1, .int z)]) hx hb dX12_told_57 rfl hl (by decide) rfl (fun ls hl => ?_)
    refine lv_iconst (v := 0) hx hb dX12_told_58 (by decide) ?_
    refine lv_istore_n (lv' := [(3, .int 0), (2, .int 0), (0, .ref (ad 0)), (1, .int z)]) hx hb dX12_told_59 rfl hl (by decide) rfl (fun ls hl => ?_)
    have loop_1227 : ∀ (fu j1227 : Nat) (ac1227 : Int32)  (ls : Array Slot) (H : Heap) (locs : List Loc), 0 ≤ j1227 → j1227 ≤ tb → tb < j1227 + fu →  (ac1227 = cpO (mnG (rdF (en 2))) tb j1227) → lv_has ls 5 [(3, .int (nI j1227)), (2, .int ac1227), (0, .ref (ad 0)), (1, .int z)] → Hp D (Nf sz) (fun _ => True) s.heap H locs cs ad en → W p l e (headSpec (Cond.code yX12_told cX12_told 5 (some .int) :: TB) (rmN 1)).room s m ([.ref (ad 0), .int z] : List Value).toArray below meth c H locs 0 0 (MQ below (va_Qi (S := Unit) (fun r _ => RTO z r en) (fun _ _ => True) (Nf sz)) ([.ref (ad 0), .int z] : List Value).toArray s 0 0 (Nf sz)) (F0 m 60 ls []) := by
      intro fu
      induction fu with
      | zero => intro j1227 ac1227 ls H locs h0 h1 h2; exact absurd h2 (by omega)
      | succ fu ih_1227 =>
        intro j1227 ac1227 ls H locs hj0_1227 hj_1227 hfu_1227 i0_1227 hl hh
        refine lv_iload_n hx hb dX12_told_60 rfl (lv_at hl 0 rfl) ?_
        refine lv_aload_n hx hb dX12_told_61 rfl (lv_at hl 2 rfl) ?_
        refine hp_get hx hb hts ix12 hown hK hh (q := 0) rfl (hI.1 _ (by decide)) es1225 rfl 4 (by decide) (hts _ tw_883) (fun _ h9 => h9) rfl dX12_told_62 ?_
        refine lv_icmp_ge (tgt := 110) hx hb dX12_told_65 (by decide) (fun c_1228 => ?_) (fun c_1228 => ?_)
        · have n_1228 : tb ≤ j1227 := n_le (a := tb) (b := j1227) c_1228 (by omega) (by omega)
          refine lv_iload_n hx hb dX12_told_110 rfl (lv_at hl 1 rfl) ?_
          exact hp_iretR hx hb hr rfl hlocks hsz hh ((Or.inr (Or.inr (Or.inr (Or.inr (Or.inl ⟨q_1226_4, (by rw [show rdI (en 0) 4 = nI tb from by rw [es1225]; rfl, nI_clamp (n := tb) (by omega)]; have e9 : j1227 = tb := (by omega); rw [e9] at i0_1227; exact i0_1227)⟩)))))) dX12_told_111
        · have n_1228 : j1227 < tb := n_nle (a := tb) (b := j1227) c_1228 (by omega) (by omega)
          refine lv_iconst (v := 0) hx hb dX12_told_68 (by decide) ?_
          refine lv_istore (lv' := [(4, .int 0), (3, .int (nI j1227)), (2, .int ac1227), (0, .ref (ad 0)), (1, .int z)]) hx hb dX12_told_69 hl (by decide) rfl (fun ls hl => ?_)
          have loop_1229 : ∀ (fu j1229 : Nat) (ac1229 : Int32)  (ls : Array Slot) (H : Heap) (locs : List Loc), 0 ≤ j1229 → j1229 ≤ tb → tb < j1229 + fu →  (ac1229 = cpO (mnG (rdF (en 2))) tb j1227 + cpI (mnG (rdF (en 2))) j1227 j1229) → lv_has ls 5 [(4, .int (nI j1229)), (3, .int (nI j1227)), (2, .int ac1229), (0, .ref (ad 0)), (1, .int z)] → Hp D (Nf sz) (fun _ => True) s.heap H locs cs ad en → W p l e (headSpec (Cond.code yX12_told cX12_told 5 (some .int) :: TB) (rmN 1)).room s m ([.ref (ad 0), .int z] : List Value).toArray below meth c H locs 0 0 (MQ below (va_Qi (S := Unit) (fun r _ => RTO z r en) (fun _ _ => True) (Nf sz)) ([.ref (ad 0), .int z] : List Value).toArray s 0 0 (Nf sz)) (F0 m 71 ls []) := by
            intro fu
            induction fu with
            | zero => intro j1229 ac1229 ls H locs h0 h1 h2; exact absurd h2 (by omega)
            | succ fu ih_1229 =>
              intro j1229 ac1229 ls H locs hj0_1229 hj_1229 hfu_1229 i0_1229 hl hh
              refine lv_iload hx hb dX12_told_71 (lv_at hl 0 rfl) ?_
              refine lv_aload_n hx hb dX12_told_73 rfl (lv_at hl 3 rfl) ?_
              refine hp_get hx hb hts ix12 hown hK hh (q := 0) rfl (hI.1 _ (by decide)) es1225 rfl 4 (by decide) (hts _ tw_883) (fun _ h9 => h9) rfl dX12_told_74 ?_
              refine lv_icmp_ge (tgt := 104) hx hb dX12_told_77 (by decide) (fun c_1230 => ?_) (fun c_1230 => ?_)
              · have n_1230 : tb ≤ j1229 := n_le (a := tb) (b := j1229) c_1230 (by omega) (by omega)
                refine lv_iinc (v := (nI (j1227 + 1))) (lv' := [(3, .int (nI (j1227 + 1))), (4, .int (nI j1229)), (2, .int ac1229), (0, .ref (ad 0)), (1, .int z)]) hx hb dX12_told_104 hl (k := 1) rfl (nI_1 _) (by decide) rfl (fun ls hl => ?_)
                refine lv_goto (tgt := 60) hx hb dX12_told_107 (by decide) ?_
                exact ih_1227 ((j1227 + 1)) ac1229 ls H locs (by omega) (by omega) (by omega) ((by have e9 : j1229 = tb := (by omega); rw [e9] at i0_1229; exact i0_1229)) (lv_sub hl [0, 2, 3, 4] rfl) hh
              · have n_1230 : j1229 < tb := n_nle (a := tb) (b := j1229) c_1230 (by omega) (by omega)
                refine lv_iload_n hx hb dX12_told_80 rfl (lv_at hl 2 rfl) ?_
                refine lv_aload_n hx hb dX12_told_81 rfl (lv_at hl 3 rfl) ?_
                refine lv_iload_n hx hb dX12_told_82 rfl (lv_at hl 1 rfl) ?_
                refine lv_iload hx hb dX12_told_83 (lv_at hl 0 rfl) ?_
                refine hp_callRi (va_runV (As := [.int (nI j1227), .int (nI j1229)]) (rest := [.int ac1229]) ⟨hx, hb, hml, hown, hts⟩ (c_X12_mayFollow l D cy _ cs ad en hI j1227 j1229 (by omega) (by omega)) (kw_X12_mayFollow hts tw_1029 ⟨by decide, by decide⟩) (preV_of hh hK (hI.1 _ (by decide)) es1225 rfl) rfl rfl hl.1 rfl (lv_room (Nat.le_of_ble_eq_true rfl)) dX12_told_85 ⟨Nat.le_of_ble_eq_true rfl, Nat.le_of_ble_eq_true rfl⟩) hh hA (fun r_1231 H locs hw_1231 hh => ?_)
                rcases Decidable.em (rdF (en 2) (6 * j1227 + j1229) = 0) with hp_1231 | hp_1231
                · obtain rfl : r_1231 = 1 := Eq.trans hw_1231 (if_pos hp_1231)
                  refine lv_if_eq (tgt := 95) hx hb dX12_told_88 (by decide) (fun c_0 => absurd c_0 (by decide)) (fun _ => ?_)
                  refine lv_iconst (v := 1) hx hb dX12_told_91 (by decide) ?_
                  refine lv_goto (tgt := 96) hx hb dX12_told_92 (by decide) ?_
                  refine lv_iadd hx hb dX12_told_96 ?_
                  refine lv_istore_n (lv' := [(2, .int (ac1229 + 1)), (4, .int (nI j1229)), (3, .int (nI j1227)), (0, .ref (ad 0)), (1, .int z)]) hx hb dX12_told_97 rfl hl (by decide) rfl (fun ls hl => ?_)
                  refine lv_iinc (v := (nI (j1229 + 1))) (lv' := [(4, .int (nI (j1229 + 1))), (2, .int (ac1229 + 1)), (3, .int (nI j1227)), (0, .ref (ad 0)), (1, .int z)]) hx hb dX12_told_98 hl (k := 1) rfl (nI_1 _) (by decide) rfl (fun ls hl => ?_)
                  refine lv_goto (tgt := 71) hx hb dX12_told_101 (by decide) ?_
                  exact ih_1229 ((j1229 + 1)) (ac1229 + 1) ls H locs (by omega) (by omega) (by omega) ((by rw [i0_1229]; show _ = cpO (mnG (rdF (en 2))) tb j1227 + (cpI (mnG (rdF (en 2))) j1227 j1229 + mnG (rdF (en 2)) (j1227 * 6 + j1229)); rw [show mnG (rdF (en 2)) (j1227 * 6 + j1229) = 1 from by unfold mnG; rw [Nat.mul_comm j1227 6, if_pos hp_1231], Int32.add_assoc])) (lv_sub hl [0, 2, 1, 3, 4] rfl) hh
                · obtain rfl : r_1231 = 0 := Eq.trans hw_1231 (if_neg hp_1231)
                  refine lv_if_eq (tgt := 95) hx hb dX12_told_88 (by decide) (fun _ => ?_) (fun c_0 => absurd c_0 (by decide))
                  refine lv_iconst (v := 0) hx hb dX12_told_95 (by decide) ?_
                  refine lv_iadd hx hb dX12_told_96 ?_
                  refine lv_istore_n (lv' := [(2, .int (ac1229 + 0)), (4, .int (nI j1229)), (3, .int (nI j1227)), (0, .ref (ad 0)), (1, .int z)]) hx hb dX12_told_97 rfl hl (by decide) rfl (fun ls hl => ?_)
                  refine lv_iinc (v := (nI (j1229 + 1))) (lv' := [(4, .int (nI (j1229 + 1))), (2, .int (ac1229 + 0)), (3, .int (nI j1227)), (0, .ref (ad 0)), (1, .int z)]) hx hb dX12_told_98 hl (k := 1) rfl (nI_1 _) (by decide) rfl (fun ls hl => ?_)
                  refine lv_goto (tgt := 71) hx hb dX12_told_101 (by decide) ?_
                  exact ih_1229 ((j1229 + 1)) (ac1229 + 0) ls H locs (by omega) (by omega) (by omega) ((by rw [i0_1229]; show _ = cpO (mnG (rdF (en 2))) tb j1227 + (cpI (mnG (rdF (en 2))) j1227 j1229 + mnG (rdF (en 2)) (j1227 * 6 + j1229)); rw [show mnG (rdF (en 2)) (j1227 * 6 + j1229) = 0 from by unfold mnG; rw [Nat.mul_comm j1227 6, if_neg hp_1231], Int32.add_zero, Int32.add_zero])) (lv_sub hl [0, 2, 1, 3, 4] rfl) hh
          exact loop_1229 (tb + 1) 0 ac1227 ls _ _ (Nat.le_refl _) (by omega) (by omega) ((by rw [i0_1227]; exact (Int32.add_zero _).symm)) (lv_sub hl [0, 1, 2, 3, 4] rfl) hh
    exact loop_1227 (tb + 1) 0 0 ls _ _ (Nat.le_refl _) (by omega) (by omega) (rfl) (lv_sub hl [0, 1, 2, 3] rfl) hh
  refine lv_tableOut (tgt := 112) hx hb dX12_told_1 (tb_out 5 (by decide) (by decide) (fun j hj => by rcases (show j = 0 ∨ j = 1 ∨ j = 2 ∨ j = 3 ∨ j = 4 by omega) with rfl | rfl | rfl | rfl | rfl <;> first | exact lv_neT q_1226_0 (by decide) | exact lv_neT q_1226_1 (by decide) | exact lv_neT q_1226_2 (by decide) | exact lv_neT q_1226_3 (by decide) | exact lv_neT q_1226_4 (by decide))) (by decide) ?_
  refine lv_bipush (v := (-2)) hx hb dX12_told_112 (by decide) ?_
  exact hp_iretR hx hb hr rfl hlocks hsz hh ((Or.inr (Or.inr (Or.inr (Or.inr (Or.inr (⟨q_1226_0, q_1226_1, q_1226_2, q_1226_3, q_1226_4, rfl⟩))))))) dX12_told_114
theorem kw_X12_told {R : Room} {s : State} {args : Array Value} {own : String} {idx : Nat} (hts : ∀ w ∈ TB, w.before args s = true) (hl : Cond.methodLink own idx yX12_told ∈ TB) (hR : 1 + 1 ≤ R.frames ∧ 8 + (5 + 11) + 40 * 1 ≤ R.locals) : CallW R s args own RX12 idx yX12_told cX12_told 5 (some .int) (Cond.code yX12_told cX12_told 5 (some .int) :: TB) (rmN 1) 0 0 1 := cwV 1 hts (TB_V hl tw_1256 tw_1257 tw_9 tw_1258) rfl rfl rfl (by decide +kernel) hR
set_option maxHeartbeats 4000000 in
set_option maxRecDepth 100000 in
/-- letter -/
theorem c_X12_letter (l : Launch) (D : va_G) (cy : Nat → ClassId) (sz : Nat) (cs : List Nat) (ad : Nat → Nat) (en : Nat → va_E) (hI : RX cy cs ad en) (w i9 : Int32)   : Met l yX12_letter (Cond.code yX12_letter cX12_letter 3 (some .int) :: TB) (rmN 1) (va_Pc [.ref (ad 0), .int w, .int i9] (Pre D cy cs ad en sz)) (va_Qi (S := Unit) (fun r _ => RLE w i9 r en) (fun _ _ => True) (Nf sz)) 0 0 (Nf sz) := by
  refine Met.ofW (cc := cX12_letter) (maxL := 3) (ret := (some .int)) (by decide) rfl ?_
  intro p e s m args below meth c s₁ B hml hv
  obtain ⟨rfl, hsz, hP, hK, hD0⟩ := hv
  have hx := B.exec
  have hb := B.bytes
  have hr := B.returns
  have hts : ∀ w ∈ TB, w.before _ s = true := fun w h => atoms_spec (ws := _ :: TB) B.pre w (List.mem_cons_of_mem _ h)
  have hown : s.vm.findClass RX12 = some m.cls := findClass_of_methodNamed B.named
  have hlocks := B.notSynchronized
  have hh : Hp D (Nf sz) (fun _ => True) s.heap s.heap [] cs ad en := ⟨hP, hD0, va_S.rf⟩
  have hA : ∀ q : Nat, s.heap.size ≤ q → Nf sz q := fun q h => by rw [hsz] at h; exact h
  have hl := lv_entry ([.ref (ad 0), .int w, .int i9]) (n := 3) (Nat.le_of_ble_eq_true rfl)
  rw [lg_entry_eq]
  generalize (lg_sl ([.ref (ad 0), .int w, .int i9]) ++ List.replicate (3 - (lg_sl ([.ref (ad 0), .int w, .int i9])).length) Slot.unset).toArray = ls at hl ⊢
  have hl : lv_has ls 3 [(0, .ref (ad 0)), (1, .int w), (2, .int i9)] := hl
  obtain ⟨fa, hi, wd, mo, tb, dp, many, grt, lst, nou, rm, rb, pr, wo, es1232, hwd2, hwd3, hmo, htb, hwo⟩ := getr_M hI
  refine lv_aload_n hx hb dX12_letter_0 rfl (lv_at hl 0 rfl) ?_
  refine lv_iload_n hx hb dX12_letter_1 rfl (lv_at hl 1 rfl) ?_
  refine hp_callRi (va_runV (As := [.int w]) (rest := []) ⟨hx, hb, hml, hown, hts⟩ (c_X12_isWord l D cy _ cs ad en hI w ) (kw_X12_isWord hts tw_1175 ⟨by decide, by decide⟩) (preV_of hh hK (hI.1 _ (by decide)) es1232 rfl) rfl rfl hl.1 rfl (lv_room (Nat.le_of_ble_eq_true rfl)) dX12_letter_2 ⟨Nat.le_of_ble_eq_true rfl, Nat.le_of_ble_eq_true rfl⟩) hh hA (fun r_1233 H locs hw_1233 hh => ?_)
  rw [show rdI (en 0) 30 = (nI wo) from by rw [es1232]; rfl, nI_toInt (n := wo) (by omega)] at hw_1233
  rcases Decidable.em (0 ≤ w.toInt ∧ w.toInt < (wo : Int)) with hp_1233 | hp_1233
  · obtain rfl : r_1233 = 1 := Eq.trans hw_1233 (if_pos hp_1233)
    obtain ⟨T_1233, rfl, hT_1233⟩ := has_nat hp_1233
    refine lv_if_eq (tgt := 40) hx hb dX12_letter_5 (by decide) (fun c_0 => absurd c_0 (by decide)) (fun _ => ?_)
    refine lv_iload_n hx hb dX12_letter_8 rfl (lv_at hl 2 rfl) ?_
    refine lv_i2l hx hb dX12_letter_9 rfl ?_
    refine lv_lconst (v := 0) hx hb dX12_letter_10 (by decide) ?_
    refine lv_aload_n hx hb dX12_letter_11 rfl (lv_at hl 0 rfl) ?_
    refine hp_get hx hb hts ix12 hown hK hh (q := 0) rfl (hI.1 _ (by decide)) es1232 rfl 32 (by decide) (hts _ tw_911) (fun _ h9 => h9) rfl dX12_letter_12 ?_
    refine lv_iload_n hx hb dX12_letter_15 rfl (lv_at hl 1 rfl) ?_
    obtain ⟨f_1234, es1234, p0_1234⟩ := getr_wl hI
    refine hp_iald hx hb hK hh (q := 19) rfl (hI.1 _ (by decide)) es1234 (vp_in_nI (n := T_1233) (by omega) (by decide)) dX12_letter_16 ?_
    rw [nI_clamp (n := T_1233) (by omega)]
    obtain ⟨v_1235, hv_1235, hfv_1235⟩ := p0_1234 T_1233 (by omega)
    rw [hfv_1235]
    refine lv_i2l hx hb dX12_letter_17 rfl ?_
    refine lv_lconst (v := 1) hx hb dX12_letter_18 (by decide) ?_
    refine lv_lsub hx hb dX12_letter_19 ?_
    refine hp_callRi (va_runS (As := [.long i9.toInt64, .long 0, .long ((nI v_1235).toInt64 - 1)]) (rest := []) ⟨hx, hb, hml, hown, hts⟩ (c_X12_within l D cy _ cs ad en i9.toInt64 0 ((nI v_1235).toInt64 - 1)) (kw_X12_within hts tw_985 ⟨by decide, by decide⟩) (preS_of hh hK) rfl rfl hl.1 rfl (lv_room (Nat.le_of_ble_eq_true rfl)) dX12_letter_20 ⟨Nat.le_of_ble_eq_true rfl, Nat.le_of_ble_eq_true rfl⟩) hh hA (fun r_1236 H locs hw_1236 hh => ?_)
    rcases Decidable.em (0 ≤ i9.toInt ∧ i9.toInt < (v_1235 : Int)) with hp_1236 | hp_1236
    · obtain rfl : r_1236 = 1 := Eq.trans hw_1236 (if_pos ((wj_m1 (by omega)).mpr hp_1236))
      obtain ⟨N_1236, rfl, hB_1236⟩ := has_nat hp_1236
      refine lv_if_eq (tgt := 40) hx hb dX12_letter_23 (by decide) (fun c_0 => absurd c_0 (by decide)) (fun _ => ?_)
      refine lv_aload_n hx hb dX12_letter_26 rfl (lv_at hl 0 rfl) ?_
      refine hp_get hx hb hts ix12 hown hK hh (q := 0) rfl (hI.1 _ (by decide)) es1232 rfl 31 (by decide) (hts _ tw_910) (fun _ h9 => h9) rfl dX12_letter_27 ?_
      refine lv_bipush (v := 12) hx hb dX12_letter_30 (by decide) ?_
      refine lv_iload_n hx hb dX12_letter_32 rfl (lv_at hl 1 rfl) ?_
      refine lv_imul hx hb dX12_letter_33 ?_
      rw [show (12 : Int32) = nI 12 from rfl, pk_mul 12 T_1233]
      refine lv_iload_n hx hb dX12_letter_34 rfl (lv_at hl 2 rfl) ?_
      refine lv_iadd hx hb dX12_letter_35 ?_
      rw [nI_add (12 * T_1233) N_1236]
      obtain ⟨f_1237, es1237, p0_1237⟩ := getr_lt hI
      refine hp_iald hx hb hK hh (q := 18) rfl (hI.1 _ (by decide)) es1237 (vp_in_nI (n := ((12 * T_1233) + N_1236)) (by omega) (by decide)) dX12_letter_36 ?_
      rw [nI_clamp (n := ((12 * T_1233) + N_1236)) (by omega)]
      obtain ⟨v_1238, hv_1238, hfv_1238⟩ := p0_1237 ((12 * T_1233) + N_1236) (by omega)
      rw [hfv_1238]
      refine lv_goto (tgt := 41) hx hb dX12_letter_37 (by decide) ?_
      have hc30 : (rdI (en 0) 30).toInt = (wo : Int) := by rw [es1232]; exact nI_toInt (by omega)
      have hc19 : (rdF (en 19) T_1233).toInt = (v_1235 : Int) := by rw [show rdF (en 19) = f_1234 from by rw [es1234]; rfl, hfv_1235]; exact nI_toInt (by omega)
      exact hp_iretR hx hb hr rfl hlocks hsz hh (Or.inr ⟨T_1233, rfl, by omega, ⟨hp_1233.1, by have := hp_1233.2; omega⟩, Or.inl ⟨⟨hp_1236.1, by have := hp_1236.2; omega⟩, (by rw [nI_clamp (n := N_1236) (by omega), show rdF (en 18) = f_1237 from by rw [es1237]; rfl]; exact hfv_1238.symm)⟩⟩) dX12_letter_41
    · obtain rfl : r_1236 = 0 := Eq.trans hw_1236 (if_neg (fun q => hp_1236 ((wj_m1 (by omega)).mp q)))
      refine lv_if_eq (tgt := 40) hx hb dX12_letter_23 (by decide) (fun _ => ?_) (fun c_0 => absurd c_0 (by decide))
      refine lv_iconst (v := (-1)) hx hb dX12_letter_40 (by decide) ?_
      have hc30 : (rdI (en 0) 30).toInt = (wo : Int) := by rw [es1232]; exact nI_toInt (by omega)
      have hc19 : (rdF (en 19) T_1233).toInt = (v_1235 : Int) := by rw [show rdF (en 19) = f_1234 from by rw [es1234]; rfl, hfv_1235]; exact nI_toInt (by omega)
      exact hp_iretR hx hb hr rfl hlocks hsz hh (Or.inr ⟨T_1233, rfl, by omega, ⟨hp_1233.1, by have := hp_1233.2; omega⟩, Or.inr ⟨fun q => hp_1236 ⟨q.1, by have := q.2; omega⟩, rfl⟩⟩) dX12_letter_41
  · obtain rfl : r_1233 = 0 := Eq.trans hw_1233 (if_neg hp_1233)
    refine lv_if_eq (tgt := 40) hx hb dX12_letter_5 (by decide) (fun _ => ?_) (fun c_0 => absurd c_0 (by decide))
    refine lv_iconst (v := (-1)) hx hb dX12_letter_40 (by decide) ?_
    have hc30 : (rdI (en 0) 30).toInt = (wo : Int) := by rw [es1232]; exact nI_toInt (by omega)
    exact hp_iretR hx hb hr rfl hlocks hsz hh (Or.inl ⟨fun q => hp_1233 ⟨q.1, by have := q.2; omega⟩, rfl⟩) dX12_letter_41
theorem kw_X12_letter {R : Room} {s : State} {args : Array Value} {own : String} {idx : Nat} (hts : ∀ w ∈ TB, w.before args s = true) (hl : Cond.methodLink own idx yX12_letter ∈ TB) (hR : 1 + 1 ≤ R.frames ∧ 8 + (3 + 11) + 40 * 1 ≤ R.locals) : CallW R s args own RX12 idx yX12_letter cX12_letter 3 (some .int) (Cond.code yX12_letter cX12_letter 3 (some .int) :: TB) (rmN 1) 0 0 2 := cwV 2 hts (TB_V hl tw_1180 tw_1181 tw_9 tw_1182) rfl rfl rfl (by decide +kernel) hR
set_option maxHeartbeats 4000000 in
set_option maxRecDepth 100000 in
/-- isAllowed -/
theorem c_X12_isAllowed (l : Launch) (D : va_G) (cy : Nat → ClassId) (sz : Nat) (cs : List Nat) (ad : Nat → Nat) (en : Nat → va_E) (hI : RX cy cs ad en) (n : Nat) (hn1 : 1 ≤ n) (hn12 : n ≤ 12)   : Met l yX12_isAllowed (Cond.code yX12_isAllowed cX12_isAllowed 3 (some .boolean) :: TB) (rmN 1) (va_Pc [.ref (ad 0), .int (nI n)] (Pre D cy cs ad en sz)) (va_Qi (S := Unit) (fun r _ => bI r (alM (rdF (en 2)) (rdF (en 12)) n)) (fun _ _ => True) (Nf sz)) 0 0 (Nf sz) := by
  refine Met.ofW (cc := cX12_isAllowed) (maxL := 3) (ret := (some .boolean)) (by decide) rfl ?_
  intro p e s m args below meth c s₁ B hml hv
  obtain ⟨rfl, hsz, hP, hK, hD0⟩ := hv
  have hx := B.exec
  have hb := B.bytes
  have hr := B.returns
  have hts : ∀ w ∈ TB, w.before _ s = true := fun w h => atoms_spec (ws := _ :: TB) B.pre w (List.mem_cons_of_mem _ h)
  have hown : s.vm.findClass RX12 = some m.cls := findClass_of_methodNamed B.named
  have hlocks := B.notSynchronized
  have hh : Hp D (Nf sz) (fun _ => True) s.heap s.heap [] cs ad en := ⟨hP, hD0, va_S.rf⟩
  have hA : ∀ q : Nat, s.heap.size ≤ q → Nf sz q := fun q h => by rw [hsz] at h; exact h
  have hl := lv_entry ([.ref (ad 0), .int (nI n)]) (n := 3) (Nat.le_of_ble_eq_true rfl)
  rw [lg_entry_eq]
  generalize (lg_sl ([.ref (ad 0), .int (nI n)]) ++ List.replicate (3 - (lg_sl ([.ref (ad 0), .int (nI n)])).length) Slot.unset).toArray = ls at hl ⊢
  have hl : lv_has ls 3 [(0, .ref (ad 0)), (1, .int (nI n))] := hl
  obtain ⟨fa, hi, wd, mo, tb, dp, many, grt, lst, nou, rm, rb, pr, wo, es1239, hwd2, hwd3, hmo, htb, hwo⟩ := getr_M hI
  obtain ⟨f_1240, es1240, p0_1240⟩ := getr_ak hI
  refine lv_iconst (v := 1) hx hb dX12_isAllowed_0 (by decide) ?_
  refine lv_istore_n (lv' := [(2, .int 1), (0, .ref (ad 0)), (1, .int (nI n))]) hx hb dX12_isAllowed_1 rfl hl (by decide) rfl (fun ls hl => ?_)
  have loop_1241 : ∀ (fu j1241 : Nat)   (ls : Array Slot) (H : Heap) (locs : List Loc), 1 ≤ j1241 → j1241 ≤ n → n < j1241 + fu →  (∀ i, 1 ≤ i → i < j1241 → rdF (en 2) (6 * (rdF (en 12) (i - 1)).toNatClampNeg + (rdF (en 12) i).toNatClampNeg) = 0) → lv_has ls 3 [(2, .int (nI j1241)), (0, .ref (ad 0)), (1, .int (nI n))] → Hp D (Nf sz) (fun _ => True) s.heap H locs cs ad en → W p l e (headSpec (Cond.code yX12_isAllowed cX12_isAllowed 3 (some .boolean) :: TB) (rmN 1)).room s m ([.ref (ad 0), .int (nI n)] : List Value).toArray below meth c H locs 0 0 (MQ below (va_Qi (S := Unit) (fun r _ => bI r (alM (rdF (en 2)) (rdF (en 12)) n)) (fun _ _ => True) (Nf sz)) ([.ref (ad 0), .int (nI n)] : List Value).toArray s 0 0 (Nf sz)) (F0 m 2 ls []) := by
    intro fu
    induction fu with
    | zero => intro j1241  ls H locs h0 h1 h2; exact absurd h2 (by omega)
    | succ fu ih_1241 =>
      intro j1241  ls H locs hj0_1241 hj_1241 hfu_1241 i0_1241 hl hh
      refine lv_iload_n hx hb dX12_isAllowed_2 rfl (lv_at hl 0 rfl) ?_
      refine lv_iload_n hx hb dX12_isAllowed_3 rfl (lv_at hl 2 rfl) ?_
      refine lv_icmp_ge (tgt := 36) hx hb dX12_isAllowed_4 (by decide) (fun c_1242 => ?_) (fun c_1242 => ?_)
      · have n_1242 : n ≤ j1241 := n_le (a := n) (b := j1241) c_1242 (by omega) (by omega)
        refine lv_iconst (v := 1) hx hb dX12_isAllowed_36 (by decide) ?_
        exact hp_iretR hx hb hr rfl hlocks hsz hh (Or.inl ⟨rfl, fun i h1 h2 => i0_1241 i h1 (by omega)⟩) dX12_isAllowed_37
      · have n_1242 : j1241 < n := n_nle (a := n) (b := j1241) c_1242 (by omega) (by omega)
        refine lv_aload_n hx hb dX12_isAllowed_7 rfl (lv_at hl 1 rfl) ?_
        refine lv_aload_n hx hb dX12_isAllowed_8 rfl (lv_at hl 1 rfl) ?_
        refine hp_get hx hb hts ix12 hown hK hh (q := 0) rfl (hI.1 _ (by decide)) es1239 rfl 21 (by decide) (hts _ tw_900) (fun _ h9 => h9) rfl dX12_isAllowed_9 ?_
        refine lv_iload_n hx hb dX12_isAllowed_12 rfl (lv_at hl 0 rfl) ?_
        refine lv_iconst (v := 1) hx hb dX12_isAllowed_13 (by decide) ?_
        refine lv_isub hx hb dX12_isAllowed_14 ?_
        rw [show (1 : Int32) = nI 1 from rfl, pk_sub (a := j1241) (b := 1) (by omega)]
        refine hp_iald hx hb hK hh (q := 12) rfl (hI.1 _ (by decide)) es1240 (vp_in_nI (n := (j1241 - 1)) (by omega) (by decide)) dX12_isAllowed_15 ?_
        rw [nI_clamp (n := (j1241 - 1)) (by omega)]
        obtain ⟨v_1243, hv_1243, hfv_1243⟩ := p0_1240 (j1241 - 1) (by omega)
        rw [hfv_1243]
        refine lv_aload_n hx hb dX12_isAllowed_16 rfl (lv_at hl 1 rfl) ?_
        refine hp_get hx hb hts ix12 hown hK hh (q := 0) rfl (hI.1 _ (by decide)) es1239 rfl 21 (by decide) (hts _ tw_900) (fun _ h9 => h9) rfl dX12_isAllowed_17 ?_
        refine lv_iload_n hx hb dX12_isAllowed_20 rfl (lv_at hl 0 rfl) ?_
        refine hp_iald hx hb hK hh (q := 12) rfl (hI.1 _ (by decide)) es1240 (vp_in_nI (n := j1241) (by omega) (by decide)) dX12_isAllowed_21 ?_
        rw [nI_clamp (n := j1241) (by omega)]
        obtain ⟨v_1244, hv_1244, hfv_1244⟩ := p0_1240 j1241 (by omega)
        rw [hfv_1244]
        refine hp_callRi (va_runV (As := [.int (nI v_1243), .int (nI v_1244)]) (rest := []) ⟨hx, hb, hml, hown, hts⟩ (c_X12_mayFollow l D cy _ cs ad en hI v_1243 v_1244 (by omega) (by omega)) (kw_X12_mayFollow hts tw_1029 ⟨by decide, by decide⟩) (preV_of hh hK (hI.1 _ (by decide)) es1239 rfl) rfl rfl hl.1 rfl (lv_room (Nat.le_of_ble_eq_true rfl)) dX12_isAllowed_22 ⟨Nat.le_of_ble_eq_true rfl, Nat.le_of_ble_eq_true rfl⟩) hh hA (fun r_1245 H locs hw_1245 hh => ?_)
        rcases Decidable.em (rdF (en 2) (6 * v_1243 + v_1244) = 0) with hp_1245 | hp_1245
        · obtain rfl : r_1245 = 1 := Eq.trans hw_1245 (if_pos hp_1245)
          refine lv_if_ne (tgt := 30) hx hb dX12_isAllowed_25 (by decide) (fun _ => ?_) (fun c_0 => absurd c_0 (by decide))
          refine lv_iinc (v := (nI (j1241 + 1))) (lv' := [(2, .int (nI (j1241 + 1))), (0, .ref (ad 0)), (1, .int (nI n))]) hx hb dX12_isAllowed_30 hl (k := 0) rfl (nI_1 _) (by decide) rfl (fun ls hl => ?_)
          refine lv_goto (tgt := 2) hx hb dX12_isAllowed_33 (by decide) ?_
          exact ih_1241 ((j1241 + 1))  ls H locs (by omega) (by omega) (by omega) (fun i h1 h2 => (Nat.lt_or_ge i j1241).elim (fun h => i0_1241 i h1 h) (fun h => by have e : i = j1241 := (by omega); rw [e]; exact (by rw [show rdF (en 12) = f_1240 from by rw [es1240]; rfl, hfv_1243, hfv_1244, nI_clamp (n := v_1243) (by omega), nI_clamp (n := v_1244) (by omega)]; exact hp_1245))) (lv_sub hl [0, 1, 2] rfl) hh
        · obtain rfl : r_1245 = 0 := Eq.trans hw_1245 (if_neg hp_1245)
          refine lv_if_ne (tgt := 30) hx hb dX12_isAllowed_25 (by decide) (fun c_0 => absurd c_0 (by decide)) (fun _ => ?_)
          refine lv_iconst (v := 0) hx hb dX12_isAllowed_28 (by decide) ?_
          exact hp_iretR hx hb hr rfl hlocks hsz hh (Or.inr ⟨rfl, fun q => hp_1245 (by have h9 := q j1241 (by omega) (by omega); rw [show rdF (en 12) = f_1240 from by rw [es1240]; rfl, hfv_1243, hfv_1244, nI_clamp (n := v_1243) (by omega), nI_clamp (n := v_1244) (by omega)] at h9; exact h9)⟩) dX12_isAllowed_29
  exact loop_1241 (n + 1) 1  ls _ _ (Nat.le_refl _) (by omega) (by omega) (fun i h1 h2 => absurd h2 (by omega)) (lv_sub hl [0, 1, 2] rfl) hh
theorem kw_X12_isAllowed {R : Room} {s : State} {args : Array Value} {own : String} {idx : Nat} (hts : ∀ w ∈ TB, w.before args s = true) (hl : Cond.methodLink own idx yX12_isAllowed ∈ TB) (hR : 1 + 1 ≤ R.frames ∧ 8 + (3 + 11) + 40 * 1 ≤ R.locals) : CallW R s args own RX12 idx yX12_isAllowed cX12_isAllowed 3 (some .boolean) (Cond.code yX12_isAllowed cX12_isAllowed 3 (some .boolean) :: TB) (rmN 1) 0 0 1 := cwV 1 hts (TB_V hl tw_1083 ts_46 tw_9 tw_1084) rfl rfl rfl (by decide +kernel) hR
set_option maxHeartbeats 4000000 in
set_option maxRecDepth 100000 in
/-- timesOf -/
theorem c_X12_timesOf (l : Launch) (D : va_G) (cy : Nat → ClassId) (sz : Nat) (cs : List Nat) (ad : Nat → Nat) (en : Nat → va_E) (hI : RX cy cs ad en) (n : Nat) (hn1 : 1 ≤ n) (hn12 : n ≤ 12)   : Met l yX12_timesOf (Cond.code yX12_timesOf cX12_timesOf 5 (some .int) :: TB) (rmN 0) (va_Pc [.ref (ad 0), .int (nI n)] (Pre D cy cs ad en sz)) (va_Qi (S := Unit) (fun r _ => repP (rdF (en 12)) n r) (fun _ _ => True) (Nf sz)) 0 0 (Nf sz) := by
  refine Met.ofW (cc := cX12_timesOf) (maxL := 5) (ret := (some .int)) (by decide) rfl ?_
  intro p e s m args below meth c s₁ B hml hv
  obtain ⟨rfl, hsz, hP, hK, hD0⟩ := hv
  have hx := B.exec
  have hb := B.bytes
  have hr := B.returns
  have hts : ∀ w ∈ TB, w.before _ s = true := fun w h => atoms_spec (ws := _ :: TB) B.pre w (List.mem_cons_of_mem _ h)
  have hown : s.vm.findClass RX12 = some m.cls := findClass_of_methodNamed B.named
  have hlocks := B.notSynchronized
  have hh : Hp D (Nf sz) (fun _ => True) s.heap s.heap [] cs ad en := ⟨hP, hD0, va_S.rf⟩
  have hA : ∀ q : Nat, s.heap.size ≤ q → Nf sz q := fun q h => by rw [hsz] at h; exact h
  have hl := lv_entry ([.ref (ad 0), .int (nI n)]) (n := 5) (Nat.le_of_ble_eq_true rfl)
  rw [lg_entry_eq]
  generalize (lg_sl ([.ref (ad 0), .int (nI n)]) ++ List.replicate (5 - (lg_sl ([.ref (ad 0), .int (nI n)])).length) Slot.unset).toArray = ls at hl ⊢
  have hl : lv_has ls 5 [(0, .ref (ad 0)), (1, .int (nI n))] := hl
  obtain ⟨fa, hi, wd, mo, tb, dp, many, grt, lst, nou, rm, rb, pr, wo, es1246, hwd2, hwd3, hmo, htb, hwo⟩ := getr_M hI
  obtain ⟨f_1247, es1247, p0_1247⟩ := getr_ak hI
  refine lv_iconst (v := 1) hx hb dX12_timesOf_0 (by decide) ?_
  refine lv_istore_n (lv' := [(2, .int 1), (0, .ref (ad 0)), (1, .int (nI n))]) hx hb dX12_timesOf_1 rfl hl (by decide) rfl (fun ls hl => ?_)
  have hak : rdF (en 12) = f_1247 := by rw [es1247]; rfl
  have loop_1248 : ∀ (fu j1248 : Nat)   (ls : Array Slot) (H : Heap) (locs : List Loc), 1 ≤ j1248 → j1248 ≤ n → n < j1248 + fu →  (∀ y, 1 ≤ y → y < j1248 → ¬ (n % y = 0 ∧ perP f_1247 n y)) → lv_has ls 5 [(2, .int (nI j1248)), (0, .ref (ad 0)), (1, .int (nI n))] → Hp D (Nf sz) (fun _ => True) s.heap H locs cs ad en → W p l e (headSpec (Cond.code yX12_timesOf cX12_timesOf 5 (some .int) :: TB) (rmN 0)).room s m ([.ref (ad 0), .int (nI n)] : List Value).toArray below meth c H locs 0 0 (MQ below (va_Qi (S := Unit) (fun r _ => repP (rdF (en 12)) n r) (fun _ _ => True) (Nf sz)) ([.ref (ad 0), .int (nI n)] : List Value).toArray s 0 0 (Nf sz)) (F0 m 2 ls []) := by
    intro fu
    induction fu with
    | zero => intro j1248  ls H locs h0 h1 h2; exact absurd h2 (by omega)
    | succ fu ih_1248 =>
      intro j1248  ls H locs hj0_1248 hj_1248 hfu_1248 i0_1248 hl hh
      refine lv_iload_n hx hb dX12_timesOf_2 rfl (lv_at hl 0 rfl) ?_
      refine lv_iload_n hx hb dX12_timesOf_3 rfl (lv_at hl 2 rfl) ?_
      refine lv_icmp_ge (tgt := 77) hx hb dX12_timesOf_4 (by decide) (fun c_1249 => ?_) (fun c_1249 => ?_)
      · have n_1249 : n ≤ j1248 := n_le (a := n) (b := j1248) c_1249 (by omega) (by omega)
        refine lv_iconst (v := 1) hx hb dX12_timesOf_77 (by decide) ?_
        exact hp_iretR hx hb hr rfl hlocks hsz hh (by rw [hak]; exact Or.inr ⟨rfl, fun y h1 h2 => i0_1248 y h1 (by omega)⟩) dX12_timesOf_78
      · have n_1249 : j1248 < n := n_nle (a := n) (b := j1248) c_1249 (by omega) (by omega)
        refine lv_iload_n hx hb dX12_timesOf_7 rfl (lv_at hl 2 rfl) ?_
        refine lv_iload_n hx hb dX12_timesOf_8 rfl (lv_at hl 0 rfl) ?_
        refine lv_irem hx hb dX12_timesOf_9 (nI_ne0 (by omega) (by omega)) ?_
        rw [pk_rem (a := n) (d := j1248) (by omega) (by omega) (by omega)]
        have hq_1250 : (n % j1248) ≤ n := Nat.mod_le _ _
        refine lv_if_ne (tgt := 17) hx hb dX12_timesOf_10 (by decide) (fun c_1251 => ?_) (fun c_1251 => ?_)
        · have n_1251 : (n % j1248) ≠ 0 := n_neq (a := (n % j1248)) (b := 0) c_1251 (by omega) (by decide)
          refine lv_iconst (v := 0) hx hb dX12_timesOf_17 (by decide) ?_
          refine lv_istore_n (lv' := [(3, .int 0), (2, .int (nI j1248)), (0, .ref (ad 0)), (1, .int (nI n))]) hx hb dX12_timesOf_18 rfl hl (by decide) rfl (fun ls hl => ?_)
          refine lv_iload_n hx hb dX12_timesOf_19 rfl (lv_at hl 1 rfl) ?_
          refine lv_istore (lv' := [(4, .int (nI j1248)), (3, .int 0), (2, .int (nI j1248)), (0, .ref (ad 0)), (1, .int (nI n))]) hx hb dX12_timesOf_20 hl (by decide) rfl (fun ls hl => ?_)
          have loop_1252 : ∀ (fu j1252 : Nat) (lk1252 : Int32)  (ls : Array Slot) (H : Heap) (locs : List Loc), j1248 ≤ j1252 → j1252 ≤ n → n < j1252 + fu →  (bI lk1252 (n % j1248 = 0 ∧ ∀ y, j1248 ≤ y → y < j1252 → f_1247 y = f_1247 (y - j1248))) → lv_has ls 5 [(4, .int (nI j1252)), (3, .int lk1252), (2, .int (nI j1248)), (0, .ref (ad 0)), (1, .int (nI n))] → Hp D (Nf sz) (fun _ => True) s.heap H locs cs ad en → W p l e (headSpec (Cond.code yX12_timesOf cX12_timesOf 5 (some .int) :: TB) (rmN 0)).room s m ([.ref (ad 0), .int (nI n)] : List Value).toArray below meth c H locs 0 0 (MQ below (va_Qi (S := Unit) (fun r _ => repP (rdF (en 12)) n r) (fun _ _ => True) (Nf sz)) ([.ref (ad 0), .int (nI n)] : List Value).toArray s 0 0 (Nf sz)) (F0 m 22 ls []) := by
            intro fu
            induction fu with
            | zero => intro j1252 lk1252 ls H locs h0 h1 h2; exact absurd h2 (by omega)
            | succ fu ih_1252 =>
              intro j1252 lk1252 ls H locs hj0_1252 hj_1252 hfu_1252 i0_1252 hl hh
              refine lv_iload hx hb dX12_timesOf_22 (lv_at hl 0 rfl) ?_
              refine lv_iload_n hx hb dX12_timesOf_24 rfl (lv_at hl 4 rfl) ?_
              refine lv_icmp_ge (tgt := 63) hx hb dX12_timesOf_25 (by decide) (fun c_1253 => ?_) (fun c_1253 => ?_)
              · have n_1253 : n ≤ j1252 := n_le (a := n) (b := j1252) c_1253 (by omega) (by omega)
                refine lv_iload_n hx hb dX12_timesOf_63 rfl (lv_at hl 1 rfl) ?_
                refine lv_if_eq (tgt := 71) hx hb dX12_timesOf_64 (by decide) (fun c_1254 => ?_) (fun c_1254 => ?_)
                · refine lv_iinc (v := (nI (j1248 + 1))) (lv' := [(2, .int (nI (j1248 + 1))), (4, .int (nI j1252)), (3, .int lk1252), (0, .ref (ad 0)), (1, .int (nI n))]) hx hb dX12_timesOf_71 hl (k := 2) rfl (nI_1 _) (by decide) rfl (fun ls hl => ?_)
                  refine lv_goto (tgt := 2) hx hb dX12_timesOf_74 (by decide) ?_
                  exact ih_1248 ((j1248 + 1))  ls H locs (by omega) (by omega) (by omega) (fun y h1 h2 q => (Nat.lt_or_ge y j1248).elim (fun h => i0_1248 y h1 h q) (fun h => by have e : y = j1248 := (by omega); rw [e] at q; exact bI_f i0_1252 c_1254 ⟨q.1, fun y h1 h2 => q.2 y h1 (by omega)⟩)) (lv_sub hl [0, 3, 4] rfl) hh
                · refine lv_iload_n hx hb dX12_timesOf_67 rfl (lv_at hl 4 rfl) ?_
                  refine lv_iload_n hx hb dX12_timesOf_68 rfl (lv_at hl 2 rfl) ?_
                  refine lv_idiv hx hb dX12_timesOf_69 (nI_ne0 (by omega) (by omega)) ?_
                  rw [pk_div (a := n) (d := j1248) (by omega) (by omega) (by omega)]
                  have hq_1255 : (n / j1248) ≤ n := Nat.div_le_self _ _
                  exact hp_iretR hx hb hr rfl hlocks hsz hh (by rw [hak]; exact Or.inl ⟨j1248, by omega, by omega, (bI_t i0_1252 c_1254).1, fun y h1 h2 => (bI_t i0_1252 c_1254).2 y h1 (by omega), rfl, i0_1248⟩) dX12_timesOf_70
              · have n_1253 : j1252 < n := n_nle (a := n) (b := j1252) c_1253 (by omega) (by omega)
                refine lv_iload_n hx hb dX12_timesOf_28 rfl (lv_at hl 1 rfl) ?_
                refine lv_if_eq (tgt := 63) hx hb dX12_timesOf_29 (by decide) (fun c_1256 => ?_) (fun c_1256 => ?_)
                · refine lv_iload_n hx hb dX12_timesOf_63 rfl (lv_at hl 1 rfl) ?_
                  refine lv_if_eq (tgt := 71) hx hb dX12_timesOf_64 (by decide) (fun c_1257 => ?_) (fun c_1257 => ?_)
                  · refine lv_iinc (v := (nI (j1248 + 1))) (lv' := [(2, .int (nI (j1248 + 1))), (4, .int (nI j1252)), (3, .int lk1252), (0, .ref (ad 0)), (1, .int (nI n))]) hx hb dX12_timesOf_71 hl (k := 2) rfl (nI_1 _) (by decide) rfl (fun ls hl => ?_)
                    refine lv_goto (tgt := 2) hx hb dX12_timesOf_74 (by decide) ?_
                    exact ih_1248 ((j1248 + 1))  ls H locs (by omega) (by omega) (by omega) (fun y h1 h2 q => (Nat.lt_or_ge y j1248).elim (fun h => i0_1248 y h1 h q) (fun h => by have e : y = j1248 := (by omega); rw [e] at q; exact bI_f i0_1252 c_1257 ⟨q.1, fun y h1 h2 => q.2 y h1 (by omega)⟩)) (lv_sub hl [0, 3, 4] rfl) hh
                  · refine lv_iload_n hx hb dX12_timesOf_67 rfl (lv_at hl 4 rfl) ?_
                    refine lv_iload_n hx hb dX12_timesOf_68 rfl (lv_at hl 2 rfl) ?_
                    refine lv_idiv hx hb dX12_timesOf_69 (nI_ne0 (by omega) (by omega)) ?_
                    rw [pk_div (a := n) (d := j1248) (by omega) (by omega) (by omega)]
                    have hq_1258 : (n / j1248) ≤ n := Nat.div_le_self _ _
                    exact hp_iretR hx hb hr rfl hlocks hsz hh (absurd c_1256 c_1257) dX12_timesOf_70
                · refine lv_aload_n hx hb dX12_timesOf_32 rfl (lv_at hl 3 rfl) ?_
                  refine hp_get hx hb hts ix12 hown hK hh (q := 0) rfl (hI.1 _ (by decide)) es1246 rfl 21 (by decide) (hts _ tw_900) (fun _ h9 => h9) rfl dX12_timesOf_33 ?_
                  refine lv_iload hx hb dX12_timesOf_36 (lv_at hl 0 rfl) ?_
                  refine hp_iald hx hb hK hh (q := 12) rfl (hI.1 _ (by decide)) es1247 (vp_in_nI (n := j1252) (by omega) (by decide)) dX12_timesOf_38 ?_
                  rw [nI_clamp (n := j1252) (by omega)]
                  obtain ⟨v_1259, hv_1259, hfv_1259⟩ := p0_1247 j1252 (by omega)
                  rw [hfv_1259]
                  refine lv_aload_n hx hb dX12_timesOf_39 rfl (lv_at hl 3 rfl) ?_
                  refine hp_get hx hb hts ix12 hown hK hh (q := 0) rfl (hI.1 _ (by decide)) es1246 rfl 21 (by decide) (hts _ tw_900) (fun _ h9 => h9) rfl dX12_timesOf_40 ?_
                  refine lv_iload hx hb dX12_timesOf_43 (lv_at hl 0 rfl) ?_
                  refine lv_iload_n hx hb dX12_timesOf_45 rfl (lv_at hl 2 rfl) ?_
                  refine lv_isub hx hb dX12_timesOf_46 ?_
                  rw [pk_sub (a := j1252) (b := j1248) (by omega)]
                  refine hp_iald hx hb hK hh (q := 12) rfl (hI.1 _ (by decide)) es1247 (vp_in_nI (n := (j1252 - j1248)) (by omega) (by decide)) dX12_timesOf_47 ?_
                  rw [nI_clamp (n := (j1252 - j1248)) (by omega)]
                  obtain ⟨v_1260, hv_1260, hfv_1260⟩ := p0_1247 (j1252 - j1248) (by omega)
                  rw [hfv_1260]
                  refine lv_icmp_ne (tgt := 55) hx hb dX12_timesOf_48 (by decide) (fun c_1261 => ?_) (fun c_1261 => ?_)
                  · have n_1261 : v_1259 ≠ v_1260 := n_neq (a := v_1259) (b := v_1260) c_1261 (by omega) (by omega)
                    refine lv_iconst (v := 0) hx hb dX12_timesOf_55 (by decide) ?_
                    refine lv_istore_n (lv' := [(3, .int 0), (4, .int (nI j1252)), (2, .int (nI j1248)), (0, .ref (ad 0)), (1, .int (nI n))]) hx hb dX12_timesOf_56 rfl hl (by decide) rfl (fun ls hl => ?_)
                    refine lv_iinc (v := (nI (j1252 + 1))) (lv' := [(4, .int (nI (j1252 + 1))), (3, .int 0), (2, .int (nI j1248)), (0, .ref (ad 0)), (1, .int (nI n))]) hx hb dX12_timesOf_57 hl (k := 1) rfl (nI_1 _) (by decide) rfl (fun ls hl => ?_)
                    refine lv_goto (tgt := 22) hx hb dX12_timesOf_60 (by decide) ?_
                    exact ih_1252 ((j1252 + 1)) 0 ls H locs (by omega) (by omega) (by omega) (Or.inr ⟨rfl, fun q => n_1261 (n_eq (hfv_1259.symm.trans ((q.2 j1252 (by omega) (by omega)).trans hfv_1260)) (by omega) (by omega))⟩) (lv_sub hl [0, 1, 2, 3, 4] rfl) hh
                  · have n_1261 : v_1259 = v_1260 := n_eq (a := v_1259) (b := v_1260) c_1261 (by omega) (by omega)
                    refine lv_iconst (v := 1) hx hb dX12_timesOf_51 (by decide) ?_
                    refine lv_goto (tgt := 56) hx hb dX12_timesOf_52 (by decide) ?_
                    refine lv_istore_n (lv' := [(3, .int 1), (4, .int (nI j1252)), (2, .int (nI j1248)), (0, .ref (ad 0)), (1, .int (nI n))]) hx hb dX12_timesOf_56 rfl hl (by decide) rfl (fun ls hl => ?_)
                    refine lv_iinc (v := (nI (j1252 + 1))) (lv' := [(4, .int (nI (j1252 + 1))), (3, .int 1), (2, .int (nI j1248)), (0, .ref (ad 0)), (1, .int (nI n))]) hx hb dX12_timesOf_57 hl (k := 1) rfl (nI_1 _) (by decide) rfl (fun ls hl => ?_)
                    refine lv_goto (tgt := 22) hx hb dX12_timesOf_60 (by decide) ?_
                    exact ih_1252 ((j1252 + 1)) 1 ls H locs (by omega) (by omega) (by omega) (Or.inl ⟨rfl, (bI_t i0_1252 c_1256).1, fun y h1 h2 => (Nat.lt_or_ge y j1252).elim (fun h => (bI_t i0_1252 c_1256).2 y h1 h) (fun h => by have e : y = j1252 := (by omega); rw [e, hfv_1259, hfv_1260, n_1261])⟩) (lv_sub hl [0, 1, 2, 3, 4] rfl) hh
          exact loop_1252 (n + 1) j1248 0 ls _ _ (Nat.le_refl _) (by omega) (by omega) (Or.inr ⟨rfl, fun q => n_1251 q.1⟩) (lv_sub hl [0, 1, 2, 3, 4] rfl) hh
        · have n_1251 : (n % j1248) = 0 := n_eq (a := (n % j1248)) (b := 0) c_1251 (by omega) (by decide)
          refine lv_iconst (v := 1) hx hb dX12_timesOf_13 (by decide) ?_
          refine lv_goto (tgt := 18) hx hb dX12_timesOf_14 (by decide) ?_
          refine lv_istore_n (lv' := [(3, .int 1), (2, .int (nI j1248)), (0, .ref (ad 0)), (1, .int (nI n))]) hx hb dX12_timesOf_18 rfl hl (by decide) rfl (fun ls hl => ?_)
          refine lv_iload_n hx hb dX12_timesOf_19 rfl (lv_at hl 1 rfl) ?_
          refine lv_istore (lv' := [(4, .int (nI j1248)), (3, .int 1), (2, .int (nI j1248)), (0, .ref (ad 0)), (1, .int (nI n))]) hx hb dX12_timesOf_20 hl (by decide) rfl (fun ls hl => ?_)
          have loop_1262 : ∀ (fu j1262 : Nat) (lk1262 : Int32)  (ls : Array Slot) (H : Heap) (locs : List Loc), j1248 ≤ j1262 → j1262 ≤ n → n < j1262 + fu →  (bI lk1262 (n % j1248 = 0 ∧ ∀ y, j1248 ≤ y → y < j1262 → f_1247 y = f_1247 (y - j1248))) → lv_has ls 5 [(4, .int (nI j1262)), (3, .int lk1262), (2, .int (nI j1248)), (0, .ref (ad 0)), (1, .int (nI n))] → Hp D (Nf sz) (fun _ => True) s.heap H locs cs ad en → W p l e (headSpec (Cond.code yX12_timesOf cX12_timesOf 5 (some .int) :: TB) (rmN 0)).room s m ([.ref (ad 0), .int (nI n)] : List Value).toArray below meth c H locs 0 0 (MQ below (va_Qi (S := Unit) (fun r _ => repP (rdF (en 12)) n r) (fun _ _ => True) (Nf sz)) ([.ref (ad 0), .int (nI n)] : List Value).toArray s 0 0 (Nf sz)) (F0 m 22 ls []) := by
            intro fu
            induction fu with
            | zero => intro j1262 lk1262 ls H locs h0 h1 h2; exact absurd h2 (by omega)
            | succ fu ih_1262 =>
              intro j1262 lk1262 ls H locs hj0_1262 hj_1262 hfu_1262 i0_1262 hl hh
              refine lv_iload hx hb dX12_timesOf_22 (lv_at hl 0 rfl) ?_
              refine lv_iload_n hx hb dX12_timesOf_24 rfl (lv_at hl 4 rfl) ?_
              refine lv_icmp_ge (tgt := 63) hx hb dX12_timesOf_25 (by decide) (fun c_1263 => ?_) (fun c_1263 => ?_)
              · have n_1263 : n ≤ j1262 := n_le (a := n) (b := j1262) c_1263 (by omega) (by omega)
                refine lv_iload_n hx hb dX12_timesOf_63 rfl (lv_at hl 1 rfl) ?_
                refine lv_if_eq (tgt := 71) hx hb dX12_timesOf_64 (by decide) (fun c_1264 => ?_) (fun c_1264 => ?_)
                · refine lv_iinc (v := (nI (j1248 + 1))) (lv' := [(2, .int (nI (j1248 + 1))), (4, .int (nI j1262)), (3, .int lk1262), (0, .ref (ad 0)), (1, .int (nI n))]) hx hb dX12_timesOf_71 hl (k := 2) rfl (nI_1 _) (by decide) rfl (fun ls hl => ?_)
                  refine lv_goto (tgt := 2) hx hb dX12_timesOf_74 (by decide) ?_
                  exact ih_1248 ((j1248 + 1))  ls H locs (by omega) (by omega) (by omega) (fun y h1 h2 q => (Nat.lt_or_ge y j1248).elim (fun h => i0_1248 y h1 h q) (fun h => by have e : y = j1248 := (by omega); rw [e] at q; exact bI_f i0_1262 c_1264 ⟨q.1, fun y h1 h2 => q.2 y h1 (by omega)⟩)) (lv_sub hl [0, 3, 4] rfl) hh
                · refine lv_iload_n hx hb dX12_timesOf_67 rfl (lv_at hl 4 rfl) ?_
                  refine lv_iload_n hx hb dX12_timesOf_68 rfl (lv_at hl 2 rfl) ?_
                  refine lv_idiv hx hb dX12_timesOf_69 (nI_ne0 (by omega) (by omega)) ?_
                  rw [pk_div (a := n) (d := j1248) (by omega) (by omega) (by omega)]
                  have hq_1265 : (n / j1248) ≤ n := Nat.div_le_self _ _
                  exact hp_iretR hx hb hr rfl hlocks hsz hh (by rw [hak]; exact Or.inl ⟨j1248, by omega, by omega, (bI_t i0_1262 c_1264).1, fun y h1 h2 => (bI_t i0_1262 c_1264).2 y h1 (by omega), rfl, i0_1248⟩) dX12_timesOf_70
              · have n_1263 : j1262 < n := n_nle (a := n) (b := j1262) c_1263 (by omega) (by omega)
                refine lv_iload_n hx hb dX12_timesOf_28 rfl (lv_at hl 1 rfl) ?_
                refine lv_if_eq (tgt := 63) hx hb dX12_timesOf_29 (by decide) (fun c_1266 => ?_) (fun c_1266 => ?_)
                · refine lv_iload_n hx hb dX12_timesOf_63 rfl (lv_at hl 1 rfl) ?_
                  refine lv_if_eq (tgt := 71) hx hb dX12_timesOf_64 (by decide) (fun c_1267 => ?_) (fun c_1267 => ?_)
                  · refine lv_iinc (v := (nI (j1248 + 1))) (lv' := [(2, .int (nI (j1248 + 1))), (4, .int (nI j1262)), (3, .int lk1262), (0, .ref (ad 0)), (1, .int (nI n))]) hx hb dX12_timesOf_71 hl (k := 2) rfl (nI_1 _) (by decide) rfl (fun ls hl => ?_)
                    refine lv_goto (tgt := 2) hx hb dX12_timesOf_74 (by decide) ?_
                    exact ih_1248 ((j1248 + 1))  ls H locs (by omega) (by omega) (by omega) (fun y h1 h2 q => (Nat.lt_or_ge y j1248).elim (fun h => i0_1248 y h1 h q) (fun h => by have e : y = j1248 := (by omega); rw [e] at q; exact bI_f i0_1262 c_1267 ⟨q.1, fun y h1 h2 => q.2 y h1 (by omega)⟩)) (lv_sub hl [0, 3, 4] rfl) hh
                  · refine lv_iload_n hx hb dX12_timesOf_67 rfl (lv_at hl 4 rfl) ?_
                    refine lv_iload_n hx hb dX12_timesOf_68 rfl (lv_at hl 2 rfl) ?_
                    refine lv_idiv hx hb dX12_timesOf_69 (nI_ne0 (by omega) (by omega)) ?_
                    rw [pk_div (a := n) (d := j1248) (by omega) (by omega) (by omega)]
                    have hq_1268 : (n / j1248) ≤ n := Nat.div_le_self _ _
                    exact hp_iretR hx hb hr rfl hlocks hsz hh (absurd c_1266 c_1267) dX12_timesOf_70
                · refine lv_aload_n hx hb dX12_timesOf_32 rfl (lv_at hl 3 rfl) ?_
                  refine hp_get hx hb hts ix12 hown hK hh (q := 0) rfl (hI.1 _ (by decide)) es1246 rfl 21 (by decide) (hts _ tw_900) (fun _ h9 => h9) rfl dX12_timesOf_33 ?_
                  refine lv_iload hx hb dX12_timesOf_36 (lv_at hl 0 rfl) ?_
                  refine hp_iald hx hb hK hh (q := 12) rfl (hI.1 _ (by decide)) es1247 (vp_in_nI (n := j1262) (by omega) (by decide)) dX12_timesOf_38 ?_
                  rw [nI_clamp (n := j1262) (by omega)]
                  obtain ⟨v_1269, hv_1269, hfv_1269⟩ := p0_1247 j1262 (by omega)
                  rw [hfv_1269]
                  refine lv_aload_n hx hb dX12_timesOf_39 rfl (lv_at hl 3 rfl) ?_
                  refine hp_get hx hb hts ix12 hown hK hh (q := 0) rfl (hI.1 _ (by decide)) es1246 rfl 21 (by decide) (hts _ tw_900) (fun _ h9 => h9) rfl dX12_timesOf_40 ?_
                  refine lv_iload hx hb dX12_timesOf_43 (lv_at hl 0 rfl) ?_
                  refine lv_iload_n hx hb dX12_timesOf_45 rfl (lv_at hl 2 rfl) ?_
                  refine lv_isub hx hb dX12_timesOf_46 ?_
                  rw [pk_sub (a := j1262) (b := j1248) (by omega)]
                  refine hp_iald hx hb hK hh (q := 12) rfl (hI.1 _ (by decide)) es1247 (vp_in_nI (n := (j1262 - j1248)) (by omega) (by decide)) dX12_timesOf_47 ?_
                  rw [nI_clamp (n := (j1262 - j1248)) (by omega)]
                  obtain ⟨v_1270, hv_1270, hfv_1270⟩ := p0_1247 (j1262 - j1248) (by omega)
                  rw [hfv_1270]
                  refine lv_icmp_ne (tgt := 55) hx hb dX12_timesOf_48 (by decide) (fun c_1271 => ?_) (fun c_1271 => ?_)
                  · have n_1271 : v_1269 ≠ v_1270 := n_neq (a := v_1269) (b := v_1270) c_1271 (by omega) (by omega)
                    refine lv_iconst (v := 0) hx hb dX12_timesOf_55 (by decide) ?_
                    refine lv_istore_n (lv' := [(3, .int 0), (4, .int (nI j1262)), (2, .int (nI j1248)), (0, .ref (ad 0)), (1, .int (nI n))]) hx hb dX12_timesOf_56 rfl hl (by decide) rfl (fun ls hl => ?_)
                    refine lv_iinc (v := (nI (j1262 + 1))) (lv' := [(4, .int (nI (j1262 + 1))), (3, .int 0), (2, .int (nI j1248)), (0, .ref (ad 0)), (1, .int (nI n))]) hx hb dX12_timesOf_57 hl (k := 1) rfl (nI_1 _) (by decide) rfl (fun ls hl => ?_)
                    refine lv_goto (tgt := 22) hx hb dX12_timesOf_60 (by decide) ?_
                    exact ih_1262 ((j1262 + 1)) 0 ls H locs (by omega) (by omega) (by omega) (Or.inr ⟨rfl, fun q => n_1271 (n_eq (hfv_1269.symm.trans ((q.2 j1262 (by omega) (by omega)).trans hfv_1270)) (by omega) (by omega))⟩) (lv_sub hl [0, 1, 2, 3, 4] rfl) hh
                  · have n_1271 : v_1269 = v_1270 := n_eq (a := v_1269) (b := v_1270) c_1271 (by omega) (by omega)
                    refine lv_iconst (v := 1) hx hb dX12_timesOf_51 (by decide) ?_
                    refine lv_goto (tgt := 56) hx hb dX12_timesOf_52 (by decide) ?_
                    refine lv_istore_n (lv' := [(3, .int 1), (4, .int (nI j1262)), (2, .int (nI j1248)), (0, .ref (ad 0)), (1, .int (nI n))]) hx hb dX12_timesOf_56 rfl hl (by decide) rfl (fun ls hl => ?_)
                    refine lv_iinc (v := (nI (j1262 + 1))) (lv' := [(4, .int (nI (j1262 + 1))), (3, .int 1), (2, .int (nI j1248)), (0, .ref (ad 0)), (1, .int (nI n))]) hx hb dX12_timesOf_57 hl (k := 1) rfl (nI_1 _) (by decide) rfl (fun ls hl => ?_)
                    refine lv_goto (tgt := 22) hx hb dX12_timesOf_60 (by decide) ?_
                    exact ih_1262 ((j1262 + 1)) 1 ls H locs (by omega) (by omega) (by omega) (Or.inl ⟨rfl, (bI_t i0_1262 c_1266).1, fun y h1 h2 => (Nat.lt_or_ge y j1262).elim (fun h => (bI_t i0_1262 c_1266).2 y h1 h) (fun h => by have e : y = j1262 := (by omega); rw [e, hfv_1269, hfv_1270, n_1271])⟩) (lv_sub hl [0, 1, 2, 3, 4] rfl) hh
          exact loop_1262 (n + 1) j1248 1 ls _ _ (Nat.le_refl _) (by omega) (by omega) (Or.inl ⟨rfl, n_1251, fun y h1 h2 => absurd h2 (by omega)⟩) (lv_sub hl [0, 1, 2, 3, 4] rfl) hh
  exact loop_1248 (n + 1) 1  ls _ _ (Nat.le_refl _) (by omega) (by omega) (fun y h1 h2 => absurd h2 (by omega)) (lv_sub hl [0, 1, 2] rfl) hh
theorem kw_X12_timesOf {R : Room} {s : State} {args : Array Value} {own : String} {idx : Nat} (hts : ∀ w ∈ TB, w.before args s = true) (hl : Cond.methodLink own idx yX12_timesOf ∈ TB) (hR : 0 + 1 ≤ R.frames ∧ 8 + (5 + 11) + 40 * 0 ≤ R.locals) : CallW R s args own RX12 idx yX12_timesOf cX12_timesOf 5 (some .int) (Cond.code yX12_timesOf cX12_timesOf 5 (some .int) :: TB) (rmN 0) 0 0 1 := cwV 1 hts (TB_V hl tw_1087 ts_47 tw_9 tw_1088) rfl rfl rfl (by decide +kernel) hR
set_option maxHeartbeats 4000000 in
set_option maxRecDepth 100000 in
/-- isFirstTurn -/
theorem c_X12_isFirstTurn (l : Launch) (D : va_G) (cy : Nat → ClassId) (sz : Nat) (cs : List Nat) (ad : Nat → Nat) (en : Nat → va_E) (hI : RX cy cs ad en) (n : Nat) (hn1 : 1 ≤ n) (hn12 : n ≤ 12)   : Met l yX12_isFirstTurn (Cond.code yX12_isFirstTurn cX12_isFirstTurn 4 (some .boolean) :: TB) (rmN 0) (va_Pc [.ref (ad 0), .int (nI n)] (Pre D cy cs ad en sz)) (va_Qi (S := Unit) (fun r _ => bI r (ftP (rdF (en 12)) n)) (fun _ _ => True) (Nf sz)) 0 0 (Nf sz) := by
  refine Met.ofW (cc := cX12_isFirstTurn) (maxL := 4) (ret := (some .boolean)) (by decide) rfl ?_
  intro p e s m args below meth c s₁ B hml hv
  obtain ⟨rfl, hsz, hP, hK, hD0⟩ := hv
  have hx := B.exec
  have hb := B.bytes
  have hr := B.returns
  have hts : ∀ w ∈ TB, w.before _ s = true := fun w h => atoms_spec (ws := _ :: TB) B.pre w (List.mem_cons_of_mem _ h)
  have hown : s.vm.findClass RX12 = some m.cls := findClass_of_methodNamed B.named
  have hlocks := B.notSynchronized
  have hh : Hp D (Nf sz) (fun _ => True) s.heap s.heap [] cs ad en := ⟨hP, hD0, va_S.rf⟩
  have hA : ∀ q : Nat, s.heap.size ≤ q → Nf sz q := fun q h => by rw [hsz] at h; exact h
  have hl := lv_entry ([.ref (ad 0), .int (nI n)]) (n := 4) (Nat.le_of_ble_eq_true rfl)
  rw [lg_entry_eq]
  generalize (lg_sl ([.ref (ad 0), .int (nI n)]) ++ List.replicate (4 - (lg_sl ([.ref (ad 0), .int (nI n)])).length) Slot.unset).toArray = ls at hl ⊢
  have hl : lv_has ls 4 [(0, .ref (ad 0)), (1, .int (nI n))] := hl
  obtain ⟨fa, hi, wd, mo, tb, dp, many, grt, lst, nou, rm, rb, pr, wo, es1272, hwd2, hwd3, hmo, htb, hwo⟩ := getr_M hI
  obtain ⟨f_1273, es1273, p0_1273⟩ := getr_ak hI
  refine lv_iconst (v := 1) hx hb dX12_isFirstTurn_0 (by decide) ?_
  refine lv_istore_n (lv' := [(2, .int 1), (0, .ref (ad 0)), (1, .int (nI n))]) hx hb dX12_isFirstTurn_1 rfl hl (by decide) rfl (fun ls hl => ?_)
  have hak : rdF (en 12) = f_1273 := by rw [es1273]; rfl
  have loop_1274 : ∀ (fu j1274 : Nat)   (ls : Array Slot) (H : Heap) (locs : List Loc), 1 ≤ j1274 → j1274 ≤ n → n < j1274 + fu →  (∀ m, 1 ≤ m → m < j1274 → ¬ baP f_1273 n m) → lv_has ls 4 [(2, .int (nI j1274)), (0, .ref (ad 0)), (1, .int (nI n))] → Hp D (Nf sz) (fun _ => True) s.heap H locs cs ad en → W p l e (headSpec (Cond.code yX12_isFirstTurn cX12_isFirstTurn 4 (some .boolean) :: TB) (rmN 0)).room s m ([.ref (ad 0), .int (nI n)] : List Value).toArray below meth c H locs 0 0 (MQ below (va_Qi (S := Unit) (fun r _ => bI r (ftP (rdF (en 12)) n)) (fun _ _ => True) (Nf sz)) ([.ref (ad 0), .int (nI n)] : List Value).toArray s 0 0 (Nf sz)) (F0 m 2 ls []) := by
    intro fu
    induction fu with
    | zero => intro j1274  ls H locs h0 h1 h2; exact absurd h2 (by omega)
    | succ fu ih_1274 =>
      intro j1274  ls H locs hj0_1274 hj_1274 hfu_1274 i0_1274 hl hh
      refine lv_iload_n hx hb dX12_isFirstTurn_2 rfl (lv_at hl 0 rfl) ?_
      refine lv_iload_n hx hb dX12_isFirstTurn_3 rfl (lv_at hl 2 rfl) ?_
      refine lv_icmp_ge (tgt := 71) hx hb dX12_isFirstTurn_4 (by decide) (fun c_1275 => ?_) (fun c_1275 => ?_)
      · have n_1275 : n ≤ j1274 := n_le (a := n) (b := j1274) c_1275 (by omega) (by omega)
        refine lv_iconst (v := 1) hx hb dX12_isFirstTurn_71 (by decide) ?_
        exact hp_iretR hx hb hr rfl hlocks hsz hh (by rw [hak]; exact Or.inl ⟨rfl, fun m h1 h2 => i0_1274 m h1 (by omega)⟩) dX12_isFirstTurn_72
      · have n_1275 : j1274 < n := n_nle (a := n) (b := j1274) c_1275 (by omega) (by omega)
        refine lv_iconst (v := 0) hx hb dX12_isFirstTurn_7 (by decide) ?_
        refine lv_istore_n (lv' := [(3, .int 0), (2, .int (nI j1274)), (0, .ref (ad 0)), (1, .int (nI n))]) hx hb dX12_isFirstTurn_8 rfl hl (by decide) rfl (fun ls hl => ?_)
        have loop_1276 : ∀ (fu j1276 : Nat)   (ls : Array Slot) (H : Heap) (locs : List Loc), 0 ≤ j1276 → j1276 ≤ n → n < j1276 + fu →  (∀ y, y < j1276 → f_1273 y = f_1273 ((y + j1274) % n)) → lv_has ls 4 [(3, .int (nI j1276)), (2, .int (nI j1274)), (0, .ref (ad 0)), (1, .int (nI n))] → Hp D (Nf sz) (fun _ => True) s.heap H locs cs ad en → W p l e (headSpec (Cond.code yX12_isFirstTurn cX12_isFirstTurn 4 (some .boolean) :: TB) (rmN 0)).room s m ([.ref (ad 0), .int (nI n)] : List Value).toArray below meth c H locs 0 0 (MQ below (va_Qi (S := Unit) (fun r _ => bI r (ftP (rdF (en 12)) n)) (fun _ _ => True) (Nf sz)) ([.ref (ad 0), .int (nI n)] : List Value).toArray s 0 0 (Nf sz)) (F0 m 9 ls []) := by
          intro fu
          induction fu with
          | zero => intro j1276  ls H locs h0 h1 h2; exact absurd h2 (by omega)
          | succ fu ih_1276 =>
            intro j1276  ls H locs hj0_1276 hj_1276 hfu_1276 i0_1276 hl hh
            refine lv_iload_n hx hb dX12_isFirstTurn_9 rfl (lv_at hl 0 rfl) ?_
            refine lv_iload_n hx hb dX12_isFirstTurn_10 rfl (lv_at hl 3 rfl) ?_
            refine lv_icmp_ge (tgt := 39) hx hb dX12_isFirstTurn_11 (by decide) (fun c_1277 => ?_) (fun c_1277 => ?_)
            · have n_1277 : n ≤ j1276 := n_le (a := n) (b := j1276) c_1277 (by omega) (by omega)
              refine lv_iload_n hx hb dX12_isFirstTurn_39 rfl (lv_at hl 0 rfl) ?_
              refine lv_iload_n hx hb dX12_isFirstTurn_40 rfl (lv_at hl 3 rfl) ?_
              refine lv_icmp_ge (tgt := 65) hx hb dX12_isFirstTurn_41 (by decide) (fun c_1278 => ?_) (fun c_1278 => ?_)
              · have n_1278 : n ≤ j1276 := n_le (a := n) (b := j1276) c_1278 (by omega) (by omega)
                refine lv_iinc (v := (nI (j1274 + 1))) (lv' := [(2, .int (nI (j1274 + 1))), (3, .int (nI j1276)), (0, .ref (ad 0)), (1, .int (nI n))]) hx hb dX12_isFirstTurn_65 hl (k := 1) rfl (nI_1 _) (by decide) rfl (fun ls hl => ?_)
                refine lv_goto (tgt := 2) hx hb dX12_isFirstTurn_68 (by decide) ?_
                exact ih_1274 ((j1274 + 1))  ls H locs (by omega) (by omega) (by omega) (fun m h1 h2 q => (Nat.lt_or_ge m j1274).elim (fun h => i0_1274 m h1 h q) (fun h => by have e : m = j1274 := (by omega); rw [e] at q; obtain ⟨i, hi, he, hl⟩ := q; have h9 := i_lt hl; rw [← i0_1276 i (by omega)] at h9; omega)) (lv_sub hl [0, 2, 3] rfl) hh
              · have n_1278 : j1276 < n := n_nle (a := n) (b := j1276) c_1278 (by omega) (by omega)
                refine lv_aload_n hx hb dX12_isFirstTurn_44 rfl (lv_at hl 2 rfl) ?_
                refine hp_get hx hb hts ix12 hown hK hh (q := 0) rfl (hI.1 _ (by decide)) es1272 rfl 21 (by decide) (hts _ tw_900) (fun _ h9 => h9) rfl dX12_isFirstTurn_45 ?_
                refine lv_iload_n hx hb dX12_isFirstTurn_48 rfl (lv_at hl 0 rfl) ?_
                refine lv_iload_n hx hb dX12_isFirstTurn_49 rfl (lv_at hl 1 rfl) ?_
                refine lv_iadd hx hb dX12_isFirstTurn_50 ?_
                rw [nI_add j1276 j1274]
                refine lv_iload_n hx hb dX12_isFirstTurn_51 rfl (lv_at hl 3 rfl) ?_
                refine lv_irem hx hb dX12_isFirstTurn_52 (nI_ne0 (by omega) (by omega)) ?_
                rw [pk_rem (a := (j1276 + j1274)) (d := n) (by omega) (by omega) (by omega)]
                have hq_1279 : ((j1276 + j1274) % n) ≤ (j1276 + j1274) := Nat.mod_le _ _
                have hm_1280 : ((j1276 + j1274) % n) < n := Nat.mod_lt _ (by omega)
                refine hp_iald hx hb hK hh (q := 12) rfl (hI.1 _ (by decide)) es1273 (vp_in_nI (n := ((j1276 + j1274) % n)) (by omega) (by decide)) dX12_isFirstTurn_53 ?_
                rw [nI_clamp (n := ((j1276 + j1274) % n)) (by omega)]
                obtain ⟨v_1281, hv_1281, hfv_1281⟩ := p0_1273 ((j1276 + j1274) % n) (by omega)
                rw [hfv_1281]
                refine lv_aload_n hx hb dX12_isFirstTurn_54 rfl (lv_at hl 2 rfl) ?_
                refine hp_get hx hb hts ix12 hown hK hh (q := 0) rfl (hI.1 _ (by decide)) es1272 rfl 21 (by decide) (hts _ tw_900) (fun _ h9 => h9) rfl dX12_isFirstTurn_55 ?_
                refine lv_iload_n hx hb dX12_isFirstTurn_58 rfl (lv_at hl 0 rfl) ?_
                refine hp_iald hx hb hK hh (q := 12) rfl (hI.1 _ (by decide)) es1273 (vp_in_nI (n := j1276) (by omega) (by decide)) dX12_isFirstTurn_59 ?_
                rw [nI_clamp (n := j1276) (by omega)]
                obtain ⟨v_1282, hv_1282, hfv_1282⟩ := p0_1273 j1276 (by omega)
                rw [hfv_1282]
                refine lv_icmp_ge (tgt := 65) hx hb dX12_isFirstTurn_60 (by decide) (fun c_1283 => ?_) (fun c_1283 => ?_)
                · have n_1283 : v_1282 ≤ v_1281 := n_le (a := v_1282) (b := v_1281) c_1283 (by omega) (by omega)
                  refine lv_iinc (v := (nI (j1274 + 1))) (lv' := [(2, .int (nI (j1274 + 1))), (3, .int (nI j1276)), (0, .ref (ad 0)), (1, .int (nI n))]) hx hb dX12_isFirstTurn_65 hl (k := 1) rfl (nI_1 _) (by decide) rfl (fun ls hl => ?_)
                  refine lv_goto (tgt := 2) hx hb dX12_isFirstTurn_68 (by decide) ?_
                  exact ih_1274 ((j1274 + 1))  ls H locs (by omega) (by omega) (by omega) (fun m h1 h2 q => (Nat.lt_or_ge m j1274).elim (fun h => i0_1274 m h1 h q) (fun h => by have e : m = j1274 := (by omega); rw [e] at q; omega)) (lv_sub hl [0, 2, 3] rfl) hh
                · have n_1283 : v_1281 < v_1282 := n_nle (a := v_1282) (b := v_1281) c_1283 (by omega) (by omega)
                  refine lv_iconst (v := 0) hx hb dX12_isFirstTurn_63 (by decide) ?_
                  exact hp_iretR hx hb hr rfl hlocks hsz hh (absurd (show j1276 < n by omega) (by omega)) dX12_isFirstTurn_64
            · have n_1277 : j1276 < n := n_nle (a := n) (b := j1276) c_1277 (by omega) (by omega)
              refine lv_aload_n hx hb dX12_isFirstTurn_14 rfl (lv_at hl 2 rfl) ?_
              refine hp_get hx hb hts ix12 hown hK hh (q := 0) rfl (hI.1 _ (by decide)) es1272 rfl 21 (by decide) (hts _ tw_900) (fun _ h9 => h9) rfl dX12_isFirstTurn_15 ?_
              refine lv_iload_n hx hb dX12_isFirstTurn_18 rfl (lv_at hl 0 rfl) ?_
              refine lv_iload_n hx hb dX12_isFirstTurn_19 rfl (lv_at hl 1 rfl) ?_
              refine lv_iadd hx hb dX12_isFirstTurn_20 ?_
              rw [nI_add j1276 j1274]
              refine lv_iload_n hx hb dX12_isFirstTurn_21 rfl (lv_at hl 3 rfl) ?_
              refine lv_irem hx hb dX12_isFirstTurn_22 (nI_ne0 (by omega) (by omega)) ?_
              rw [pk_rem (a := (j1276 + j1274)) (d := n) (by omega) (by omega) (by omega)]
              have hq_1284 : ((j1276 + j1274) % n) ≤ (j1276 + j1274) := Nat.mod_le _ _
              have hm_1285 : ((j1276 + j1274) % n) < n := Nat.mod_lt _ (by omega)
              refine hp_iald hx hb hK hh (q := 12) rfl (hI.1 _ (by decide)) es1273 (vp_in_nI (n := ((j1276 + j1274) % n)) (by omega) (by decide)) dX12_isFirstTurn_23 ?_
              rw [nI_clamp (n := ((j1276 + j1274) % n)) (by omega)]
              obtain ⟨v_1286, hv_1286, hfv_1286⟩ := p0_1273 ((j1276 + j1274) % n) (by omega)
              rw [hfv_1286]
              refine lv_aload_n hx hb dX12_isFirstTurn_24 rfl (lv_at hl 2 rfl) ?_
              refine hp_get hx hb hts ix12 hown hK hh (q := 0) rfl (hI.1 _ (by decide)) es1272 rfl 21 (by decide) (hts _ tw_900) (fun _ h9 => h9) rfl dX12_isFirstTurn_25 ?_
              refine lv_iload_n hx hb dX12_isFirstTurn_28 rfl (lv_at hl 0 rfl) ?_
              refine hp_iald hx hb hK hh (q := 12) rfl (hI.1 _ (by decide)) es1273 (vp_in_nI (n := j1276) (by omega) (by decide)) dX12_isFirstTurn_29 ?_
              rw [nI_clamp (n := j1276) (by omega)]
              obtain ⟨v_1287, hv_1287, hfv_1287⟩ := p0_1273 j1276 (by omega)
              rw [hfv_1287]
              refine lv_icmp_ne (tgt := 39) hx hb dX12_isFirstTurn_30 (by decide) (fun c_1288 => ?_) (fun c_1288 => ?_)
              · have n_1288 : v_1286 ≠ v_1287 := n_neq (a := v_1286) (b := v_1287) c_1288 (by omega) (by omega)
                refine lv_iload_n hx hb dX12_isFirstTurn_39 rfl (lv_at hl 0 rfl) ?_
                refine lv_iload_n hx hb dX12_isFirstTurn_40 rfl (lv_at hl 3 rfl) ?_
                refine lv_icmp_ge (tgt := 65) hx hb dX12_isFirstTurn_41 (by decide) (fun c_1289 => ?_) (fun c_1289 => ?_)
                · have n_1289 : n ≤ j1276 := n_le (a := n) (b := j1276) c_1289 (by omega) (by omega)
                  refine lv_iinc (v := (nI (j1274 + 1))) (lv' := [(2, .int (nI (j1274 + 1))), (3, .int (nI j1276)), (0, .ref (ad 0)), (1, .int (nI n))]) hx hb dX12_isFirstTurn_65 hl (k := 1) rfl (nI_1 _) (by decide) rfl (fun ls hl => ?_)
                  refine lv_goto (tgt := 2) hx hb dX12_isFirstTurn_68 (by decide) ?_
                  exact ih_1274 ((j1274 + 1))  ls H locs (by omega) (by omega) (by omega) (fun m h1 h2 q => (Nat.lt_or_ge m j1274).elim (fun h => i0_1274 m h1 h q) (fun h => by have e : m = j1274 := (by omega); rw [e] at q; omega)) (lv_sub hl [0, 2, 3] rfl) hh
                · have n_1289 : j1276 < n := n_nle (a := n) (b := j1276) c_1289 (by omega) (by omega)
                  refine lv_aload_n hx hb dX12_isFirstTurn_44 rfl (lv_at hl 2 rfl) ?_
                  refine hp_get hx hb hts ix12 hown hK hh (q := 0) rfl (hI.1 _ (by decide)) es1272 rfl 21 (by decide) (hts _ tw_900) (fun _ h9 => h9) rfl dX12_isFirstTurn_45 ?_
                  refine lv_iload_n hx hb dX12_isFirstTurn_48 rfl (lv_at hl 0 rfl) ?_
                  refine lv_iload_n hx hb dX12_isFirstTurn_49 rfl (lv_at hl 1 rfl) ?_
                  refine lv_iadd hx hb dX12_isFirstTurn_50 ?_
                  rw [nI_add j1276 j1274]
                  refine lv_iload_n hx hb dX12_isFirstTurn_51 rfl (lv_at hl 3 rfl) ?_
                  refine lv_irem hx hb dX12_isFirstTurn_52 (nI_ne0 (by omega) (by omega)) ?_
                  rw [pk_rem (a := (j1276 + j1274)) (d := n) (by omega) (by omega) (by omega)]
                  have hq_1290 : ((j1276 + j1274) % n) ≤ (j1276 + j1274) := Nat.mod_le _ _
                  have hm_1291 : ((j1276 + j1274) % n) < n := Nat.mod_lt _ (by omega)
                  refine hp_iald hx hb hK hh (q := 12) rfl (hI.1 _ (by decide)) es1273 (vp_in_nI (n := ((j1276 + j1274) % n)) (by omega) (by decide)) dX12_isFirstTurn_53 ?_
                  rw [nI_clamp (n := ((j1276 + j1274) % n)) (by omega)]
                  rw [hfv_1286]
                  refine lv_aload_n hx hb dX12_isFirstTurn_54 rfl (lv_at hl 2 rfl) ?_
                  refine hp_get hx hb hts ix12 hown hK hh (q := 0) rfl (hI.1 _ (by decide)) es1272 rfl 21 (by decide) (hts _ tw_900) (fun _ h9 => h9) rfl dX12_isFirstTurn_55 ?_
                  refine lv_iload_n hx hb dX12_isFirstTurn_58 rfl (lv_at hl 0 rfl) ?_
                  refine hp_iald hx hb hK hh (q := 12) rfl (hI.1 _ (by decide)) es1273 (vp_in_nI (n := j1276) (by omega) (by decide)) dX12_isFirstTurn_59 ?_
                  rw [nI_clamp (n := j1276) (by omega)]
                  rw [hfv_1287]
                  refine lv_icmp_ge (tgt := 65) hx hb dX12_isFirstTurn_60 (by decide) (fun c_1292 => ?_) (fun c_1292 => ?_)
                  · have n_1292 : v_1287 ≤ v_1286 := n_le (a := v_1287) (b := v_1286) c_1292 (by omega) (by omega)
                    refine lv_iinc (v := (nI (j1274 + 1))) (lv' := [(2, .int (nI (j1274 + 1))), (3, .int (nI j1276)), (0, .ref (ad 0)), (1, .int (nI n))]) hx hb dX12_isFirstTurn_65 hl (k := 1) rfl (nI_1 _) (by decide) rfl (fun ls hl => ?_)
                    refine lv_goto (tgt := 2) hx hb dX12_isFirstTurn_68 (by decide) ?_
                    exact ih_1274 ((j1274 + 1))  ls H locs (by omega) (by omega) (by omega) (fun m h1 h2 q => (Nat.lt_or_ge m j1274).elim (fun h => i0_1274 m h1 h q) (fun h => by have e : m = j1274 := (by omega); rw [e] at q; obtain ⟨i, hi, he, hl⟩ := q; have h9 := i_lt hl; rcases Nat.lt_trichotomy i j1276 with h | h | h; (rw [← i0_1276 i h] at h9; omega); (rw [h, hfv_1286, hfv_1287, nI_toInt (n := v_1286) (by omega), nI_toInt (n := v_1287) (by omega)] at h9; omega); (have h8 := he j1276 h; rw [hfv_1286, hfv_1287] at h8; exact n_1288 (n_eq h8 (by omega) (by omega)).symm))) (lv_sub hl [0, 2, 3] rfl) hh
                  · have n_1292 : v_1286 < v_1287 := n_nle (a := v_1287) (b := v_1286) c_1292 (by omega) (by omega)
                    refine lv_iconst (v := 0) hx hb dX12_isFirstTurn_63 (by decide) ?_
                    exact hp_iretR hx hb hr rfl hlocks hsz hh (by rw [hak]; exact Or.inr ⟨rfl, fun q => q j1274 (by omega) (by omega) ⟨j1276, by omega, i0_1276, by rw [hfv_1286, hfv_1287]; exact nI_lt9 n_1292 (by omega)⟩⟩) dX12_isFirstTurn_64
              · have n_1288 : v_1286 = v_1287 := n_eq (a := v_1286) (b := v_1287) c_1288 (by omega) (by omega)
                refine lv_iinc (v := (nI (j1276 + 1))) (lv' := [(3, .int (nI (j1276 + 1))), (2, .int (nI j1274)), (0, .ref (ad 0)), (1, .int (nI n))]) hx hb dX12_isFirstTurn_33 hl (k := 0) rfl (nI_1 _) (by decide) rfl (fun ls hl => ?_)
                refine lv_goto (tgt := 9) hx hb dX12_isFirstTurn_36 (by decide) ?_
                exact ih_1276 ((j1276 + 1))  ls H locs (by omega) (by omega) (by omega) (fun y h2 => (Nat.lt_or_ge y j1276).elim (fun h => i0_1276 y h) (fun h => by have e : y = j1276 := (by omega); rw [e, hfv_1287, hfv_1286, n_1288])) (lv_sub hl [0, 1, 2, 3] rfl) hh
        exact loop_1276 (n + 1) 0  ls _ _ (Nat.le_refl _) (by omega) (by omega) (fun y h => absurd h (Nat.not_lt_zero y)) (lv_sub hl [0, 1, 2, 3] rfl) hh
  exact loop_1274 (n + 1) 1  ls _ _ (Nat.le_refl _) (by omega) (by omega) (fun m h1 h2 => absurd h2 (by omega)) (lv_sub hl [0, 1, 2] rfl) hh
theorem kw_X12_isFirstTurn {R : Room} {s : State} {args : Array Value} {own : String} {idx : Nat} (hts : ∀ w ∈ TB, w.before args s = true) (hl : Cond.methodLink own idx yX12_isFirstTurn ∈ TB) (hR : 0 + 1 ≤ R.frames ∧ 8 + (4 + 11) + 40 * 0 ≤ R.locals) : CallW R s args own RX12 idx yX12_isFirstTurn cX12_isFirstTurn 4 (some .boolean) (Cond.code yX12_isFirstTurn cX12_isFirstTurn 4 (some .boolean) :: TB) (rmN 0) 0 0 1 := cwV 1 hts (TB_V hl tw_1091 ts_48 tw_9 tw_1092) rfl rfl rfl (by decide +kernel) hR
set_option maxHeartbeats 4000000 in
set_option maxRecDepth 100000 in
/-- isRing -/
theorem c_X12_isRing (l : Launch) (D : va_G) (cy : Nat → ClassId) (sz : Nat) (cs : List Nat) (ad : Nat → Nat) (en : Nat → va_E) (hI : RX cy cs ad en) (n : Nat) (hn1 : 1 ≤ n) (hn12 : n ≤ 12)   : Met l yX12_isRing (Cond.code yX12_isRing cX12_isRing 2 (some .boolean) :: TB) (rmN 2) (va_Pc [.ref (ad 0), .int (nI n)] (Pre D cy cs ad en sz)) (va_Qi (S := Unit) (fun r _ => bI r (rgM (rdF (en 2)) (rdF (en 12)) n)) (fun _ _ => True) (Nf sz)) 0 0 (Nf sz) := by
  refine Met.ofW (cc := cX12_isRing) (maxL := 2) (ret := (some .boolean)) (by decide) rfl ?_
  intro p e s m args below meth c s₁ B hml hv
  obtain ⟨rfl, hsz, hP, hK, hD0⟩ := hv
  have hx := B.exec
  have hb := B.bytes
  have hr := B.returns
  have hts : ∀ w ∈ TB, w.before _ s = true := fun w h => atoms_spec (ws := _ :: TB) B.pre w (List.mem_cons_of_mem _ h)
  have hown : s.vm.findClass RX12 = some m.cls := findClass_of_methodNamed B.named
  have hlocks := B.notSynchronized
  have hh : Hp D (Nf sz) (fun _ => True) s.heap s.heap [] cs ad en := ⟨hP, hD0, va_S.rf⟩
  have hA : ∀ q : Nat, s.heap.size ≤ q → Nf sz q := fun q h => by rw [hsz] at h; exact h
  have hl := lv_entry ([.ref (ad 0), .int (nI n)]) (n := 2) (Nat.le_of_ble_eq_true rfl)
  rw [lg_entry_eq]
  generalize (lg_sl ([.ref (ad 0), .int (nI n)]) ++ List.replicate (2 - (lg_sl ([.ref (ad 0), .int (nI n)])).length) Slot.unset).toArray = ls at hl ⊢
  have hl : lv_has ls 2 [(0, .ref (ad 0)), (1, .int (nI n))] := hl
  obtain ⟨fa, hi, wd, mo, tb, dp, many, grt, lst, nou, rm, rb, pr, wo, es1293, hwd2, hwd3, hmo, htb, hwo⟩ := getr_M hI
  obtain ⟨f_1294, es1294, p0_1294⟩ := getr_ak hI
  refine lv_aload_n hx hb dX12_isRing_0 rfl (lv_at hl 0 rfl) ?_
  refine lv_iload_n hx hb dX12_isRing_1 rfl (lv_at hl 1 rfl) ?_
  refine hp_callRi (va_runV (As := [.int (nI n)]) (rest := []) ⟨hx, hb, hml, hown, hts⟩ (c_X12_isAllowed l D cy _ cs ad en hI n (by omega) (by omega)) (kw_X12_isAllowed hts tw_1081 ⟨by decide, by decide⟩) (preV_of hh hK (hI.1 _ (by decide)) es1293 rfl) rfl rfl hl.1 rfl (lv_room (Nat.le_of_ble_eq_true rfl)) dX12_isRing_2 ⟨Nat.le_of_ble_eq_true rfl, Nat.le_of_ble_eq_true rfl⟩) hh hA (fun r_1295 H locs hw_1295 hh => ?_)
  rcases hw_1295 with ⟨hb_1295, hy_1295⟩ | ⟨hb_1295, hy_1295⟩
  · obtain rfl : r_1295 = 1 := hb_1295
    refine lv_if_eq (tgt := 50) hx hb dX12_isRing_5 (by decide) (fun c_0 => absurd c_0 (by decide)) (fun _ => ?_)
    refine lv_aload_n hx hb dX12_isRing_8 rfl (lv_at hl 0 rfl) ?_
    refine lv_aload_n hx hb dX12_isRing_9 rfl (lv_at hl 0 rfl) ?_
    refine hp_get hx hb hts ix12 hown hK hh (q := 0) rfl (hI.1 _ (by decide)) es1293 rfl 21 (by decide) (hts _ tw_900) (fun _ h9 => h9) rfl dX12_isRing_10 ?_
    refine lv_iload_n hx hb dX12_isRing_13 rfl (lv_at hl 1 rfl) ?_
    refine lv_iconst (v := 1) hx hb dX12_isRing_14 (by decide) ?_
    refine lv_isub hx hb dX12_isRing_15 ?_
    rw [show (1 : Int32) = nI 1 from rfl, pk_sub (a := n) (b := 1) (by omega)]
    refine hp_iald hx hb hK hh (q := 12) rfl (hI.1 _ (by decide)) es1294 (vp_in_nI (n := (n - 1)) (by omega) (by decide)) dX12_isRing_16 ?_
    rw [nI_clamp (n := (n - 1)) (by omega)]
    obtain ⟨v_1296, hv_1296, hfv_1296⟩ := p0_1294 (n - 1) (by omega)
    rw [hfv_1296]
    refine lv_aload_n hx hb dX12_isRing_17 rfl (lv_at hl 0 rfl) ?_
    refine hp_get hx hb hts ix12 hown hK hh (q := 0) rfl (hI.1 _ (by decide)) es1293 rfl 21 (by decide) (hts _ tw_900) (fun _ h9 => h9) rfl dX12_isRing_18 ?_
    refine lv_iconst (v := 0) hx hb dX12_isRing_21 (by decide) ?_
    rw [show (0 : Int32) = nI 0 from rfl]
    refine hp_iald hx hb hK hh (q := 12) rfl (hI.1 _ (by decide)) es1294 (vp_in_nI (n := 0) (by decide) (by decide)) dX12_isRing_22 ?_
    rw [nI_clamp (n := 0) (by decide)]
    obtain ⟨v_1297, hv_1297, hfv_1297⟩ := p0_1294 0 (by decide)
    rw [hfv_1297]
    refine hp_callRi (va_runV (As := [.int (nI v_1296), .int (nI v_1297)]) (rest := []) ⟨hx, hb, hml, hown, hts⟩ (c_X12_mayFollow l D cy _ cs ad en hI v_1296 v_1297 (by omega) (by omega)) (kw_X12_mayFollow hts tw_1029 ⟨by decide, by decide⟩) (preV_of hh hK (hI.1 _ (by decide)) es1293 rfl) rfl rfl hl.1 rfl (lv_room (Nat.le_of_ble_eq_true rfl)) dX12_isRing_23 ⟨Nat.le_of_ble_eq_true rfl, Nat.le_of_ble_eq_true rfl⟩) hh hA (fun r_1298 H locs hw_1298 hh => ?_)
    rcases Decidable.em (rdF (en 2) (6 * v_1296 + v_1297) = 0) with hp_1298 | hp_1298
    · obtain rfl : r_1298 = 1 := Eq.trans hw_1298 (if_pos hp_1298)
      refine lv_if_eq (tgt := 50) hx hb dX12_isRing_26 (by decide) (fun c_0 => absurd c_0 (by decide)) (fun _ => ?_)
      refine lv_aload_n hx hb dX12_isRing_29 rfl (lv_at hl 0 rfl) ?_
      refine lv_iload_n hx hb dX12_isRing_30 rfl (lv_at hl 1 rfl) ?_
      refine hp_callRi (va_runV (As := [.int (nI n)]) (rest := []) ⟨hx, hb, hml, hown, hts⟩ (c_X12_timesOf l D cy _ cs ad en hI n (by omega) (by omega)) (kw_X12_timesOf hts tw_1085 ⟨by decide, by decide⟩) (preV_of hh hK (hI.1 _ (by decide)) es1293 rfl) rfl rfl hl.1 rfl (lv_room (Nat.le_of_ble_eq_true rfl)) dX12_isRing_31 ⟨Nat.le_of_ble_eq_true rfl, Nat.le_of_ble_eq_true rfl⟩) hh hA (fun r_1299 H locs hw_1299 hh => ?_)
      refine lv_iconst (v := 1) hx hb dX12_isRing_34 (by decide) ?_
      refine lv_icmp_ne (tgt := 50) hx hb dX12_isRing_35 (by decide) (fun c_1300 => ?_) (fun c_1300 => ?_)
      · refine lv_iconst (v := 0) hx hb dX12_isRing_50 (by decide) ?_
        have htu : tuM (rdF (en 2)) (rdF (en 12)) n ↔ rdF (en 2) (6 * v_1296 + v_1297) = 0 := by unfold tuM; rw [show rdF (en 12) = f_1294 from by rw [es1294]; rfl, hfv_1296, hfv_1297, nI_clamp (n := v_1296) (by omega), nI_clamp (n := v_1297) (by omega)]
        exact hp_iretR hx hb hr rfl hlocks hsz hh (Or.inr ⟨rfl, fun q => c_1300 ((rep_1 hn12 hw_1299).2 q.2.2.1)⟩) dX12_isRing_51
      · refine lv_aload_n hx hb dX12_isRing_38 rfl (lv_at hl 0 rfl) ?_
        refine lv_iload_n hx hb dX12_isRing_39 rfl (lv_at hl 1 rfl) ?_
        refine hp_callRi (va_runV (As := [.int (nI n)]) (rest := []) ⟨hx, hb, hml, hown, hts⟩ (c_X12_isFirstTurn l D cy _ cs ad en hI n (by omega) (by omega)) (kw_X12_isFirstTurn hts tw_1089 ⟨by decide, by decide⟩) (preV_of hh hK (hI.1 _ (by decide)) es1293 rfl) rfl rfl hl.1 rfl (lv_room (Nat.le_of_ble_eq_true rfl)) dX12_isRing_40 ⟨Nat.le_of_ble_eq_true rfl, Nat.le_of_ble_eq_true rfl⟩) hh hA (fun r_1301 H locs hw_1301 hh => ?_)
        rcases hw_1301 with ⟨hb_1301, hy_1301⟩ | ⟨hb_1301, hy_1301⟩
        · obtain rfl : r_1301 = 1 := hb_1301
          refine lv_if_eq (tgt := 50) hx hb dX12_isRing_43 (by decide) (fun c_0 => absurd c_0 (by decide)) (fun _ => ?_)
          refine lv_iconst (v := 1) hx hb dX12_isRing_46 (by decide) ?_
          refine lv_goto (tgt := 51) hx hb dX12_isRing_47 (by decide) ?_
          have htu : tuM (rdF (en 2)) (rdF (en 12)) n ↔ rdF (en 2) (6 * v_1296 + v_1297) = 0 := by unfold tuM; rw [show rdF (en 12) = f_1294 from by rw [es1294]; rfl, hfv_1296, hfv_1297, nI_clamp (n := v_1296) (by omega), nI_clamp (n := v_1297) (by omega)]
          exact hp_iretR hx hb hr rfl hlocks hsz hh (Or.inl ⟨rfl, hy_1295, htu.mpr hp_1298, (rep_1 hn12 hw_1299).1 c_1300, hy_1301⟩) dX12_isRing_51
        · obtain rfl : r_1301 = 0 := hb_1301
          refine lv_if_eq (tgt := 50) hx hb dX12_isRing_43 (by decide) (fun _ => ?_) (fun c_0 => absurd c_0 (by decide))
          refine lv_iconst (v := 0) hx hb dX12_isRing_50 (by decide) ?_
          have htu : tuM (rdF (en 2)) (rdF (en 12)) n ↔ rdF (en 2) (6 * v_1296 + v_1297) = 0 := by unfold tuM; rw [show rdF (en 12) = f_1294 from by rw [es1294]; rfl, hfv_1296, hfv_1297, nI_clamp (n := v_1296) (by omega), nI_clamp (n := v_1297) (by omega)]
          exact hp_iretR hx hb hr rfl hlocks hsz hh (Or.inr ⟨rfl, fun q => hy_1301 q.2.2.2⟩) dX12_isRing_51
    · obtain rfl : r_1298 = 0 := Eq.trans hw_1298 (if_neg hp_1298)
      refine lv_if_eq (tgt := 50) hx hb dX12_isRing_26 (by decide) (fun _ => ?_) (fun c_0 => absurd c_0 (by decide))
      refine lv_iconst (v := 0) hx hb dX12_isRing_50 (by decide) ?_
      have htu : tuM (rdF (en 2)) (rdF (en 12)) n ↔ rdF (en 2) (6 * v_1296 + v_1297) = 0 := by unfold tuM; rw [show rdF (en 12) = f_1294 from by rw [es1294]; rfl, hfv_1296, hfv_1297, nI_clamp (n := v_1296) (by omega), nI_clamp (n := v_1297) (by omega)]
      exact hp_iretR hx hb hr rfl hlocks hsz hh (Or.inr ⟨rfl, fun q => hp_1298 (htu.mp q.2.1)⟩) dX12_isRing_51
  · obtain rfl : r_1295 = 0 := hb_1295
    refine lv_if_eq (tgt := 50) hx hb dX12_isRing_5 (by decide) (fun _ => ?_) (fun c_0 => absurd c_0 (by decide))
    refine lv_iconst (v := 0) hx hb dX12_isRing_50 (by decide) ?_
    exact hp_iretR hx hb hr rfl hlocks hsz hh (Or.inr ⟨rfl, fun q => hy_1295 q.1⟩) dX12_isRing_51
theorem kw_X12_isRing {R : Room} {s : State} {args : Array Value} {own : String} {idx : Nat} (hts : ∀ w ∈ TB, w.before args s = true) (hl : Cond.methodLink own idx yX12_isRing ∈ TB) (hR : 2 + 1 ≤ R.frames ∧ 8 + (2 + 11) + 40 * 2 ≤ R.locals) : CallW R s args own RX12 idx yX12_isRing cX12_isRing 2 (some .boolean) (Cond.code yX12_isRing cX12_isRing 2 (some .boolean) :: TB) (rmN 2) 0 0 1 := cwV 1 hts (TB_V hl tw_1079 ts_45 tw_9 tw_1080) rfl rfl rfl (by decide +kernel) hR
