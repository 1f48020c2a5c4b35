set_option maxHeartbeats 4000000 in
set_option maxRecDepth 100000 in
/-- sheet -/
theorem c_X12_sheet (l : Launch) (D : va_G) (cy : Nat → ClassId) (sz : Nat) (cs : List Nat) (ad : Nat → Nat) (en : Nat → va_E) (hI : RX cy cs ad en) (k9 la9 n9 : Int32)   : Met l yX12_sheet (Cond.code yX12_sheet cX12_sheet 5 (some .int) :: TB) (rmN 1) (va_Pc [.ref (ad 0), .int k9, .int la9, .int n9] (Pre D cy cs ad en sz)) (va_Qi (S := Nat → va_E) (fun r en1 => RX cy cs ad en1 ∧ (∀ c, (c ≠ 0 ∧ c ≠ 3 ∧ c ≠ 4 ∧ c ≠ 5) → en1 c = en c) ∧ RSH k9 la9 n9 r en en1 ∧ KP en en1) (PostM D cs ad) (Af cs ad sz)) 0 0 (Af cs ad sz) := by
  refine Met.ofW (cc := cX12_sheet) (maxL := 5) (ret := (some .int)) (by decide) rfl ?_
  intro p e s m args below meth c s₁ B hml hv
  obtain ⟨rfl, hsz, hP, hK, hD0⟩ := hv
  have hx := B.exec
  have hb := B.bytes
  have hr := B.returns
  have hts : ∀ w ∈ TB, w.before _ s = true := fun w h => atoms_spec (ws := _ :: TB) B.pre w (List.mem_cons_of_mem _ h)
  have hown : s.vm.findClass RX12 = some m.cls := findClass_of_methodNamed B.named
  have hlocks := B.notSynchronized
  have hh : Hp D (Af cs ad sz) (Af cs ad sz) s.heap s.heap [] cs ad en := ⟨hP, Af_self hD0, va_S.rf⟩
  have hA : ∀ q : Nat, s.heap.size ≤ q → Af cs ad sz q := fun q h => Or.inr (by rw [hsz] at h; exact h)
  have hl := lv_entry ([.ref (ad 0), .int k9, .int la9, .int n9]) (n := 5) (Nat.le_of_ble_eq_true rfl)
  rw [lg_entry_eq]
  generalize (lg_sl ([.ref (ad 0), .int k9, .int la9, .int n9]) ++ List.replicate (5 - (lg_sl ([.ref (ad 0), .int k9, .int la9, .int n9])).length) Slot.unset).toArray = ls at hl ⊢
  have hl : lv_has ls 5 [(0, .ref (ad 0)), (1, .int k9), (2, .int la9), (3, .int n9)] := hl
  have hf0 : ∀ c, (c ≠ 0 ∧ c ≠ 3 ∧ c ≠ 4 ∧ c ≠ 5) → en c = en c := fun _ _ => rfl
  obtain ⟨fa, hi, wd, mo, tb, dp, many, grt, lst, nou, rm, rb, pr, wo, es1112, hwd2, hwd3, hmo, htb, hwo⟩ := getr_M hI
  obtain ⟨f_1113, es1113⟩ := getr_la hI
  obtain ⟨f_1114, es1114, p0_1114⟩ := getr_sl hI
  obtain ⟨f_1115, es1115⟩ := getr_ce hI
  refine lv_aload_n hx hb dX12_sheet_0 rfl (lv_at hl 0 rfl) ?_
  refine lv_iconst (v := 0) hx hb dX12_sheet_1 (by decide) ?_
  refine hp_put hx hb hts ix12 tyX12 tyX12_ok nmX12 hown hK hh (q := 0) rfl (hI.1 _ (by decide)) es1112 rfl 0 (by decide) (hts _ tw_879) (fun _ h9 => h9) rfl (ty := .int) (by decide +kernel) rfl rfl (Nat.le_of_ble_eq_true rfl) dX12_sheet_2 (fun H locs en_1116 hen_1116 hh => ?_)
  have es1113_1116 : en_1116 3 = .inl (cy 0, 4, .inl f_1113) := by rw [hen_1116, va_up_ne _ _ (by decide)]; exact es1113
  have es1114_1116 : en_1116 4 = .inl (cy 0, 4, .inl f_1114) := by rw [hen_1116, va_up_ne _ _ (by decide)]; exact es1114
  have es1115_1116 : en_1116 5 = .inl (cy 0, 160, .inl f_1115) := by rw [hen_1116, va_up_ne _ _ (by decide)]; exact es1115
  have es1112_1116 : en_1116 0 = .inr (11, [.int 0, .int hi, .int (nI wd), .int (nI mo), .int (nI tb), .ref (ad 1), .ref (ad 2), .ref (ad 3), .ref (ad 4), .ref (ad 5), .ref (ad 6), .ref (ad 7), .ref (ad 8), .ref (ad 9), .int dp, .long many, .long grt, .long lst, .long nou, .ref (ad 10), .ref (ad 11), .ref (ad 12), .int rm, .long rb, .ref (ad 13), .int pr, .ref (ad 14), .ref (ad 15), .ref (ad 16), .ref (ad 17), .int (nI wo), .ref (ad 18), .ref (ad 19)]) := by rw [hen_1116]; exact va_up_self _ _ _
  have hI_1116 : RX cy cs ad en_1116 := by rw [hen_1116]; exact upr_M hI ⟨0, hi, wd, mo, tb, dp, many, grt, lst, nou, rm, rb, pr, wo, rfl, hwd2, hwd3, hmo, htb, hwo⟩
  have hf_1116 : ∀ c, (c ≠ 0 ∧ c ≠ 3 ∧ c ≠ 4 ∧ c ≠ 5) → en_1116 c = en c := fun c hc => Eq.trans (show en_1116 c = en c from by rw [hen_1116, va_up_ne _ _ (by omega)]) (hf0 c hc)
  have hkc3_1116 : en_1116 3 = en 3 := (show en_1116 3 = en 3 from by rw [hen_1116, va_up_ne _ _ (by decide)]).trans rfl
  have hkc4_1116 : en_1116 4 = en 4 := (show en_1116 4 = en 4 from by rw [hen_1116, va_up_ne _ _ (by decide)]).trans rfl
  have hkc5_1116 : en_1116 5 = en 5 := (show en_1116 5 = en 5 from by rw [hen_1116, va_up_ne _ _ (by decide)]).trans rfl
  have hkp_1116 : KP en en_1116 := KP_fv (KP_rf en) es1112 es1112_1116 hi (nI wd) (nI mo) (nI tb) pr (nI wo) rfl rfl rfl rfl rfl rfl rfl rfl rfl rfl rfl rfl
  refine lv_iload_n hx hb dX12_sheet_5 rfl (lv_at hl 1 rfl) ?_
  refine lv_i2l hx hb dX12_sheet_6 rfl ?_
  refine lv_lconst (v := 0) hx hb dX12_sheet_7 (by decide) ?_
  refine lv_ldc2 hx hb hown (hts _ tw_984) dX12_sheet_8 ?_
  refine hp_callRi (va_runS (As := [.long k9.toInt64, .long 0, .long 3]) (rest := []) ⟨hx, hb, hml, hown, hts⟩ (c_X12_within l D cy _ cs ad en_1116 k9.toInt64 0 3) (kw_X12_within hts tw_985 ⟨by decide, by decide⟩) (preS_of hh hK) rfl rfl hl.1 rfl (lv_room (Nat.le_of_ble_eq_true rfl)) dX12_sheet_11 ⟨Nat.le_of_ble_eq_true rfl, Nat.le_of_ble_eq_true rfl⟩) hh hA (fun r_1117 H locs hw_1117 hh => ?_)
  rcases Decidable.em (wi k9 0 3) with hp_1117 | hp_1117
  · obtain rfl : r_1117 = 1 := Eq.trans hw_1117 (if_pos ((wj_32 (by decide) (by decide)).mpr hp_1117))
    obtain ⟨N_1117, rfl, hA_1117, hB_1117⟩ := wi_natB hp_1117 0 3 (by decide) (by decide)
    refine lv_if_ne (tgt := 19) hx hb dX12_sheet_14 (by decide) (fun _ => ?_) (fun c_0 => absurd c_0 (by decide))
    refine lv_iload_n hx hb dX12_sheet_19 rfl (lv_at hl 2 rfl) ?_
    refine lv_i2l hx hb dX12_sheet_20 rfl ?_
    refine lv_lconst (v := 0) hx hb dX12_sheet_21 (by decide) ?_
    refine lv_ldc2 hx hb hown (hts _ tw_983) dX12_sheet_22 ?_
    refine hp_callRi (va_runS (As := [.long la9.toInt64, .long 0, .long 2]) (rest := []) ⟨hx, hb, hml, hown, hts⟩ (c_X12_within l D cy _ cs ad en_1116 la9.toInt64 0 2) (kw_X12_within hts tw_985 ⟨by decide, by decide⟩) (preS_of hh hK) rfl rfl hl.1 rfl (lv_room (Nat.le_of_ble_eq_true rfl)) dX12_sheet_25 ⟨Nat.le_of_ble_eq_true rfl, Nat.le_of_ble_eq_true rfl⟩) hh hA (fun r_1118 H locs hw_1118 hh => ?_)
    rcases Decidable.em (wi la9 0 2) with hp_1118 | hp_1118
    · obtain rfl : r_1118 = 1 := Eq.trans hw_1118 (if_pos ((wj_32 (by decide) (by decide)).mpr hp_1118))
      obtain ⟨N_1118, rfl, hA_1118, hB_1118⟩ := wi_natB hp_1118 0 2 (by decide) (by decide)
      refine lv_if_eq (tgt := 37) hx hb dX12_sheet_28 (by decide) (fun c_0 => absurd c_0 (by decide)) (fun _ => ?_)
      refine lv_iload_n hx hb dX12_sheet_31 rfl (lv_at hl 3 rfl) ?_
      refine lv_bipush (v := 40) hx hb dX12_sheet_32 (by decide) ?_
      refine lv_icmp_le (tgt := 40) hx hb dX12_sheet_34 (by decide) (fun c_1119 => ?_) (fun c_1119 => ?_)
      · refine lv_iload_n hx hb dX12_sheet_40 rfl (lv_at hl 3 rfl) ?_
        refine lv_if_ge (tgt := 50) hx hb dX12_sheet_41 (by decide) (fun c_1120 => ?_) (fun c_1120 => ?_)
        · obtain ⟨N9, hN9, rfl⟩ := nat_of (Int32.not_lt.mpr c_1120)
          have hN40 : N9 ≤ 40 := n_le (a := N9) (b := 40) c_1119 hN9 (by decide)
          refine lv_aload_n hx hb dX12_sheet_50 rfl (lv_at hl 0 rfl) ?_
          refine hp_get hx hb hts ix12 hown hK hh (q := 0) rfl (hI.1 _ (by decide)) es1112_1116 rfl 7 (by decide) (hts _ tw_886) (fun _ h9 => h9) rfl dX12_sheet_51 ?_
          refine lv_iload_n hx hb dX12_sheet_54 rfl (lv_at hl 1 rfl) ?_
          refine lv_iload_n hx hb dX12_sheet_55 rfl (lv_at hl 2 rfl) ?_
          refine hp_iast hx hb hK hh (q := 3) rfl (hI.1 _ (by decide)) es1113_1116 (vp_in_nI (n := N_1117) (by omega) (by decide)) dX12_sheet_56 (fun H locs en_1121 hen_1121 hh => ?_)
          rw [nI_clamp (n := N_1117) (by omega)] at hen_1121
          have es1114_1121 : en_1121 4 = .inl (cy 0, 4, .inl f_1114) := by rw [hen_1121, va_up_ne _ _ (by decide)]; exact es1114_1116
          have es1115_1121 : en_1121 5 = .inl (cy 0, 160, .inl f_1115) := by rw [hen_1121, va_up_ne _ _ (by decide)]; exact es1115_1116
          have es1112_1121 : en_1121 0 = .inr (11, [.int 0, .int hi, .int (nI wd), .int (nI mo), .int (nI tb), .ref (ad 1), .ref (ad 2), .ref (ad 3), .ref (ad 4), .ref (ad 5), .ref (ad 6), .ref (ad 7), .ref (ad 8), .ref (ad 9), .int dp, .long many, .long grt, .long lst, .long nou, .ref (ad 10), .ref (ad 11), .ref (ad 12), .int rm, .long rb, .ref (ad 13), .int pr, .ref (ad 14), .ref (ad 15), .ref (ad 16), .ref (ad 17), .int (nI wo), .ref (ad 18), .ref (ad 19)]) := by rw [hen_1121, va_up_ne _ _ (by decide)]; exact es1112_1116
          have es1113_1121 : en_1121 3 = .inl (cy 0, 4, .inl (upd f_1113 N_1117 (nI N_1118))) := by rw [hen_1121]; exact va_up_self _ _ _
          have hI_1121 : RX cy cs ad en_1121 := by rw [hen_1121]; exact upr_la hI_1116 ⟨(upd f_1113 N_1117 (nI N_1118)), rfl⟩
          have hf_1121 : ∀ c, (c ≠ 0 ∧ c ≠ 3 ∧ c ≠ 4 ∧ c ≠ 5) → en_1121 c = en c := fun c hc => Eq.trans (show en_1121 c = en_1116 c from by rw [hen_1121, va_up_ne _ _ (by omega)]) (hf_1116 c hc)
          have hkc4_1121 : en_1121 4 = en 4 := (show en_1121 4 = en_1116 4 from by rw [hen_1121, va_up_ne _ _ (by decide)]).trans hkc4_1116
          have hkc5_1121 : en_1121 5 = en 5 := (show en_1121 5 = en_1116 5 from by rw [hen_1121, va_up_ne _ _ (by decide)]).trans hkc5_1116
          have hkp_1121 : KP en en_1121 := KP_same hkp_1116 (show en_1121 0 = en_1116 0 from by rw [hen_1121, va_up_ne _ _ (by decide)])
          refine lv_aload_n hx hb dX12_sheet_57 rfl (lv_at hl 0 rfl) ?_
          refine hp_get hx hb hts ix12 hown hK hh (q := 0) rfl (hI.1 _ (by decide)) es1112_1121 rfl 8 (by decide) (hts _ tw_887) (fun _ h9 => h9) rfl dX12_sheet_58 ?_
          refine lv_iload_n hx hb dX12_sheet_61 rfl (lv_at hl 1 rfl) ?_
          refine lv_iload_n hx hb dX12_sheet_62 rfl (lv_at hl 3 rfl) ?_
          refine hp_iast hx hb hK hh (q := 4) rfl (hI.1 _ (by decide)) es1114_1121 (vp_in_nI (n := N_1117) (by omega) (by decide)) dX12_sheet_63 (fun H locs en_1122 hen_1122 hh => ?_)
          rw [nI_clamp (n := N_1117) (by omega)] at hen_1122
          have es1115_1122 : en_1122 5 = .inl (cy 0, 160, .inl f_1115) := by rw [hen_1122, va_up_ne _ _ (by decide)]; exact es1115_1121
          have es1112_1122 : en_1122 0 = .inr (11, [.int 0, .int hi, .int (nI wd), .int (nI mo), .int (nI tb), .ref (ad 1), .ref (ad 2), .ref (ad 3), .ref (ad 4), .ref (ad 5), .ref (ad 6), .ref (ad 7), .ref (ad 8), .ref (ad 9), .int dp, .long many, .long grt, .long lst, .long nou, .ref (ad 10), .ref (ad 11), .ref (ad 12), .int rm, .long rb, .ref (ad 13), .int pr, .ref (ad 14), .ref (ad 15), .ref (ad 16), .ref (ad 17), .int (nI wo), .ref (ad 18), .ref (ad 19)]) := by rw [hen_1122, va_up_ne _ _ (by decide)]; exact es1112_1121
          have es1113_1122 : en_1122 3 = .inl (cy 0, 4, .inl (upd f_1113 N_1117 (nI N_1118))) := by rw [hen_1122, va_up_ne _ _ (by decide)]; exact es1113_1121
          have es1114_1122 : en_1122 4 = .inl (cy 0, 4, .inl (upd f_1114 N_1117 (nI N9))) := by rw [hen_1122]; exact va_up_self _ _ _
          have hI_1122 : RX cy cs ad en_1122 := by rw [hen_1122]; exact upr_sl hI_1121 ⟨(upd f_1114 N_1117 (nI N9)), rfl, (vals_updB p0_1114 (by omega))⟩
          have hf_1122 : ∀ c, (c ≠ 0 ∧ c ≠ 3 ∧ c ≠ 4 ∧ c ≠ 5) → en_1122 c = en c := fun c hc => Eq.trans (show en_1122 c = en_1121 c from by rw [hen_1122, va_up_ne _ _ (by omega)]) (hf_1121 c hc)
          have hkc5_1122 : en_1122 5 = en 5 := (show en_1122 5 = en_1121 5 from by rw [hen_1122, va_up_ne _ _ (by decide)]).trans hkc5_1121
          have hkp_1122 : KP en en_1122 := KP_same hkp_1121 (show en_1122 0 = en_1121 0 from by rw [hen_1122, va_up_ne _ _ (by decide)])
          refine lv_iconst (v := 0) hx hb dX12_sheet_64 (by decide) ?_
          refine lv_istore (lv' := [(4, .int 0), (0, .ref (ad 0)), (1, .int (nI N_1117)), (2, .int (nI N_1118)), (3, .int (nI N9))]) hx hb dX12_sheet_65 hl (by decide) rfl (fun ls hl => ?_)
          have loop_1123 : ∀ (fu j1123 : Nat)  (en_1123 : Nat → va_E) (ls : Array Slot) (H : Heap) (locs : List Loc), 0 ≤ j1123 → j1123 ≤ 40 → 40 < j1123 + fu → RX cy cs ad en_1123 → (∀ c, (c ≠ 0 ∧ c ≠ 3 ∧ c ≠ 4 ∧ c ≠ 5) → en_1123 c = en c) → (rdF (en_1123 3) = upd (rdF (en 3)) N_1117 (nI N_1118)) → (rdF (en_1123 4) = upd (rdF (en 4)) N_1117 (nI N9)) → (∀ i, rdF (en_1123 5) i = if 40 * N_1117 ≤ i ∧ i < 40 * N_1117 + j1123 then 0 else rdF (en 5) i) → (KP en en_1123) → lv_has ls 5 [(4, .int (nI j1123)), (0, .ref (ad 0)), (1, .int (nI N_1117)), (2, .int (nI N_1118)), (3, .int (nI N9))] → Hp D (Af cs ad sz) (Af cs ad sz) s.heap H locs cs ad en_1123 → W p l e (headSpec (Cond.code yX12_sheet cX12_sheet 5 (some .int) :: TB) (rmN 1)).room s m ([.ref (ad 0), .int (nI N_1117), .int (nI N_1118), .int (nI N9)] : List Value).toArray below meth c H locs 0 0 (MQ below (va_Qi (S := Nat → va_E) (fun r en1 => RX cy cs ad en1 ∧ (∀ c, (c ≠ 0 ∧ c ≠ 3 ∧ c ≠ 4 ∧ c ≠ 5) → en1 c = en c) ∧ RSH (nI N_1117) (nI N_1118) (nI N9) r en en1 ∧ KP en en1) (PostM D cs ad) (Af cs ad sz)) ([.ref (ad 0), .int (nI N_1117), .int (nI N_1118), .int (nI N9)] : List Value).toArray s 0 0 (Af cs ad sz)) (F0 m 67 ls []) := by
            intro fu
            induction fu with
            | zero => intro j1123  en_1123 ls H locs h0 h1 h2; exact absurd h2 (by omega)
            | succ fu ih_1123 =>
              intro j1123  en_1123 ls H locs hj0_1123 hj_1123 hfu_1123 hI_1123 hf_1123 i0_1123 i1_1123 i2_1123 i3_1123 hl hh
              refine lv_iload hx hb dX12_sheet_67 (lv_at hl 0 rfl) ?_
              refine lv_bipush (v := 40) hx hb dX12_sheet_69 (by decide) ?_
              refine lv_icmp_ge (tgt := 93) hx hb dX12_sheet_71 (by decide) (fun c_1124 => ?_) (fun c_1124 => ?_)
              · have n_1124 : 40 ≤ j1123 := n_le (a := 40) (b := j1123) c_1124 (by decide) (by omega)
                refine lv_iconst (v := 1) hx hb dX12_sheet_93 (by decide) ?_
                have h40 : (40 : Int32).toInt = 40 := by decide
                have h00 : (0 : Int32).toInt = 0 := by decide
                exact hp_iretM hx hb hr rfl hlocks hh (⟨hI_1123, hf_1123, ⟨(by have h8 := i_le c_1119; have h9 := i_le c_1120; unfold spSheet; rw [if_pos hp_1117, if_pos ⟨hp_1118, by omega⟩, if_neg (by omega)]), Or.inr ⟨rfl, N_1117, N9, rfl, rfl, by omega, hN40, i0_1123, i1_1123, by have e9 : j1123 = 40 := (by omega); rw [e9] at i2_1123; exact i2_1123⟩⟩, i3_1123⟩) dX12_sheet_94
              · have n_1124 : j1123 < 40 := n_nle (a := 40) (b := j1123) c_1124 (by decide) (by omega)
                refine lv_aload_n hx hb dX12_sheet_74 rfl (lv_at hl 1 rfl) ?_
                obtain ⟨fa_1125, hi_1125, wd_1125, mo_1125, tb_1125, dp_1125, many_1125, grt_1125, lst_1125, nou_1125, rm_1125, rb_1125, pr_1125, wo_1125, es1125, p0_1125, p1_1125, p2_1125, p3_1125, p4_1125⟩ := getr_M hI_1123
                have hq2_1126 : wd_1125 = wd := n_eq ((show nI wd_1125 = rdI (en_1123 0) 2 from by rw [es1125]; rfl).trans (i3_1123.2.1.trans (show rdI (en 0) 2 = nI wd from by rw [es1112]; rfl))) (by omega) (by omega)
                have hq3_1126 : mo_1125 = mo := n_eq ((show nI mo_1125 = rdI (en_1123 0) 3 from by rw [es1125]; rfl).trans (i3_1123.2.2.1.trans (show rdI (en 0) 3 = nI mo from by rw [es1112]; rfl))) (by omega) (by omega)
                have hq4_1126 : tb_1125 = tb := n_eq ((show nI tb_1125 = rdI (en_1123 0) 4 from by rw [es1125]; rfl).trans (i3_1123.2.2.2.1.trans (show rdI (en 0) 4 = nI tb from by rw [es1112]; rfl))) (by omega) (by omega)
                have hq30_1126 : wo_1125 = wo := n_eq ((show nI wo_1125 = rdI (en_1123 0) 30 from by rw [es1125]; rfl).trans (i3_1123.2.2.2.2.2.trans (show rdI (en 0) 30 = nI wo from by rw [es1112]; rfl))) (by omega) (by omega)
                rw [hq2_1126, hq3_1126, hq4_1126, hq30_1126] at es1125
                refine hp_get hx hb hts ix12 hown hK hh (q := 0) rfl (hI.1 _ (by decide)) es1125 rfl 9 (by decide) (hts _ tw_888) (fun _ h9 => h9) rfl dX12_sheet_75 ?_
                refine lv_bipush (v := 40) hx hb dX12_sheet_78 (by decide) ?_
                refine lv_iload_n hx hb dX12_sheet_80 rfl (lv_at hl 2 rfl) ?_
                refine lv_imul hx hb dX12_sheet_81 ?_
                rw [show (40 : Int32) = nI 40 from rfl, pk_mul 40 N_1117]
                refine lv_iload hx hb dX12_sheet_82 (lv_at hl 0 rfl) ?_
                refine lv_iadd hx hb dX12_sheet_84 ?_
                rw [nI_add (40 * N_1117) j1123]
                refine lv_iconst (v := 0) hx hb dX12_sheet_85 (by decide) ?_
                obtain ⟨f_1127, es1127⟩ := getr_ce hI_1123
                refine hp_iast hx hb hK hh (q := 5) rfl (hI.1 _ (by decide)) es1127 (vp_in_nI (n := ((40 * N_1117) + j1123)) (by omega) (by decide)) dX12_sheet_86 (fun H locs en_1128 hen_1128 hh => ?_)
                rw [nI_clamp (n := ((40 * N_1117) + j1123)) (by omega)] at hen_1128
                have es1125_1128 : en_1128 0 = .inr (11, [.int fa_1125, .int hi_1125, .int (nI wd), .int (nI mo), .int (nI tb), .ref (ad 1), .ref (ad 2), .ref (ad 3), .ref (ad 4), .ref (ad 5), .ref (ad 6), .ref (ad 7), .ref (ad 8), .ref (ad 9), .int dp_1125, .long many_1125, .long grt_1125, .long lst_1125, .long nou_1125, .ref (ad 10), .ref (ad 11), .ref (ad 12), .int rm_1125, .long rb_1125, .ref (ad 13), .int pr_1125, .ref (ad 14), .ref (ad 15), .ref (ad 16), .ref (ad 17), .int (nI wo), .ref (ad 18), .ref (ad 19)]) := by rw [hen_1128, va_up_ne _ _ (by decide)]; exact es1125
                have es1127_1128 : en_1128 5 = .inl (cy 0, 160, .inl (upd f_1127 ((40 * N_1117) + j1123) 0)) := by rw [hen_1128]; exact va_up_self _ _ _
                have hI_1128 : RX cy cs ad en_1128 := by rw [hen_1128]; exact upr_ce hI_1123 ⟨(upd f_1127 ((40 * N_1117) + j1123) 0), rfl⟩
                have hf_1128 : ∀ c, (c ≠ 0 ∧ c ≠ 3 ∧ c ≠ 4 ∧ c ≠ 5) → en_1128 c = en c := fun c hc => Eq.trans (show en_1128 c = en_1123 c from by rw [hen_1128, va_up_ne _ _ (by omega)]) (hf_1123 c hc)
                have hkp_1128 : KP en en_1128 := KP_same i3_1123 (show en_1128 0 = en_1123 0 from by rw [hen_1128, va_up_ne _ _ (by decide)])
                refine lv_iinc (v := (nI (j1123 + 1))) (lv' := [(4, .int (nI (j1123 + 1))), (0, .ref (ad 0)), (1, .int (nI N_1117)), (2, .int (nI N_1118)), (3, .int (nI N9))]) hx hb dX12_sheet_87 hl (k := 0) rfl (nI_1 _) (by decide) rfl (fun ls hl => ?_)
                refine lv_goto (tgt := 67) hx hb dX12_sheet_90 (by decide) ?_
                exact ih_1123 ((j1123 + 1))  en_1128 ls H locs (by omega) (by omega) (by omega) hI_1128 hf_1128 (by rw [hen_1128, va_up_ne _ _ (by decide)]; exact i0_1123) (by rw [hen_1128, va_up_ne _ _ (by decide)]; exact i1_1123) (fun i => by rw [es1127_1128]; exact z_40 (fun i => (show f_1127 i = rdF (en_1123 5) i from by rw [es1127]; rfl).trans (i2_1123 i)) i) (hkp_1128) (lv_sub hl [0, 1, 2, 3, 4] rfl) hh
          exact loop_1123 (40 + 1) 0  en_1122 ls _ _ (Nat.le_refl _) (by omega) (by omega) hI_1122 hf_1122 (by rw [es1113_1122, es1113]; rfl) (by rw [es1114_1122, es1114]; rfl) (fun i => by rw [hkc5_1122, if_neg (by omega)]) (hkp_1122) (lv_sub hl [0, 1, 2, 3, 4] rfl) hh
        · refine lv_aload_n hx hb dX12_sheet_44 rfl (lv_at hl 0 rfl) ?_
          refine lv_iconst (v := 4) hx hb dX12_sheet_45 (by decide) ?_
          refine hp_callMi (va_runV (As := [.int 4]) (rest := []) ⟨hx, hb, hml, hown, hts⟩ (c_X12_fails l D cy _ cs ad en_1116 (hI.1 _ (by decide)) 0 hi wd mo tb dp many grt lst nou rm rb pr wo 4 es1112_1116) (kw_X12_fails hts tw_997 ⟨by decide, by decide⟩) (preV_of hh hK (hI.1 _ (by decide)) es1112_1116 rfl) rfl rfl hl.1 rfl (lv_room (Nat.le_of_ble_eq_true rfl)) dX12_sheet_46 ⟨Nat.le_of_ble_eq_true rfl, Nat.le_of_ble_eq_true rfl⟩) hh hA (fun r_1129 H locs en_1129 hw_1129 hh => ?_)
          obtain ⟨hr_1129, hen_1129⟩ := hw_1129
          have es1113_1129 : en_1129 3 = .inl (cy 0, 4, .inl f_1113) := by rw [hen_1129, va_up_ne _ _ (by decide)]; exact es1113_1116
          have es1114_1129 : en_1129 4 = .inl (cy 0, 4, .inl f_1114) := by rw [hen_1129, va_up_ne _ _ (by decide)]; exact es1114_1116
          have es1115_1129 : en_1129 5 = .inl (cy 0, 160, .inl f_1115) := by rw [hen_1129, va_up_ne _ _ (by decide)]; exact es1115_1116
          have es1112_1129 : en_1129 0 = .inr (11, [.int 4, .int hi, .int (nI wd), .int (nI mo), .int (nI tb), .ref (ad 1), .ref (ad 2), .ref (ad 3), .ref (ad 4), .ref (ad 5), .ref (ad 6), .ref (ad 7), .ref (ad 8), .ref (ad 9), .int dp, .long many, .long grt, .long lst, .long nou, .ref (ad 10), .ref (ad 11), .ref (ad 12), .int rm, .long rb, .ref (ad 13), .int pr, .ref (ad 14), .ref (ad 15), .ref (ad 16), .ref (ad 17), .int (nI wo), .ref (ad 18), .ref (ad 19)]) := by rw [hen_1129]; exact va_up_self _ _ _
          have hI_1129 : RX cy cs ad en_1129 := by rw [hen_1129]; exact upr_M hI_1116 ⟨4, hi, wd, mo, tb, dp, many, grt, lst, nou, rm, rb, pr, wo, rfl, hwd2, hwd3, hmo, htb, hwo⟩
          have hf_1129 : ∀ c, (c ≠ 0 ∧ c ≠ 3 ∧ c ≠ 4 ∧ c ≠ 5) → en_1129 c = en c := fun c hc => Eq.trans (show en_1129 c = en_1116 c from by rw [hen_1129, va_up_ne _ _ (by omega)]) (hf_1116 c hc)
          have hkc3_1129 : en_1129 3 = en 3 := (show en_1129 3 = en_1116 3 from by rw [hen_1129, va_up_ne _ _ (by decide)]).trans hkc3_1116
          have hkc4_1129 : en_1129 4 = en 4 := (show en_1129 4 = en_1116 4 from by rw [hen_1129, va_up_ne _ _ (by decide)]).trans hkc4_1116
          have hkc5_1129 : en_1129 5 = en 5 := (show en_1129 5 = en_1116 5 from by rw [hen_1129, va_up_ne _ _ (by decide)]).trans hkc5_1116
          have hkp_1129 : KP en en_1129 := KP_fv hkp_1116 es1112_1116 es1112_1129 hi (nI wd) (nI mo) (nI tb) pr (nI wo) rfl rfl rfl rfl rfl rfl rfl rfl rfl rfl rfl rfl
          obtain rfl : r_1129 = (-14) := hr_1129.trans (by decide)
          have h40 : (40 : Int32).toInt = 40 := by decide
          have h00 : (0 : Int32).toInt = 0 := by decide
          exact hp_iretM hx hb hr rfl hlocks hh (⟨hI_1129, hf_1129, ⟨(by have h8 := i_le c_1119; have h9 := i_nle c_1120; unfold spSheet; rw [if_pos hp_1117, if_pos ⟨hp_1118, by omega⟩, if_pos (by omega)]), Or.inl ⟨by decide, hkc3_1129, hkc4_1129, hkc5_1129⟩⟩, hkp_1129⟩) dX12_sheet_49
      · refine lv_bipush (v := (-2)) hx hb dX12_sheet_37 (by decide) ?_
        have h40 : (40 : Int32).toInt = 40 := by decide
        have h00 : (0 : Int32).toInt = 0 := by decide
        exact hp_iretM hx hb hr rfl hlocks hh (⟨hI_1116, hf_1116, ⟨(by have h9 := i_nle c_1119; unfold spSheet; rw [if_pos hp_1117, if_neg (fun q => absurd q.2 (by omega))]), Or.inl ⟨by decide, hkc3_1116, hkc4_1116, hkc5_1116⟩⟩, hkp_1116⟩) dX12_sheet_39
    · obtain rfl : r_1118 = 0 := Eq.trans hw_1118 (if_neg (fun q => hp_1118 ((wj_32 (by decide) (by decide)).mp q)))
      refine lv_if_eq (tgt := 37) hx hb dX12_sheet_28 (by decide) (fun _ => ?_) (fun c_0 => absurd c_0 (by decide))
      refine lv_bipush (v := (-2)) hx hb dX12_sheet_37 (by decide) ?_
      have h40 : (40 : Int32).toInt = 40 := by decide
      have h00 : (0 : Int32).toInt = 0 := by decide
      exact hp_iretM hx hb hr rfl hlocks hh (⟨hI_1116, hf_1116, ⟨(by unfold spSheet; rw [if_pos hp_1117, if_neg (fun q => hp_1118 q.1)]), Or.inl ⟨by decide, hkc3_1116, hkc4_1116, hkc5_1116⟩⟩, hkp_1116⟩) dX12_sheet_39
  · obtain rfl : r_1117 = 0 := Eq.trans hw_1117 (if_neg (fun q => hp_1117 ((wj_32 (by decide) (by decide)).mp q)))
    refine lv_if_ne (tgt := 19) hx hb dX12_sheet_14 (by decide) (fun c_0 => absurd c_0 (by decide)) (fun _ => ?_)
    refine lv_iconst (v := (-1)) hx hb dX12_sheet_17 (by decide) ?_
    have h40 : (40 : Int32).toInt = 40 := by decide
    have h00 : (0 : Int32).toInt = 0 := by decide
    exact hp_iretM hx hb hr rfl hlocks hh (⟨hI_1116, hf_1116, ⟨(by unfold spSheet; rw [if_neg hp_1117]), Or.inl ⟨by decide, hkc3_1116, hkc4_1116, hkc5_1116⟩⟩, hkp_1116⟩) dX12_sheet_18
theorem kw_X12_sheet {R : Room} {s : State} {args : Array Value} {own : String} {idx : Nat} (hts : ∀ w ∈ TB, w.before args s = true) (hl : Cond.methodLink own idx yX12_sheet ∈ TB) (hR : 1 + 1 ≤ R.frames ∧ 8 + (5 + 11) + 40 * 1 ≤ R.locals) : CallW R s args own RX12 idx yX12_sheet cX12_sheet 5 (some .int) (Cond.code yX12_sheet cX12_sheet 5 (some .int) :: TB) (rmN 1) 0 0 3 := cwV 3 hts (TB_V hl tw_1200 tw_1201 tw_9 tw_1202) rfl rfl rfl (by decide +kernel) hR
set_option maxHeartbeats 4000000 in
set_option maxRecDepth 100000 in
/-- lose -/
theorem c_X12_lose (l : Launch) (D : va_G) (cy : Nat → ClassId) (sz : Nat) (cs : List Nat) (ad : Nat → Nat) (en : Nat → va_E) (hI : RX cy cs ad en) (k9 : Int32)   : Met l yX12_lose (Cond.code yX12_lose cX12_lose 3 (some .int) :: TB) (rmN 1) (va_Pc [.ref (ad 0), .int k9] (Pre D cy cs ad en sz)) (va_Qi (S := Nat → va_E) (fun r en1 => RX cy cs ad en1 ∧ (∀ c, (c ≠ 3) → en1 c = en c) ∧ RLO k9 r en en1) (PostM D cs ad) (Af cs ad sz)) 0 0 (Af cs ad sz) := by
  refine Met.ofW (cc := cX12_lose) (maxL := 3) (ret := (some .int)) (by decide) rfl ?_
  intro p e s m args below meth c s₁ B hml hv
  obtain ⟨rfl, hsz, hP, hK, hD0⟩ := hv
  have hx := B.exec
  have hb := B.bytes
  have hr := B.returns
  have hts : ∀ w ∈ TB, w.before _ s = true := fun w h => atoms_spec (ws := _ :: TB) B.pre w (List.mem_cons_of_mem _ h)
  have hown : s.vm.findClass RX12 = some m.cls := findClass_of_methodNamed B.named
  have hlocks := B.notSynchronized
  have hh : Hp D (Af cs ad sz) (Af cs ad sz) s.heap s.heap [] cs ad en := ⟨hP, Af_self hD0, va_S.rf⟩
  have hA : ∀ q : Nat, s.heap.size ≤ q → Af cs ad sz q := fun q h => Or.inr (by rw [hsz] at h; exact h)
  have hl := lv_entry ([.ref (ad 0), .int k9]) (n := 3) (Nat.le_of_ble_eq_true rfl)
  rw [lg_entry_eq]
  generalize (lg_sl ([.ref (ad 0), .int k9]) ++ List.replicate (3 - (lg_sl ([.ref (ad 0), .int k9])).length) Slot.unset).toArray = ls at hl ⊢
  have hl : lv_has ls 3 [(0, .ref (ad 0)), (1, .int k9)] := hl
  have hf0 : ∀ c, (c ≠ 3) → en c = en c := fun _ _ => rfl
  obtain ⟨fa, hi, wd, mo, tb, dp, many, grt, lst, nou, rm, rb, pr, wo, es1130, hwd2, hwd3, hmo, htb, hwo⟩ := getr_M hI
  obtain ⟨f_1131, es1131⟩ := getr_la hI
  refine lv_iload_n hx hb dX12_lose_0 rfl (lv_at hl 1 rfl) ?_
  refine lv_i2l hx hb dX12_lose_1 rfl ?_
  refine lv_lconst (v := 0) hx hb dX12_lose_2 (by decide) ?_
  refine lv_ldc2 hx hb hown (hts _ tw_984) dX12_lose_3 ?_
  refine hp_callRi (va_runS (As := [.long k9.toInt64, .long 0, .long 3]) (rest := []) ⟨hx, hb, hml, hown, hts⟩ (c_X12_within l D cy _ cs ad en k9.toInt64 0 3) (kw_X12_within hts tw_985 ⟨by decide, by decide⟩) (preS_of hh hK) rfl rfl hl.1 rfl (lv_room (Nat.le_of_ble_eq_true rfl)) dX12_lose_6 ⟨Nat.le_of_ble_eq_true rfl, Nat.le_of_ble_eq_true rfl⟩) hh hA (fun r_1132 H locs hw_1132 hh => ?_)
  rcases Decidable.em (wi k9 0 3) with hp_1132 | hp_1132
  · obtain rfl : r_1132 = 1 := Eq.trans hw_1132 (if_pos ((wj_32 (by decide) (by decide)).mpr hp_1132))
    obtain ⟨N_1132, rfl, hA_1132, hB_1132⟩ := wi_natB hp_1132 0 3 (by decide) (by decide)
    refine lv_if_ne (tgt := 14) hx hb dX12_lose_9 (by decide) (fun _ => ?_) (fun c_0 => absurd c_0 (by decide))
    refine lv_aload_n hx hb dX12_lose_14 rfl (lv_at hl 0 rfl) ?_
    refine hp_get hx hb hts ix12 hown hK hh (q := 0) rfl (hI.1 _ (by decide)) es1130 rfl 7 (by decide) (hts _ tw_886) (fun _ h9 => h9) rfl dX12_lose_15 ?_
    refine lv_iload_n hx hb dX12_lose_18 rfl (lv_at hl 1 rfl) ?_
    refine hp_iald hx hb hK hh (q := 3) rfl (hI.1 _ (by decide)) es1131 (vp_in_nI (n := N_1132) (by omega) (by decide)) dX12_lose_19 ?_
    rw [nI_clamp (n := N_1132) (by omega)]
    refine lv_bipush (v := (-9)) hx hb dX12_lose_20 (by decide) ?_
    refine lv_icmp_ne (tgt := 29) hx hb dX12_lose_22 (by decide) (fun c_1133 => ?_) (fun c_1133 => ?_)
    · refine lv_iconst (v := 1) hx hb dX12_lose_29 (by decide) ?_
      refine lv_istore_n (lv' := [(2, .int 1), (0, .ref (ad 0)), (1, .int (nI N_1132))]) hx hb dX12_lose_30 rfl hl (by decide) rfl (fun ls hl => ?_)
      refine lv_aload_n hx hb dX12_lose_31 rfl (lv_at hl 1 rfl) ?_
      refine hp_get hx hb hts ix12 hown hK hh (q := 0) rfl (hI.1 _ (by decide)) es1130 rfl 7 (by decide) (hts _ tw_886) (fun _ h9 => h9) rfl dX12_lose_32 ?_
      refine lv_iload_n hx hb dX12_lose_35 rfl (lv_at hl 2 rfl) ?_
      refine lv_bipush (v := (-9)) hx hb dX12_lose_36 (by decide) ?_
      refine hp_iast hx hb hK hh (q := 3) rfl (hI.1 _ (by decide)) es1131 (vp_in_nI (n := N_1132) (by omega) (by decide)) dX12_lose_38 (fun H locs en_1134 hen_1134 hh => ?_)
      rw [nI_clamp (n := N_1132) (by omega)] at hen_1134
      have es1130_1134 : en_1134 0 = .inr (11, [.int fa, .int hi, .int (nI wd), .int (nI mo), .int (nI tb), .ref (ad 1), .ref (ad 2), .ref (ad 3), .ref (ad 4), .ref (ad 5), .ref (ad 6), .ref (ad 7), .ref (ad 8), .ref (ad 9), .int dp, .long many, .long grt, .long lst, .long nou, .ref (ad 10), .ref (ad 11), .ref (ad 12), .int rm, .long rb, .ref (ad 13), .int pr, .ref (ad 14), .ref (ad 15), .ref (ad 16), .ref (ad 17), .int (nI wo), .ref (ad 18), .ref (ad 19)]) := by rw [hen_1134, va_up_ne _ _ (by decide)]; exact es1130
      have es1131_1134 : en_1134 3 = .inl (cy 0, 4, .inl (upd f_1131 N_1132 (-9))) := by rw [hen_1134]; exact va_up_self _ _ _
      have hI_1134 : RX cy cs ad en_1134 := by rw [hen_1134]; exact upr_la hI ⟨(upd f_1131 N_1132 (-9)), rfl⟩
      have hf_1134 : ∀ c, (c ≠ 3) → en_1134 c = en c := fun c hc => Eq.trans (show en_1134 c = en c from by rw [hen_1134, va_up_ne _ _ (by omega)]) (hf0 c hc)
      refine lv_iload_n hx hb dX12_lose_39 rfl (lv_at hl 0 rfl) ?_
      exact hp_iretM hx hb hr rfl hlocks hh (⟨hI_1134, hf_1134, Or.inr ⟨N_1132, rfl, by omega, Or.inr ⟨fun q => c_1133 ((show rdF (en 3) N_1132 = f_1131 N_1132 from by rw [es1131]; rfl).symm.trans q), rfl⟩, (by rw [es1131_1134, es1131]; rfl)⟩⟩) dX12_lose_40
    · refine lv_iconst (v := 0) hx hb dX12_lose_25 (by decide) ?_
      refine lv_goto (tgt := 30) hx hb dX12_lose_26 (by decide) ?_
      refine lv_istore_n (lv' := [(2, .int 0), (0, .ref (ad 0)), (1, .int (nI N_1132))]) hx hb dX12_lose_30 rfl hl (by decide) rfl (fun ls hl => ?_)
      refine lv_aload_n hx hb dX12_lose_31 rfl (lv_at hl 1 rfl) ?_
      refine hp_get hx hb hts ix12 hown hK hh (q := 0) rfl (hI.1 _ (by decide)) es1130 rfl 7 (by decide) (hts _ tw_886) (fun _ h9 => h9) rfl dX12_lose_32 ?_
      refine lv_iload_n hx hb dX12_lose_35 rfl (lv_at hl 2 rfl) ?_
      refine lv_bipush (v := (-9)) hx hb dX12_lose_36 (by decide) ?_
      refine hp_iast hx hb hK hh (q := 3) rfl (hI.1 _ (by decide)) es1131 (vp_in_nI (n := N_1132) (by omega) (by decide)) dX12_lose_38 (fun H locs en_1135 hen_1135 hh => ?_)
      rw [nI_clamp (n := N_1132) (by omega)] at hen_1135
      have es1130_1135 : en_1135 0 = .inr (11, [.int fa, .int hi, .int (nI wd), .int (nI mo), .int (nI tb), .ref (ad 1), .ref (ad 2), .ref (ad 3), .ref (ad 4), .ref (ad 5), .ref (ad 6), .ref (ad 7), .ref (ad 8), .ref (ad 9), .int dp, .long many, .long grt, .long lst, .long nou, .ref (ad 10), .ref (ad 11), .ref (ad 12), .int rm, .long rb, .ref (ad 13), .int pr, .ref (ad 14), .ref (ad 15), .ref (ad 16), .ref (ad 17), .int (nI wo), .ref (ad 18), .ref (ad 19)]) := by rw [hen_1135, va_up_ne _ _ (by decide)]; exact es1130
      have es1131_1135 : en_1135 3 = .inl (cy 0, 4, .inl (upd f_1131 N_1132 (-9))) := by rw [hen_1135]; exact va_up_self _ _ _
      have hI_1135 : RX cy cs ad en_1135 := by rw [hen_1135]; exact upr_la hI ⟨(upd f_1131 N_1132 (-9)), rfl⟩
      have hf_1135 : ∀ c, (c ≠ 3) → en_1135 c = en c := fun c hc => Eq.trans (show en_1135 c = en c from by rw [hen_1135, va_up_ne _ _ (by omega)]) (hf0 c hc)
      refine lv_iload_n hx hb dX12_lose_39 rfl (lv_at hl 0 rfl) ?_
      exact hp_iretM hx hb hr rfl hlocks hh (⟨hI_1135, hf_1135, Or.inr ⟨N_1132, rfl, by omega, Or.inl ⟨(show rdF (en 3) N_1132 = f_1131 N_1132 from by rw [es1131]; rfl).trans c_1133, rfl⟩, (by rw [es1131_1135, es1131]; rfl)⟩⟩) dX12_lose_40
  · obtain rfl : r_1132 = 0 := Eq.trans hw_1132 (if_neg (fun q => hp_1132 ((wj_32 (by decide) (by decide)).mp q)))
    refine lv_if_ne (tgt := 14) hx hb dX12_lose_9 (by decide) (fun c_0 => absurd c_0 (by decide)) (fun _ => ?_)
    refine lv_iconst (v := (-1)) hx hb dX12_lose_12 (by decide) ?_
    exact hp_iretM hx hb hr rfl hlocks hh (⟨hI, hf0, Or.inl ⟨hp_1132, rfl, rfl⟩⟩) dX12_lose_13
theorem kw_X12_lose {R : Room} {s : State} {args : Array Value} {own : String} {idx : Nat} (hts : ∀ w ∈ TB, w.before args s = true) (hl : Cond.methodLink own idx yX12_lose ∈ TB) (hR : 1 + 1 ≤ R.frames ∧ 8 + (3 + 11) + 40 * 1 ≤ R.locals) : CallW R s args own RX12 idx yX12_lose cX12_lose 3 (some .int) (Cond.code yX12_lose cX12_lose 3 (some .int) :: TB) (rmN 1) 0 0 1 := cwV 1 hts (TB_V hl tw_1204 tw_1205 tw_9 tw_1206) rfl rfl rfl (by decide +kernel) hR
set_option maxHeartbeats 4000000 in
set_option maxRecDepth 100000 in
/-- put -/
theorem c_X12_put (l : Launch) (D : va_G) (cy : Nat → ClassId) (sz : Nat) (cs : List Nat) (ad : Nat → Nat) (en : Nat → va_E) (hI : RX cy cs ad en) (k9 i9 v9 : Int32)   : Met l yX12_put (Cond.code yX12_put cX12_put 4 (some .int) :: TB) (rmN 1) (va_Pc [.ref (ad 0), .int k9, .int i9, .int v9] (Pre D cy cs ad en sz)) (va_Qi (S := Nat → va_E) (fun r en1 => RX cy cs ad en1 ∧ (∀ c, (c ≠ 0 ∧ c ≠ 5) → en1 c = en c) ∧ RPU k9 i9 v9 r en en1 ∧ KP en en1) (PostM D cs ad) (Af cs ad sz)) 0 0 (Af cs ad sz) := by
  refine Met.ofW (cc := cX12_put) (maxL := 4) (ret := (some .int)) (by decide) rfl ?_
  intro p e s m args below meth c s₁ B hml hv
  obtain ⟨rfl, hsz, hP, hK, hD0⟩ := hv
  have hx := B.exec
  have hb := B.bytes
  have hr := B.returns
  have hts : ∀ w ∈ TB, w.before _ s = true := fun w h => atoms_spec (ws := _ :: TB) B.pre w (List.mem_cons_of_mem _ h)
  have hown : s.vm.findClass RX12 = some m.cls := findClass_of_methodNamed B.named
  have hlocks := B.notSynchronized
  have hh : Hp D (Af cs ad sz) (Af cs ad sz) s.heap s.heap [] cs ad en := ⟨hP, Af_self hD0, va_S.rf⟩
  have hA : ∀ q : Nat, s.heap.size ≤ q → Af cs ad sz q := fun q h => Or.inr (by rw [hsz] at h; exact h)
  have hl := lv_entry ([.ref (ad 0), .int k9, .int i9, .int v9]) (n := 4) (Nat.le_of_ble_eq_true rfl)
  rw [lg_entry_eq]
  generalize (lg_sl ([.ref (ad 0), .int k9, .int i9, .int v9]) ++ List.replicate (4 - (lg_sl ([.ref (ad 0), .int k9, .int i9, .int v9])).length) Slot.unset).toArray = ls at hl ⊢
  have hl : lv_has ls 4 [(0, .ref (ad 0)), (1, .int k9), (2, .int i9), (3, .int v9)] := hl
  have hf0 : ∀ c, (c ≠ 0 ∧ c ≠ 5) → en c = en c := fun _ _ => rfl
  obtain ⟨fa, hi, wd, mo, tb, dp, many, grt, lst, nou, rm, rb, pr, wo, es1136, hwd2, hwd3, hmo, htb, hwo⟩ := getr_M hI
  obtain ⟨f_1137, es1137⟩ := getr_la hI
  obtain ⟨f_1138, es1138, p0_1138⟩ := getr_sl hI
  obtain ⟨f_1139, es1139⟩ := getr_ce hI
  refine lv_aload_n hx hb dX12_put_0 rfl (lv_at hl 0 rfl) ?_
  refine lv_iconst (v := 0) hx hb dX12_put_1 (by decide) ?_
  refine hp_put hx hb hts ix12 tyX12 tyX12_ok nmX12 hown hK hh (q := 0) rfl (hI.1 _ (by decide)) es1136 rfl 0 (by decide) (hts _ tw_879) (fun _ h9 => h9) rfl (ty := .int) (by decide +kernel) rfl rfl (Nat.le_of_ble_eq_true rfl) dX12_put_2 (fun H locs en_1140 hen_1140 hh => ?_)
  have es1137_1140 : en_1140 3 = .inl (cy 0, 4, .inl f_1137) := by rw [hen_1140, va_up_ne _ _ (by decide)]; exact es1137
  have es1138_1140 : en_1140 4 = .inl (cy 0, 4, .inl f_1138) := by rw [hen_1140, va_up_ne _ _ (by decide)]; exact es1138
  have es1139_1140 : en_1140 5 = .inl (cy 0, 160, .inl f_1139) := by rw [hen_1140, va_up_ne _ _ (by decide)]; exact es1139
  have es1136_1140 : en_1140 0 = .inr (11, [.int 0, .int hi, .int (nI wd), .int (nI mo), .int (nI tb), .ref (ad 1), .ref (ad 2), .ref (ad 3), .ref (ad 4), .ref (ad 5), .ref (ad 6), .ref (ad 7), .ref (ad 8), .ref (ad 9), .int dp, .long many, .long grt, .long lst, .long nou, .ref (ad 10), .ref (ad 11), .ref (ad 12), .int rm, .long rb, .ref (ad 13), .int pr, .ref (ad 14), .ref (ad 15), .ref (ad 16), .ref (ad 17), .int (nI wo), .ref (ad 18), .ref (ad 19)]) := by rw [hen_1140]; exact va_up_self _ _ _
  have hI_1140 : RX cy cs ad en_1140 := by rw [hen_1140]; exact upr_M hI ⟨0, hi, wd, mo, tb, dp, many, grt, lst, nou, rm, rb, pr, wo, rfl, hwd2, hwd3, hmo, htb, hwo⟩
  have hf_1140 : ∀ c, (c ≠ 0 ∧ c ≠ 5) → en_1140 c = en c := fun c hc => Eq.trans (show en_1140 c = en c from by rw [hen_1140, va_up_ne _ _ (by omega)]) (hf0 c hc)
  have hkc5_1140 : en_1140 5 = en 5 := (show en_1140 5 = en 5 from by rw [hen_1140, va_up_ne _ _ (by decide)]).trans rfl
  have hkp_1140 : KP en en_1140 := KP_fv (KP_rf en) es1136 es1136_1140 hi (nI wd) (nI mo) (nI tb) pr (nI wo) rfl rfl rfl rfl rfl rfl rfl rfl rfl rfl rfl rfl
  refine lv_iload_n hx hb dX12_put_5 rfl (lv_at hl 1 rfl) ?_
  refine lv_i2l hx hb dX12_put_6 rfl ?_
  refine lv_lconst (v := 0) hx hb dX12_put_7 (by decide) ?_
  refine lv_ldc2 hx hb hown (hts _ tw_984) dX12_put_8 ?_
  refine hp_callRi (va_runS (As := [.long k9.toInt64, .long 0, .long 3]) (rest := []) ⟨hx, hb, hml, hown, hts⟩ (c_X12_within l D cy _ cs ad en_1140 k9.toInt64 0 3) (kw_X12_within hts tw_985 ⟨by decide, by decide⟩) (preS_of hh hK) rfl rfl hl.1 rfl (lv_room (Nat.le_of_ble_eq_true rfl)) dX12_put_11 ⟨Nat.le_of_ble_eq_true rfl, Nat.le_of_ble_eq_true rfl⟩) hh hA (fun r_1141 H locs hw_1141 hh => ?_)
  rcases Decidable.em (wi k9 0 3) with hp_1141 | hp_1141
  · obtain rfl : r_1141 = 1 := Eq.trans hw_1141 (if_pos ((wj_32 (by decide) (by decide)).mpr hp_1141))
    obtain ⟨N_1141, rfl, hA_1141, hB_1141⟩ := wi_natB hp_1141 0 3 (by decide) (by decide)
    refine lv_if_ne (tgt := 19) hx hb dX12_put_14 (by decide) (fun _ => ?_) (fun c_0 => absurd c_0 (by decide))
    refine lv_aload_n hx hb dX12_put_19 rfl (lv_at hl 0 rfl) ?_
    refine hp_get hx hb hts ix12 hown hK hh (q := 0) rfl (hI.1 _ (by decide)) es1136_1140 rfl 7 (by decide) (hts _ tw_886) (fun _ h9 => h9) rfl dX12_put_20 ?_
    refine lv_iload_n hx hb dX12_put_23 rfl (lv_at hl 1 rfl) ?_
    refine hp_iald hx hb hK hh (q := 3) rfl (hI.1 _ (by decide)) es1137_1140 (vp_in_nI (n := N_1141) (by omega) (by decide)) dX12_put_24 ?_
    rw [nI_clamp (n := N_1141) (by omega)]
    refine lv_bipush (v := (-9)) hx hb dX12_put_25 (by decide) ?_
    refine lv_icmp_ne (tgt := 36) hx hb dX12_put_27 (by decide) (fun c_1142 => ?_) (fun c_1142 => ?_)
    · refine lv_iload_n hx hb dX12_put_36 rfl (lv_at hl 2 rfl) ?_
      refine lv_i2l hx hb dX12_put_37 rfl ?_
      refine lv_lconst (v := 0) hx hb dX12_put_38 (by decide) ?_
      refine lv_aload_n hx hb dX12_put_39 rfl (lv_at hl 0 rfl) ?_
      refine hp_get hx hb hts ix12 hown hK hh (q := 0) rfl (hI.1 _ (by decide)) es1136_1140 rfl 8 (by decide) (hts _ tw_887) (fun _ h9 => h9) rfl dX12_put_40 ?_
      refine lv_iload_n hx hb dX12_put_43 rfl (lv_at hl 1 rfl) ?_
      refine hp_iald hx hb hK hh (q := 4) rfl (hI.1 _ (by decide)) es1138_1140 (vp_in_nI (n := N_1141) (by omega) (by decide)) dX12_put_44 ?_
      rw [nI_clamp (n := N_1141) (by omega)]
      obtain ⟨v_1143, hv_1143, hfv_1143⟩ := p0_1138 N_1141 (by omega)
      rw [hfv_1143]
      refine lv_i2l hx hb dX12_put_45 rfl ?_
      refine lv_lconst (v := 1) hx hb dX12_put_46 (by decide) ?_
      refine lv_lsub hx hb dX12_put_47 ?_
      refine hp_callRi (va_runS (As := [.long i9.toInt64, .long 0, .long ((nI v_1143).toInt64 - 1)]) (rest := []) ⟨hx, hb, hml, hown, hts⟩ (c_X12_within l D cy _ cs ad en_1140 i9.toInt64 0 ((nI v_1143).toInt64 - 1)) (kw_X12_within hts tw_985 ⟨by decide, by decide⟩) (preS_of hh hK) rfl rfl hl.1 rfl (lv_room (Nat.le_of_ble_eq_true rfl)) dX12_put_48 ⟨Nat.le_of_ble_eq_true rfl, Nat.le_of_ble_eq_true rfl⟩) hh hA (fun r_1144 H locs hw_1144 hh => ?_)
      rcases Decidable.em (0 ≤ i9.toInt ∧ i9.toInt < (v_1143 : Int)) with hp_1144 | hp_1144
      · obtain rfl : r_1144 = 1 := Eq.trans hw_1144 (if_pos ((wj_m1 (by omega)).mpr hp_1144))
        obtain ⟨N_1144, rfl, hB_1144⟩ := has_nat hp_1144
        refine lv_if_ne (tgt := 60) hx hb dX12_put_51 (by decide) (fun _ => ?_) (fun c_0 => absurd c_0 (by decide))
        refine lv_aload_n hx hb dX12_put_60 rfl (lv_at hl 0 rfl) ?_
        refine hp_get hx hb hts ix12 hown hK hh (q := 0) rfl (hI.1 _ (by decide)) es1136_1140 rfl 9 (by decide) (hts _ tw_888) (fun _ h9 => h9) rfl dX12_put_61 ?_
        refine lv_bipush (v := 40) hx hb dX12_put_64 (by decide) ?_
        refine lv_iload_n hx hb dX12_put_66 rfl (lv_at hl 1 rfl) ?_
        refine lv_imul hx hb dX12_put_67 ?_
        rw [show (40 : Int32) = nI 40 from rfl, pk_mul 40 N_1141]
        refine lv_iload_n hx hb dX12_put_68 rfl (lv_at hl 2 rfl) ?_
        refine lv_iadd hx hb dX12_put_69 ?_
        rw [nI_add (40 * N_1141) N_1144]
        refine lv_aload_n hx hb dX12_put_70 rfl (lv_at hl 0 rfl) ?_
        refine hp_get hx hb hts ix12 hown hK hh (q := 0) rfl (hI.1 _ (by decide)) es1136_1140 rfl 7 (by decide) (hts _ tw_886) (fun _ h9 => h9) rfl dX12_put_71 ?_
        refine lv_iload_n hx hb dX12_put_74 rfl (lv_at hl 1 rfl) ?_
        refine hp_iald hx hb hK hh (q := 3) rfl (hI.1 _ (by decide)) es1137_1140 (vp_in_nI (n := N_1141) (by omega) (by decide)) dX12_put_75 ?_
        rw [nI_clamp (n := N_1141) (by omega)]
        refine lv_if_ne (tgt := 84) hx hb dX12_put_76 (by decide) (fun c_1145 => ?_) (fun c_1145 => ?_)
        · refine lv_aload_n hx hb dX12_put_84 rfl (lv_at hl 0 rfl) ?_
          refine hp_get hx hb hts ix12 hown hK hh (q := 0) rfl (hI.1 _ (by decide)) es1136_1140 rfl 7 (by decide) (hts _ tw_886) (fun _ h9 => h9) rfl dX12_put_85 ?_
          refine lv_iload_n hx hb dX12_put_88 rfl (lv_at hl 1 rfl) ?_
          refine hp_iald hx hb hK hh (q := 3) rfl (hI.1 _ (by decide)) es1137_1140 (vp_in_nI (n := N_1141) (by omega) (by decide)) dX12_put_89 ?_
          rw [nI_clamp (n := N_1141) (by omega)]
          refine lv_iconst (v := 1) hx hb dX12_put_90 (by decide) ?_
          refine lv_icmp_ne (tgt := 99) hx hb dX12_put_91 (by decide) (fun c_1146 => ?_) (fun c_1146 => ?_)
          · refine lv_iload_n hx hb dX12_put_99 rfl (lv_at hl 3 rfl) ?_
            refine hp_iast hx hb hK hh (q := 5) rfl (hI.1 _ (by decide)) es1139_1140 (vp_in_nI (n := ((40 * N_1141) + N_1144)) (by omega) (by decide)) dX12_put_100 (fun H locs en_1147 hen_1147 hh => ?_)
            rw [nI_clamp (n := ((40 * N_1141) + N_1144)) (by omega)] at hen_1147
            have es1137_1147 : en_1147 3 = .inl (cy 0, 4, .inl f_1137) := by rw [hen_1147, va_up_ne _ _ (by decide)]; exact es1137_1140
            have es1138_1147 : en_1147 4 = .inl (cy 0, 4, .inl f_1138) := by rw [hen_1147, va_up_ne _ _ (by decide)]; exact es1138_1140
            have es1136_1147 : en_1147 0 = .inr (11, [.int 0, .int hi, .int (nI wd), .int (nI mo), .int (nI tb), .ref (ad 1), .ref (ad 2), .ref (ad 3), .ref (ad 4), .ref (ad 5), .ref (ad 6), .ref (ad 7), .ref (ad 8), .ref (ad 9), .int dp, .long many, .long grt, .long lst, .long nou, .ref (ad 10), .ref (ad 11), .ref (ad 12), .int rm, .long rb, .ref (ad 13), .int pr, .ref (ad 14), .ref (ad 15), .ref (ad 16), .ref (ad 17), .int (nI wo), .ref (ad 18), .ref (ad 19)]) := by rw [hen_1147, va_up_ne _ _ (by decide)]; exact es1136_1140
            have es1139_1147 : en_1147 5 = .inl (cy 0, 160, .inl (upd f_1139 ((40 * N_1141) + N_1144) v9)) := by rw [hen_1147]; exact va_up_self _ _ _
            have hI_1147 : RX cy cs ad en_1147 := by rw [hen_1147]; exact upr_ce hI_1140 ⟨(upd f_1139 ((40 * N_1141) + N_1144) v9), rfl⟩
            have hf_1147 : ∀ c, (c ≠ 0 ∧ c ≠ 5) → en_1147 c = en c := fun c hc => Eq.trans (show en_1147 c = en_1140 c from by rw [hen_1147, va_up_ne _ _ (by omega)]) (hf_1140 c hc)
            have hkp_1147 : KP en en_1147 := KP_same hkp_1140 (show en_1147 0 = en_1140 0 from by rw [hen_1147, va_up_ne _ _ (by decide)])
            refine lv_iconst (v := 1) hx hb dX12_put_101 (by decide) ?_
            exact hp_iretM hx hb hr rfl hlocks hh (⟨hI_1147, hf_1147, ⟨(by (try rw [nI_clamp (n := N_1141) (by omega)]); rw [show rdF (en 3) = f_1137 from by rw [es1137]; rfl, show rdF (en 4) = f_1138 from by rw [es1138]; rfl]; unfold putR; rw [if_pos hp_1141, if_neg c_1142, hfv_1143, nI_toInt (n := v_1143) (by omega), if_pos hp_1144]), Or.inr ⟨rfl, N_1141, N_1144, rfl, rfl, by omega, by omega, (by rw [es1139_1147, show rdF (en 5) = f_1139 from by rw [es1139]; rfl, show rdF (en 3) = f_1137 from by rw [es1137]; rfl]; unfold narV; rw [if_neg c_1145, if_neg c_1146]; rfl)⟩⟩, hkp_1147⟩) dX12_put_102
          · refine lv_iload_n hx hb dX12_put_94 rfl (lv_at hl 3 rfl) ?_
            refine lv_i2s hx hb dX12_put_95 rfl ?_
            refine lv_goto (tgt := 100) hx hb dX12_put_96 (by decide) ?_
            refine hp_iast hx hb hK hh (q := 5) rfl (hI.1 _ (by decide)) es1139_1140 (vp_in_nI (n := ((40 * N_1141) + N_1144)) (by omega) (by decide)) dX12_put_100 (fun H locs en_1148 hen_1148 hh => ?_)
            rw [nI_clamp (n := ((40 * N_1141) + N_1144)) (by omega)] at hen_1148
            have es1137_1148 : en_1148 3 = .inl (cy 0, 4, .inl f_1137) := by rw [hen_1148, va_up_ne _ _ (by decide)]; exact es1137_1140
            have es1138_1148 : en_1148 4 = .inl (cy 0, 4, .inl f_1138) := by rw [hen_1148, va_up_ne _ _ (by decide)]; exact es1138_1140
            have es1136_1148 : en_1148 0 = .inr (11, [.int 0, .int hi, .int (nI wd), .int (nI mo), .int (nI tb), .ref (ad 1), .ref (ad 2), .ref (ad 3), .ref (ad 4), .ref (ad 5), .ref (ad 6), .ref (ad 7), .ref (ad 8), .ref (ad 9), .int dp, .long many, .long grt, .long lst, .long nou, .ref (ad 10), .ref (ad 11), .ref (ad 12), .int rm, .long rb, .ref (ad 13), .int pr, .ref (ad 14), .ref (ad 15), .ref (ad 16), .ref (ad 17), .int (nI wo), .ref (ad 18), .ref (ad 19)]) := by rw [hen_1148, va_up_ne _ _ (by decide)]; exact es1136_1140
            have es1139_1148 : en_1148 5 = .inl (cy 0, 160, .inl (upd f_1139 ((40 * N_1141) + N_1144) v9.toInt16.toInt32)) := by rw [hen_1148]; exact va_up_self _ _ _
            have hI_1148 : RX cy cs ad en_1148 := by rw [hen_1148]; exact upr_ce hI_1140 ⟨(upd f_1139 ((40 * N_1141) + N_1144) v9.toInt16.toInt32), rfl⟩
            have hf_1148 : ∀ c, (c ≠ 0 ∧ c ≠ 5) → en_1148 c = en c := fun c hc => Eq.trans (show en_1148 c = en_1140 c from by rw [hen_1148, va_up_ne _ _ (by omega)]) (hf_1140 c hc)
            have hkp_1148 : KP en en_1148 := KP_same hkp_1140 (show en_1148 0 = en_1140 0 from by rw [hen_1148, va_up_ne _ _ (by decide)])
            refine lv_iconst (v := 1) hx hb dX12_put_101 (by decide) ?_
            exact hp_iretM hx hb hr rfl hlocks hh (⟨hI_1148, hf_1148, ⟨(by (try rw [nI_clamp (n := N_1141) (by omega)]); rw [show rdF (en 3) = f_1137 from by rw [es1137]; rfl, show rdF (en 4) = f_1138 from by rw [es1138]; rfl]; unfold putR; rw [if_pos hp_1141, if_neg c_1142, hfv_1143, nI_toInt (n := v_1143) (by omega), if_pos hp_1144]), Or.inr ⟨rfl, N_1141, N_1144, rfl, rfl, by omega, by omega, (by rw [es1139_1148, show rdF (en 5) = f_1139 from by rw [es1139]; rfl, show rdF (en 3) = f_1137 from by rw [es1137]; rfl]; unfold narV; rw [if_neg c_1145, if_pos c_1146]; rfl)⟩⟩, hkp_1148⟩) dX12_put_102
        · refine lv_iload_n hx hb dX12_put_79 rfl (lv_at hl 3 rfl) ?_
          refine lv_i2b hx hb dX12_put_80 rfl ?_
          refine lv_goto (tgt := 100) hx hb dX12_put_81 (by decide) ?_
          refine hp_iast hx hb hK hh (q := 5) rfl (hI.1 _ (by decide)) es1139_1140 (vp_in_nI (n := ((40 * N_1141) + N_1144)) (by omega) (by decide)) dX12_put_100 (fun H locs en_1149 hen_1149 hh => ?_)
          rw [nI_clamp (n := ((40 * N_1141) + N_1144)) (by omega)] at hen_1149
          have es1137_1149 : en_1149 3 = .inl (cy 0, 4, .inl f_1137) := by rw [hen_1149, va_up_ne _ _ (by decide)]; exact es1137_1140
          have es1138_1149 : en_1149 4 = .inl (cy 0, 4, .inl f_1138) := by rw [hen_1149, va_up_ne _ _ (by decide)]; exact es1138_1140
          have es1136_1149 : en_1149 0 = .inr (11, [.int 0, .int hi, .int (nI wd), .int (nI mo), .int (nI tb), .ref (ad 1), .ref (ad 2), .ref (ad 3), .ref (ad 4), .ref (ad 5), .ref (ad 6), .ref (ad 7), .ref (ad 8), .ref (ad 9), .int dp, .long many, .long grt, .long lst, .long nou, .ref (ad 10), .ref (ad 11), .ref (ad 12), .int rm, .long rb, .ref (ad 13), .int pr, .ref (ad 14), .ref (ad 15), .ref (ad 16), .ref (ad 17), .int (nI wo), .ref (ad 18), .ref (ad 19)]) := by rw [hen_1149, va_up_ne _ _ (by decide)]; exact es1136_1140
          have es1139_1149 : en_1149 5 = .inl (cy 0, 160, .inl (upd f_1139 ((40 * N_1141) + N_1144) v9.toInt8.toInt32)) := by rw [hen_1149]; exact va_up_self _ _ _
          have hI_1149 : RX cy cs ad en_1149 := by rw [hen_1149]; exact upr_ce hI_1140 ⟨(upd f_1139 ((40 * N_1141) + N_1144) v9.toInt8.toInt32), rfl⟩
          have hf_1149 : ∀ c, (c ≠ 0 ∧ c ≠ 5) → en_1149 c = en c := fun c hc => Eq.trans (show en_1149 c = en_1140 c from by rw [hen_1149, va_up_ne _ _ (by omega)]) (hf_1140 c hc)
          have hkp_1149 : KP en en_1149 := KP_same hkp_1140 (show en_1149 0 = en_1140 0 from by rw [hen_1149, va_up_ne _ _ (by decide)])
          refine lv_iconst (v := 1) hx hb dX12_put_101 (by decide) ?_
          exact hp_iretM hx hb hr rfl hlocks hh (⟨hI_1149, hf_1149, ⟨(by (try rw [nI_clamp (n := N_1141) (by omega)]); rw [show rdF (en 3) = f_1137 from by rw [es1137]; rfl, show rdF (en 4) = f_1138 from by rw [es1138]; rfl]; unfold putR; rw [if_pos hp_1141, if_neg c_1142, hfv_1143, nI_toInt (n := v_1143) (by omega), if_pos hp_1144]), Or.inr ⟨rfl, N_1141, N_1144, rfl, rfl, by omega, by omega, (by rw [es1139_1149, show rdF (en 5) = f_1139 from by rw [es1139]; rfl, show rdF (en 3) = f_1137 from by rw [es1137]; rfl]; unfold narV; rw [if_pos c_1145]; rfl)⟩⟩, hkp_1149⟩) dX12_put_102
      · obtain rfl : r_1144 = 0 := Eq.trans hw_1144 (if_neg (fun q => hp_1144 ((wj_m1 (by omega)).mp q)))
        refine lv_if_ne (tgt := 60) hx hb dX12_put_51 (by decide) (fun c_0 => absurd c_0 (by decide)) (fun _ => ?_)
        refine lv_aload_n hx hb dX12_put_54 rfl (lv_at hl 0 rfl) ?_
        refine lv_iconst (v := 3) hx hb dX12_put_55 (by decide) ?_
        refine hp_callMi (va_runV (As := [.int 3]) (rest := []) ⟨hx, hb, hml, hown, hts⟩ (c_X12_fails l D cy _ cs ad en_1140 (hI.1 _ (by decide)) 0 hi wd mo tb dp many grt lst nou rm rb pr wo 3 es1136_1140) (kw_X12_fails hts tw_997 ⟨by decide, by decide⟩) (preV_of hh hK (hI.1 _ (by decide)) es1136_1140 rfl) rfl rfl hl.1 rfl (lv_room (Nat.le_of_ble_eq_true rfl)) dX12_put_56 ⟨Nat.le_of_ble_eq_true rfl, Nat.le_of_ble_eq_true rfl⟩) hh hA (fun r_1150 H locs en_1150 hw_1150 hh => ?_)
        obtain ⟨hr_1150, hen_1150⟩ := hw_1150
        have es1137_1150 : en_1150 3 = .inl (cy 0, 4, .inl f_1137) := by rw [hen_1150, va_up_ne _ _ (by decide)]; exact es1137_1140
        have es1138_1150 : en_1150 4 = .inl (cy 0, 4, .inl f_1138) := by rw [hen_1150, va_up_ne _ _ (by decide)]; exact es1138_1140
        have es1139_1150 : en_1150 5 = .inl (cy 0, 160, .inl f_1139) := by rw [hen_1150, va_up_ne _ _ (by decide)]; exact es1139_1140
        have es1136_1150 : en_1150 0 = .inr (11, [.int 3, .int hi, .int (nI wd), .int (nI mo), .int (nI tb), .ref (ad 1), .ref (ad 2), .ref (ad 3), .ref (ad 4), .ref (ad 5), .ref (ad 6), .ref (ad 7), .ref (ad 8), .ref (ad 9), .int dp, .long many, .long grt, .long lst, .long nou, .ref (ad 10), .ref (ad 11), .ref (ad 12), .int rm, .long rb, .ref (ad 13), .int pr, .ref (ad 14), .ref (ad 15), .ref (ad 16), .ref (ad 17), .int (nI wo), .ref (ad 18), .ref (ad 19)]) := by rw [hen_1150]; exact va_up_self _ _ _
        have hI_1150 : RX cy cs ad en_1150 := by rw [hen_1150]; exact upr_M hI_1140 ⟨3, hi, wd, mo, tb, dp, many, grt, lst, nou, rm, rb, pr, wo, rfl, hwd2, hwd3, hmo, htb, hwo⟩
        have hf_1150 : ∀ c, (c ≠ 0 ∧ c ≠ 5) → en_1150 c = en c := fun c hc => Eq.trans (show en_1150 c = en_1140 c from by rw [hen_1150, va_up_ne _ _ (by omega)]) (hf_1140 c hc)
        have hkc5_1150 : en_1150 5 = en 5 := (show en_1150 5 = en_1140 5 from by rw [hen_1150, va_up_ne _ _ (by decide)]).trans hkc5_1140
        have hkp_1150 : KP en en_1150 := KP_fv hkp_1140 es1136_1140 es1136_1150 hi (nI wd) (nI mo) (nI tb) pr (nI wo) rfl rfl rfl rfl rfl rfl rfl rfl rfl rfl rfl rfl
        obtain rfl : r_1150 = (-13) := hr_1150.trans (by decide)
        exact hp_iretM hx hb hr rfl hlocks hh (⟨hI_1150, hf_1150, ⟨(by (try rw [nI_clamp (n := N_1141) (by omega)]); rw [show rdF (en 3) = f_1137 from by rw [es1137]; rfl, show rdF (en 4) = f_1138 from by rw [es1138]; rfl]; unfold putR; rw [if_pos hp_1141, if_neg c_1142, hfv_1143, nI_toInt (n := v_1143) (by omega), if_neg hp_1144]), Or.inl ⟨by decide, hkc5_1150⟩⟩, hkp_1150⟩) dX12_put_59
    · refine lv_aload_n hx hb dX12_put_30 rfl (lv_at hl 0 rfl) ?_
      refine lv_iconst (v := 1) hx hb dX12_put_31 (by decide) ?_
      refine hp_callMi (va_runV (As := [.int 1]) (rest := []) ⟨hx, hb, hml, hown, hts⟩ (c_X12_fails l D cy _ cs ad en_1140 (hI.1 _ (by decide)) 0 hi wd mo tb dp many grt lst nou rm rb pr wo 1 es1136_1140) (kw_X12_fails hts tw_997 ⟨by decide, by decide⟩) (preV_of hh hK (hI.1 _ (by decide)) es1136_1140 rfl) rfl rfl hl.1 rfl (lv_room (Nat.le_of_ble_eq_true rfl)) dX12_put_32 ⟨Nat.le_of_ble_eq_true rfl, Nat.le_of_ble_eq_true rfl⟩) hh hA (fun r_1151 H locs en_1151 hw_1151 hh => ?_)
      obtain ⟨hr_1151, hen_1151⟩ := hw_1151
      have es1137_1151 : en_1151 3 = .inl (cy 0, 4, .inl f_1137) := by rw [hen_1151, va_up_ne _ _ (by decide)]; exact es1137_1140
      have es1138_1151 : en_1151 4 = .inl (cy 0, 4, .inl f_1138) := by rw [hen_1151, va_up_ne _ _ (by decide)]; exact es1138_1140
      have es1139_1151 : en_1151 5 = .inl (cy 0, 160, .inl f_1139) := by rw [hen_1151, va_up_ne _ _ (by decide)]; exact es1139_1140
      have es1136_1151 : en_1151 0 = .inr (11, [.int 1, .int hi, .int (nI wd), .int (nI mo), .int (nI tb), .ref (ad 1), .ref (ad 2), .ref (ad 3), .ref (ad 4), .ref (ad 5), .ref (ad 6), .ref (ad 7), .ref (ad 8), .ref (ad 9), .int dp, .long many, .long grt, .long lst, .long nou, .ref (ad 10), .ref (ad 11), .ref (ad 12), .int rm, .long rb, .ref (ad 13), .int pr, .ref (ad 14), .ref (ad 15), .ref (ad 16), .ref (ad 17), .int (nI wo), .ref (ad 18), .ref (ad 19)]) := by rw [hen_1151]; exact va_up_self _ _ _
      have hI_1151 : RX cy cs ad en_1151 := by rw [hen_1151]; exact upr_M hI_1140 ⟨1, hi, wd, mo, tb, dp, many, grt, lst, nou, rm, rb, pr, wo, rfl, hwd2, hwd3, hmo, htb, hwo⟩
      have hf_1151 : ∀ c, (c ≠ 0 ∧ c ≠ 5) → en_1151 c = en c := fun c hc => Eq.trans (show en_1151 c = en_1140 c from by rw [hen_1151, va_up_ne _ _ (by omega)]) (hf_1140 c hc)
      have hkc5_1151 : en_1151 5 = en 5 := (show en_1151 5 = en_1140 5 from by rw [hen_1151, va_up_ne _ _ (by decide)]).trans hkc5_1140
      have hkp_1151 : KP en en_1151 := KP_fv hkp_1140 es1136_1140 es1136_1151 hi (nI wd) (nI mo) (nI tb) pr (nI wo) rfl rfl rfl rfl rfl rfl rfl rfl rfl rfl rfl rfl
      obtain rfl : r_1151 = (-11) := hr_1151.trans (by decide)
      exact hp_iretM hx hb hr rfl hlocks hh (⟨hI_1151, hf_1151, ⟨(by (try rw [nI_clamp (n := N_1141) (by omega)]); rw [show rdF (en 3) = f_1137 from by rw [es1137]; rfl, show rdF (en 4) = f_1138 from by rw [es1138]; rfl]; unfold putR; rw [if_pos hp_1141, if_pos c_1142]), Or.inl ⟨by decide, hkc5_1151⟩⟩, hkp_1151⟩) dX12_put_35
  · obtain rfl : r_1141 = 0 := Eq.trans hw_1141 (if_neg (fun q => hp_1141 ((wj_32 (by decide) (by decide)).mp q)))
    refine lv_if_ne (tgt := 19) hx hb dX12_put_14 (by decide) (fun c_0 => absurd c_0 (by decide)) (fun _ => ?_)
    refine lv_iconst (v := (-1)) hx hb dX12_put_17 (by decide) ?_
    exact hp_iretM hx hb hr rfl hlocks hh (⟨hI_1140, hf_1140, ⟨(by unfold putR; rw [if_neg hp_1141]), Or.inl ⟨by decide, hkc5_1140⟩⟩, hkp_1140⟩) dX12_put_18
theorem kw_X12_put {R : Room} {s : State} {args : Array Value} {own : String} {idx : Nat} (hts : ∀ w ∈ TB, w.before args s = true) (hl : Cond.methodLink own idx yX12_put ∈ TB) (hR : 1 + 1 ≤ R.frames ∧ 8 + (4 + 11) + 40 * 1 ≤ R.locals) : CallW R s args own RX12 idx yX12_put cX12_put 4 (some .int) (Cond.code yX12_put cX12_put 4 (some .int) :: TB) (rmN 1) 0 0 3 := cwV 3 hts (TB_V hl tw_1208 tw_1209 tw_9 tw_1210) rfl rfl rfl (by decide +kernel) hR
set_option maxHeartbeats 4000000 in
set_option maxRecDepth 100000 in
/-- at -/
theorem c_X12_at (l : Launch) (D : va_G) (cy : Nat → ClassId) (sz : Nat) (cs : List Nat) (ad : Nat → Nat) (en : Nat → va_E) (hI : RX cy cs ad en) (k9 i9 la9 : Int32)   : Met l yX12_at (Cond.code yX12_at cX12_at 4 (some .long) :: TB) (rmN 1) (va_Pc [.ref (ad 0), .int k9, .int i9, .int la9] (Pre D cy cs ad en sz)) (va_Ql (S := Nat → va_E) (fun r en1 => RX cy cs ad en1 ∧ (∀ c, (c ≠ 0) → en1 c = en c) ∧ RAT k9 i9 la9 r en ∧ KP en en1) (PostM D cs ad) (Af cs ad sz)) 0 0 (Af cs ad sz) := by
  refine Met.ofW (cc := cX12_at) (maxL := 4) (ret := (some .long)) (by decide) rfl ?_
  intro p e s m args below meth c s₁ B hml hv
  obtain ⟨rfl, hsz, hP, hK, hD0⟩ := hv
  have hx := B.exec
  have hb := B.bytes
  have hr := B.returns
  have hts : ∀ w ∈ TB, w.before _ s = true := fun w h => atoms_spec (ws := _ :: TB) B.pre w (List.mem_cons_of_mem _ h)
  have hown : s.vm.findClass RX12 = some m.cls := findClass_of_methodNamed B.named
  have hlocks := B.notSynchronized
  have hh : Hp D (Af cs ad sz) (Af cs ad sz) s.heap s.heap [] cs ad en := ⟨hP, Af_self hD0, va_S.rf⟩
  have hA : ∀ q : Nat, s.heap.size ≤ q → Af cs ad sz q := fun q h => Or.inr (by rw [hsz] at h; exact h)
  have hl := lv_entry ([.ref (ad 0), .int k9, .int i9, .int la9]) (n := 4) (Nat.le_of_ble_eq_true rfl)
  rw [lg_entry_eq]
  generalize (lg_sl ([.ref (ad 0), .int k9, .int i9, .int la9]) ++ List.replicate (4 - (lg_sl ([.ref (ad 0), .int k9, .int i9, .int la9])).length) Slot.unset).toArray = ls at hl ⊢
  have hl : lv_has ls 4 [(0, .ref (ad 0)), (1, .int k9), (2, .int i9), (3, .int la9)] := hl
  have hf0 : ∀ c, (c ≠ 0) → en c = en c := fun _ _ => rfl
  obtain ⟨fa, hi, wd, mo, tb, dp, many, grt, lst, nou, rm, rb, pr, wo, es1152, hwd2, hwd3, hmo, htb, hwo⟩ := getr_M hI
  obtain ⟨f_1153, es1153⟩ := getr_la hI
  obtain ⟨f_1154, es1154, p0_1154⟩ := getr_sl hI
  obtain ⟨f_1155, es1155⟩ := getr_ce hI
  refine lv_aload_n hx hb dX12_at_0 rfl (lv_at hl 0 rfl) ?_
  refine lv_iconst (v := 0) hx hb dX12_at_1 (by decide) ?_
  refine hp_put hx hb hts ix12 tyX12 tyX12_ok nmX12 hown hK hh (q := 0) rfl (hI.1 _ (by decide)) es1152 rfl 0 (by decide) (hts _ tw_879) (fun _ h9 => h9) rfl (ty := .int) (by decide +kernel) rfl rfl (Nat.le_of_ble_eq_true rfl) dX12_at_2 (fun H locs en_1156 hen_1156 hh => ?_)
  have es1153_1156 : en_1156 3 = .inl (cy 0, 4, .inl f_1153) := by rw [hen_1156, va_up_ne _ _ (by decide)]; exact es1153
  have es1154_1156 : en_1156 4 = .inl (cy 0, 4, .inl f_1154) := by rw [hen_1156, va_up_ne _ _ (by decide)]; exact es1154
  have es1155_1156 : en_1156 5 = .inl (cy 0, 160, .inl f_1155) := by rw [hen_1156, va_up_ne _ _ (by decide)]; exact es1155
  have es1152_1156 : en_1156 0 = .inr (11, [.int 0, .int hi, .int (nI wd), .int (nI mo), .int (nI tb), .ref (ad 1), .ref (ad 2), .ref (ad 3), .ref (ad 4), .ref (ad 5), .ref (ad 6), .ref (ad 7), .ref (ad 8), .ref (ad 9), .int dp, .long many, .long grt, .long lst, .long nou, .ref (ad 10), .ref (ad 11), .ref (ad 12), .int rm, .long rb, .ref (ad 13), .int pr, .ref (ad 14), .ref (ad 15), .ref (ad 16), .ref (ad 17), .int (nI wo), .ref (ad 18), .ref (ad 19)]) := by rw [hen_1156]; exact va_up_self _ _ _
  have hI_1156 : RX cy cs ad en_1156 := by rw [hen_1156]; exact upr_M hI ⟨0, hi, wd, mo, tb, dp, many, grt, lst, nou, rm, rb, pr, wo, rfl, hwd2, hwd3, hmo, htb, hwo⟩
  have hf_1156 : ∀ c, (c ≠ 0) → en_1156 c = en c := fun c hc => Eq.trans (show en_1156 c = en c from by rw [hen_1156, va_up_ne _ _ (by omega)]) (hf0 c hc)
  have hkp_1156 : KP en en_1156 := KP_fv (KP_rf en) es1152 es1152_1156 hi (nI wd) (nI mo) (nI tb) pr (nI wo) rfl rfl rfl rfl rfl rfl rfl rfl rfl rfl rfl rfl
  refine lv_iload_n hx hb dX12_at_5 rfl (lv_at hl 1 rfl) ?_
  refine lv_i2l hx hb dX12_at_6 rfl ?_
  refine lv_lconst (v := 0) hx hb dX12_at_7 (by decide) ?_
  refine lv_ldc2 hx hb hown (hts _ tw_984) dX12_at_8 ?_
  refine hp_callRi (va_runS (As := [.long k9.toInt64, .long 0, .long 3]) (rest := []) ⟨hx, hb, hml, hown, hts⟩ (c_X12_within l D cy _ cs ad en_1156 k9.toInt64 0 3) (kw_X12_within hts tw_985 ⟨by decide, by decide⟩) (preS_of hh hK) rfl rfl hl.1 rfl (lv_room (Nat.le_of_ble_eq_true rfl)) dX12_at_11 ⟨Nat.le_of_ble_eq_true rfl, Nat.le_of_ble_eq_true rfl⟩) hh hA (fun r_1157 H locs hw_1157 hh => ?_)
  rcases Decidable.em (wi k9 0 3) with hp_1157 | hp_1157
  · obtain rfl : r_1157 = 1 := Eq.trans hw_1157 (if_pos ((wj_32 (by decide) (by decide)).mpr hp_1157))
    obtain ⟨N_1157, rfl, hA_1157, hB_1157⟩ := wi_natB hp_1157 0 3 (by decide) (by decide)
    refine lv_if_eq (tgt := 29) hx hb dX12_at_14 (by decide) (fun c_0 => absurd c_0 (by decide)) (fun _ => ?_)
    refine lv_iload_n hx hb dX12_at_17 rfl (lv_at hl 3 rfl) ?_
    refine lv_i2l hx hb dX12_at_18 rfl ?_
    refine lv_lconst (v := 0) hx hb dX12_at_19 (by decide) ?_
    refine lv_ldc2 hx hb hown (hts _ tw_983) dX12_at_20 ?_
    refine hp_callRi (va_runS (As := [.long la9.toInt64, .long 0, .long 2]) (rest := []) ⟨hx, hb, hml, hown, hts⟩ (c_X12_within l D cy _ cs ad en_1156 la9.toInt64 0 2) (kw_X12_within hts tw_985 ⟨by decide, by decide⟩) (preS_of hh hK) rfl rfl hl.1 rfl (lv_room (Nat.le_of_ble_eq_true rfl)) dX12_at_23 ⟨Nat.le_of_ble_eq_true rfl, Nat.le_of_ble_eq_true rfl⟩) hh hA (fun r_1158 H locs hw_1158 hh => ?_)
    rcases Decidable.em (wi la9 0 2) with hp_1158 | hp_1158
    · obtain rfl : r_1158 = 1 := Eq.trans hw_1158 (if_pos ((wj_32 (by decide) (by decide)).mpr hp_1158))
      obtain ⟨N_1158, rfl, hA_1158, hB_1158⟩ := wi_natB hp_1158 0 2 (by decide) (by decide)
      refine lv_if_ne (tgt := 33) hx hb dX12_at_26 (by decide) (fun _ => ?_) (fun c_0 => absurd c_0 (by decide))
      refine lv_aload_n hx hb dX12_at_33 rfl (lv_at hl 0 rfl) ?_
      refine hp_get hx hb hts ix12 hown hK hh (q := 0) rfl (hI.1 _ (by decide)) es1152_1156 rfl 7 (by decide) (hts _ tw_886) (fun _ h9 => h9) rfl dX12_at_34 ?_
      refine lv_iload_n hx hb dX12_at_37 rfl (lv_at hl 1 rfl) ?_
      refine hp_iald hx hb hK hh (q := 3) rfl (hI.1 _ (by decide)) es1153_1156 (vp_in_nI (n := N_1157) (by omega) (by decide)) dX12_at_38 ?_
      rw [nI_clamp (n := N_1157) (by omega)]
      refine lv_bipush (v := (-9)) hx hb dX12_at_39 (by decide) ?_
      refine lv_icmp_eq (tgt := 60) hx hb dX12_at_41 (by decide) (fun c_1159 => ?_) (fun c_1159 => ?_)
      · refine lv_aload_n hx hb dX12_at_60 rfl (lv_at hl 0 rfl) ?_
        refine hp_get hx hb hts ix12 hown hK hh (q := 0) rfl (hI.1 _ (by decide)) es1152_1156 rfl 7 (by decide) (hts _ tw_886) (fun _ h9 => h9) rfl dX12_at_61 ?_
        refine lv_iload_n hx hb dX12_at_64 rfl (lv_at hl 1 rfl) ?_
        refine hp_iald hx hb hK hh (q := 3) rfl (hI.1 _ (by decide)) es1153_1156 (vp_in_nI (n := N_1157) (by omega) (by decide)) dX12_at_65 ?_
        rw [nI_clamp (n := N_1157) (by omega)]
        refine lv_bipush (v := (-9)) hx hb dX12_at_66 (by decide) ?_
        refine lv_icmp_ne (tgt := 77) hx hb dX12_at_68 (by decide) (fun c_0 => absurd (c_1159) c_0) (fun _ => ?_)
        refine lv_aload_n hx hb dX12_at_71 rfl (lv_at hl 0 rfl) ?_
        refine lv_iconst (v := 1) hx hb dX12_at_72 (by decide) ?_
        refine hp_callMl (va_runV (As := [.int 1]) (rest := []) ⟨hx, hb, hml, hown, hts⟩ (c_X12_lost l D cy _ cs ad en_1156 (hI.1 _ (by decide)) 0 hi wd mo tb dp many grt lst nou rm rb pr wo 1 es1152_1156) (kw_X12_lost hts tw_1215 ⟨by decide, by decide⟩) (preV_of hh hK (hI.1 _ (by decide)) es1152_1156 rfl) rfl rfl hl.1 rfl (lv_room (Nat.le_of_ble_eq_true rfl)) dX12_at_73 ⟨Nat.le_of_ble_eq_true rfl, Nat.le_of_ble_eq_true rfl⟩) hh hA (fun r_1160 H locs en_1160 hw_1160 hh => ?_)
        obtain ⟨hr_1160, hen_1160⟩ := hw_1160
        have es1153_1160 : en_1160 3 = .inl (cy 0, 4, .inl f_1153) := by rw [hen_1160, va_up_ne _ _ (by decide)]; exact es1153_1156
        have es1154_1160 : en_1160 4 = .inl (cy 0, 4, .inl f_1154) := by rw [hen_1160, va_up_ne _ _ (by decide)]; exact es1154_1156
        have es1155_1160 : en_1160 5 = .inl (cy 0, 160, .inl f_1155) := by rw [hen_1160, va_up_ne _ _ (by decide)]; exact es1155_1156
        have es1152_1160 : en_1160 0 = .inr (11, [.int 1, .int hi, .int (nI wd), .int (nI mo), .int (nI tb), .ref (ad 1), .ref (ad 2), .ref (ad 3), .ref (ad 4), .ref (ad 5), .ref (ad 6), .ref (ad 7), .ref (ad 8), .ref (ad 9), .int dp, .long many, .long grt, .long lst, .long nou, .ref (ad 10), .ref (ad 11), .ref (ad 12), .int rm, .long rb, .ref (ad 13), .int pr, .ref (ad 14), .ref (ad 15), .ref (ad 16), .ref (ad 17), .int (nI wo), .ref (ad 18), .ref (ad 19)]) := by rw [hen_1160]; exact va_up_self _ _ _
        have hI_1160 : RX cy cs ad en_1160 := by rw [hen_1160]; exact upr_M hI_1156 ⟨1, hi, wd, mo, tb, dp, many, grt, lst, nou, rm, rb, pr, wo, rfl, hwd2, hwd3, hmo, htb, hwo⟩
        have hf_1160 : ∀ c, (c ≠ 0) → en_1160 c = en c := fun c hc => Eq.trans (show en_1160 c = en_1156 c from by rw [hen_1160, va_up_ne _ _ (by omega)]) (hf_1156 c hc)
        have hkp_1160 : KP en en_1160 := KP_fv hkp_1156 es1152_1156 es1152_1160 hi (nI wd) (nI mo) (nI tb) pr (nI wo) rfl rfl rfl rfl rfl rfl rfl rfl rfl rfl rfl rfl
        obtain rfl : r_1160 = (-9223372036854775808) := hr_1160
        exact hp_lretM hx hb hr hlocks hh (⟨hI_1160, hf_1160, (by unfold RAT; (try rw [nI_clamp (n := N_1157) (by omega)]); rw [show rdF (en 3) = f_1153 from by rw [es1153]; rfl, show rdF (en 4) = f_1154 from by rw [es1154]; rfl]; unfold atR; rw [if_pos ⟨hp_1157, hp_1158⟩, if_neg (fun q => q.1 c_1159), if_pos c_1159]), hkp_1160⟩) dX12_at_76
      · refine lv_aload_n hx hb dX12_at_44 rfl (lv_at hl 0 rfl) ?_
        refine hp_get hx hb hts ix12 hown hK hh (q := 0) rfl (hI.1 _ (by decide)) es1152_1156 rfl 7 (by decide) (hts _ tw_886) (fun _ h9 => h9) rfl dX12_at_45 ?_
        refine lv_iload_n hx hb dX12_at_48 rfl (lv_at hl 1 rfl) ?_
        refine hp_iald hx hb hK hh (q := 3) rfl (hI.1 _ (by decide)) es1153_1156 (vp_in_nI (n := N_1157) (by omega) (by decide)) dX12_at_49 ?_
        rw [nI_clamp (n := N_1157) (by omega)]
        refine lv_iload_n hx hb dX12_at_50 rfl (lv_at hl 3 rfl) ?_
        refine lv_icmp_eq (tgt := 60) hx hb dX12_at_51 (by decide) (fun c_1161 => ?_) (fun c_1161 => ?_)
        · refine lv_aload_n hx hb dX12_at_60 rfl (lv_at hl 0 rfl) ?_
          refine hp_get hx hb hts ix12 hown hK hh (q := 0) rfl (hI.1 _ (by decide)) es1152_1156 rfl 7 (by decide) (hts _ tw_886) (fun _ h9 => h9) rfl dX12_at_61 ?_
          refine lv_iload_n hx hb dX12_at_64 rfl (lv_at hl 1 rfl) ?_
          refine hp_iald hx hb hK hh (q := 3) rfl (hI.1 _ (by decide)) es1153_1156 (vp_in_nI (n := N_1157) (by omega) (by decide)) dX12_at_65 ?_
          rw [nI_clamp (n := N_1157) (by omega)]
          refine lv_bipush (v := (-9)) hx hb dX12_at_66 (by decide) ?_
          refine lv_icmp_ne (tgt := 77) hx hb dX12_at_68 (by decide) (fun _ => ?_) (fun c_0 => absurd c_0 (c_1159))
          refine lv_iload_n hx hb dX12_at_77 rfl (lv_at hl 2 rfl) ?_
          refine lv_i2l hx hb dX12_at_78 rfl ?_
          refine lv_lconst (v := 0) hx hb dX12_at_79 (by decide) ?_
          refine lv_aload_n hx hb dX12_at_80 rfl (lv_at hl 0 rfl) ?_
          refine hp_get hx hb hts ix12 hown hK hh (q := 0) rfl (hI.1 _ (by decide)) es1152_1156 rfl 8 (by decide) (hts _ tw_887) (fun _ h9 => h9) rfl dX12_at_81 ?_
          refine lv_iload_n hx hb dX12_at_84 rfl (lv_at hl 1 rfl) ?_
          refine hp_iald hx hb hK hh (q := 4) rfl (hI.1 _ (by decide)) es1154_1156 (vp_in_nI (n := N_1157) (by omega) (by decide)) dX12_at_85 ?_
          rw [nI_clamp (n := N_1157) (by omega)]
          obtain ⟨v_1162, hv_1162, hfv_1162⟩ := p0_1154 N_1157 (by omega)
          rw [hfv_1162]
          refine lv_i2l hx hb dX12_at_86 rfl ?_
          refine lv_lconst (v := 1) hx hb dX12_at_87 (by decide) ?_
          refine lv_lsub hx hb dX12_at_88 ?_
          refine hp_callRi (va_runS (As := [.long i9.toInt64, .long 0, .long ((nI v_1162).toInt64 - 1)]) (rest := []) ⟨hx, hb, hml, hown, hts⟩ (c_X12_within l D cy _ cs ad en_1156 i9.toInt64 0 ((nI v_1162).toInt64 - 1)) (kw_X12_within hts tw_985 ⟨by decide, by decide⟩) (preS_of hh hK) rfl rfl hl.1 rfl (lv_room (Nat.le_of_ble_eq_true rfl)) dX12_at_89 ⟨Nat.le_of_ble_eq_true rfl, Nat.le_of_ble_eq_true rfl⟩) hh hA (fun r_1163 H locs hw_1163 hh => ?_)
          rcases Decidable.em (0 ≤ i9.toInt ∧ i9.toInt < (v_1162 : Int)) with hp_1163 | hp_1163
          · obtain rfl : r_1163 = 1 := Eq.trans hw_1163 (if_pos ((wj_m1 (by omega)).mpr hp_1163))
            obtain ⟨N_1163, rfl, hB_1163⟩ := has_nat hp_1163
            refine lv_if_ne (tgt := 101) hx hb dX12_at_92 (by decide) (fun _ => ?_) (fun c_0 => absurd c_0 (by decide))
            refine lv_aload_n hx hb dX12_at_101 rfl (lv_at hl 0 rfl) ?_
            refine hp_get hx hb hts ix12 hown hK hh (q := 0) rfl (hI.1 _ (by decide)) es1152_1156 rfl 9 (by decide) (hts _ tw_888) (fun _ h9 => h9) rfl dX12_at_102 ?_
            refine lv_bipush (v := 40) hx hb dX12_at_105 (by decide) ?_
            refine lv_iload_n hx hb dX12_at_107 rfl (lv_at hl 1 rfl) ?_
            refine lv_imul hx hb dX12_at_108 ?_
            rw [show (40 : Int32) = nI 40 from rfl, pk_mul 40 N_1157]
            refine lv_iload_n hx hb dX12_at_109 rfl (lv_at hl 2 rfl) ?_
            refine lv_iadd hx hb dX12_at_110 ?_
            rw [nI_add (40 * N_1157) N_1163]
            refine hp_iald hx hb hK hh (q := 5) rfl (hI.1 _ (by decide)) es1155_1156 (vp_in_nI (n := ((40 * N_1157) + N_1163)) (by omega) (by decide)) dX12_at_111 ?_
            rw [nI_clamp (n := ((40 * N_1157) + N_1163)) (by omega)]
            refine lv_i2l hx hb dX12_at_112 rfl ?_
            exact hp_lretM hx hb hr hlocks hh (⟨hI_1156, hf_1156, (by unfold RAT; (try rw [nI_clamp (n := N_1157) (by omega)]); rw [show rdF (en 3) = f_1153 from by rw [es1153]; rfl, show rdF (en 4) = f_1154 from by rw [es1154]; rfl]; unfold atR; rw [if_pos ⟨hp_1157, hp_1158⟩, if_neg (fun q => q.2 c_1161), if_neg c_1159, hfv_1162, nI_toInt (n := v_1162) (by omega), if_pos hp_1163, nI_clamp (n := N_1163) (by omega), show rdF (en 5) = f_1155 from by rw [es1155]; rfl]), hkp_1156⟩) dX12_at_113
          · obtain rfl : r_1163 = 0 := Eq.trans hw_1163 (if_neg (fun q => hp_1163 ((wj_m1 (by omega)).mp q)))
            refine lv_if_ne (tgt := 101) hx hb dX12_at_92 (by decide) (fun c_0 => absurd c_0 (by decide)) (fun _ => ?_)
            refine lv_aload_n hx hb dX12_at_95 rfl (lv_at hl 0 rfl) ?_
            refine lv_iconst (v := 3) hx hb dX12_at_96 (by decide) ?_
            refine hp_callMl (va_runV (As := [.int 3]) (rest := []) ⟨hx, hb, hml, hown, hts⟩ (c_X12_lost l D cy _ cs ad en_1156 (hI.1 _ (by decide)) 0 hi wd mo tb dp many grt lst nou rm rb pr wo 3 es1152_1156) (kw_X12_lost hts tw_1215 ⟨by decide, by decide⟩) (preV_of hh hK (hI.1 _ (by decide)) es1152_1156 rfl) rfl rfl hl.1 rfl (lv_room (Nat.le_of_ble_eq_true rfl)) dX12_at_97 ⟨Nat.le_of_ble_eq_true rfl, Nat.le_of_ble_eq_true rfl⟩) hh hA (fun r_1164 H locs en_1164 hw_1164 hh => ?_)
            obtain ⟨hr_1164, hen_1164⟩ := hw_1164
            have es1153_1164 : en_1164 3 = .inl (cy 0, 4, .inl f_1153) := by rw [hen_1164, va_up_ne _ _ (by decide)]; exact es1153_1156
            have es1154_1164 : en_1164 4 = .inl (cy 0, 4, .inl f_1154) := by rw [hen_1164, va_up_ne _ _ (by decide)]; exact es1154_1156
            have es1155_1164 : en_1164 5 = .inl (cy 0, 160, .inl f_1155) := by rw [hen_1164, va_up_ne _ _ (by decide)]; exact es1155_1156
            have es1152_1164 : en_1164 0 = .inr (11, [.int 3, .int hi, .int (nI wd), .int (nI mo), .int (nI tb), .ref (ad 1), .ref (ad 2), .ref (ad 3), .ref (ad 4), .ref (ad 5), .ref (ad 6), .ref (ad 7), .ref (ad 8), .ref (ad 9), .int dp, .long many, .long grt, .long lst, .long nou, .ref (ad 10), .ref (ad 11), .ref (ad 12), .int rm, .long rb, .ref (ad 13), .int pr, .ref (ad 14), .ref (ad 15), .ref (ad 16), .ref (ad 17), .int (nI wo), .ref (ad 18), .ref (ad 19)]) := by rw [hen_1164]; exact va_up_self _ _ _
            have hI_1164 : RX cy cs ad en_1164 := by rw [hen_1164]; exact upr_M hI_1156 ⟨3, hi, wd, mo, tb, dp, many, grt, lst, nou, rm, rb, pr, wo, rfl, hwd2, hwd3, hmo, htb, hwo⟩
            have hf_1164 : ∀ c, (c ≠ 0) → en_1164 c = en c := fun c hc => Eq.trans (show en_1164 c = en_1156 c from by rw [hen_1164, va_up_ne _ _ (by omega)]) (hf_1156 c hc)
            have hkp_1164 : KP en en_1164 := KP_fv hkp_1156 es1152_1156 es1152_1164 hi (nI wd) (nI mo) (nI tb) pr (nI wo) rfl rfl rfl rfl rfl rfl rfl rfl rfl rfl rfl rfl
            obtain rfl : r_1164 = (-9223372036854775808) := hr_1164
            exact hp_lretM hx hb hr hlocks hh (⟨hI_1164, hf_1164, (by unfold RAT; (try rw [nI_clamp (n := N_1157) (by omega)]); rw [show rdF (en 3) = f_1153 from by rw [es1153]; rfl, show rdF (en 4) = f_1154 from by rw [es1154]; rfl]; unfold atR; rw [if_pos ⟨hp_1157, hp_1158⟩, if_neg (fun q => q.2 c_1161), if_neg c_1159, hfv_1162, nI_toInt (n := v_1162) (by omega), if_neg hp_1163]), hkp_1164⟩) dX12_at_100
        · refine lv_aload_n hx hb dX12_at_54 rfl (lv_at hl 0 rfl) ?_
          refine lv_iconst (v := 2) hx hb dX12_at_55 (by decide) ?_
          refine hp_callMl (va_runV (As := [.int 2]) (rest := []) ⟨hx, hb, hml, hown, hts⟩ (c_X12_lost l D cy _ cs ad en_1156 (hI.1 _ (by decide)) 0 hi wd mo tb dp many grt lst nou rm rb pr wo 2 es1152_1156) (kw_X12_lost hts tw_1215 ⟨by decide, by decide⟩) (preV_of hh hK (hI.1 _ (by decide)) es1152_1156 rfl) rfl rfl hl.1 rfl (lv_room (Nat.le_of_ble_eq_true rfl)) dX12_at_56 ⟨Nat.le_of_ble_eq_true rfl, Nat.le_of_ble_eq_true rfl⟩) hh hA (fun r_1165 H locs en_1165 hw_1165 hh => ?_)
          obtain ⟨hr_1165, hen_1165⟩ := hw_1165
          have es1153_1165 : en_1165 3 = .inl (cy 0, 4, .inl f_1153) := by rw [hen_1165, va_up_ne _ _ (by decide)]; exact es1153_1156
          have es1154_1165 : en_1165 4 = .inl (cy 0, 4, .inl f_1154) := by rw [hen_1165, va_up_ne _ _ (by decide)]; exact es1154_1156
          have es1155_1165 : en_1165 5 = .inl (cy 0, 160, .inl f_1155) := by rw [hen_1165, va_up_ne _ _ (by decide)]; exact es1155_1156
          have es1152_1165 : en_1165 0 = .inr (11, [.int 2, .int hi, .int (nI wd), .int (nI mo), .int (nI tb), .ref (ad 1), .ref (ad 2), .ref (ad 3), .ref (ad 4), .ref (ad 5), .ref (ad 6), .ref (ad 7), .ref (ad 8), .ref (ad 9), .int dp, .long many, .long grt, .long lst, .long nou, .ref (ad 10), .ref (ad 11), .ref (ad 12), .int rm, .long rb, .ref (ad 13), .int pr, .ref (ad 14), .ref (ad 15), .ref (ad 16), .ref (ad 17), .int (nI wo), .ref (ad 18), .ref (ad 19)]) := by rw [hen_1165]; exact va_up_self _ _ _
          have hI_1165 : RX cy cs ad en_1165 := by rw [hen_1165]; exact upr_M hI_1156 ⟨2, hi, wd, mo, tb, dp, many, grt, lst, nou, rm, rb, pr, wo, rfl, hwd2, hwd3, hmo, htb, hwo⟩
          have hf_1165 : ∀ c, (c ≠ 0) → en_1165 c = en c := fun c hc => Eq.trans (show en_1165 c = en_1156 c from by rw [hen_1165, va_up_ne _ _ (by omega)]) (hf_1156 c hc)
          have hkp_1165 : KP en en_1165 := KP_fv hkp_1156 es1152_1156 es1152_1165 hi (nI wd) (nI mo) (nI tb) pr (nI wo) rfl rfl rfl rfl rfl rfl rfl rfl rfl rfl rfl rfl
          obtain rfl : r_1165 = (-9223372036854775808) := hr_1165
          exact hp_lretM hx hb hr hlocks hh (⟨hI_1165, hf_1165, (by unfold RAT; (try rw [nI_clamp (n := N_1157) (by omega)]); rw [show rdF (en 3) = f_1153 from by rw [es1153]; rfl, show rdF (en 4) = f_1154 from by rw [es1154]; rfl]; unfold atR; rw [if_pos ⟨hp_1157, hp_1158⟩, if_pos ⟨c_1159, c_1161⟩]), hkp_1165⟩) dX12_at_59
    · obtain rfl : r_1158 = 0 := Eq.trans hw_1158 (if_neg (fun q => hp_1158 ((wj_32 (by decide) (by decide)).mp q)))
      refine lv_if_ne (tgt := 33) hx hb dX12_at_26 (by decide) (fun c_0 => absurd c_0 (by decide)) (fun _ => ?_)
      refine lv_ldc2 hx hb hown (hts _ tw_1015) dX12_at_29 ?_
      exact hp_lretM hx hb hr hlocks hh (⟨hI_1156, hf_1156, (by unfold RAT atR; rw [if_neg (fun q => hp_1158 q.2)]), hkp_1156⟩) dX12_at_32
  · obtain rfl : r_1157 = 0 := Eq.trans hw_1157 (if_neg (fun q => hp_1157 ((wj_32 (by decide) (by decide)).mp q)))
    refine lv_if_eq (tgt := 29) hx hb dX12_at_14 (by decide) (fun _ => ?_) (fun c_0 => absurd c_0 (by decide))
    refine lv_ldc2 hx hb hown (hts _ tw_1015) dX12_at_29 ?_
    exact hp_lretM hx hb hr hlocks hh (⟨hI_1156, hf_1156, (by unfold RAT atR; rw [if_neg (fun q => hp_1157 q.1)]), hkp_1156⟩) dX12_at_32
theorem kw_X12_at {R : Room} {s : State} {args : Array Value} {own : String} {idx : Nat} (hts : ∀ w ∈ TB, w.before args s = true) (hl : Cond.methodLink own idx yX12_at ∈ TB) (hR : 1 + 1 ≤ R.frames ∧ 8 + (4 + 11) + 40 * 1 ≤ R.locals) : CallW R s args own RX12 idx yX12_at cX12_at 4 (some .long) (Cond.code yX12_at cX12_at 4 (some .long) :: TB) (rmN 1) 0 0 3 := cwV 3 hts (TB_V hl tw_1212 tw_1213 tw_9 tw_1214) rfl rfl rfl (by decide +kernel) hR
set_option maxHeartbeats 4000000 in
set_option maxRecDepth 100000 in
/-- kindOf -/
theorem c_X12_kindOf (l : Launch) (D : va_G) (cy : Nat → ClassId) (sz : Nat) (cs : List Nat) (ad : Nat → Nat) (en : Nat → va_E) (hI : RX cy cs ad en) (t : Nat) (ht6 : t < 6)   : Met l yX12_kindOf (Cond.code yX12_kindOf cX12_kindOf 9 (some .int) :: TB) (rmN 0) (va_Pc [.ref (ad 0), .int (nI t)] (Pre D cy cs ad en sz)) (va_Qi (S := Unit) (fun r _ => RKD (fun i => rdF (en 1) (9 * t + i)) (rdI (en 0) 2).toNatClampNeg r) (fun _ _ => True) (Nf sz)) 0 0 (Nf sz) := by
  refine Met.ofW (cc := cX12_kindOf) (maxL := 9) (ret := (some .int)) (by decide) rfl ?_
  intro p e s m args below meth c s₁ B hml hv
  obtain ⟨rfl, hsz, hP, hK, hD0⟩ := hv
  have hx := B.exec
  have hb := B.bytes
  have hr := B.returns
  have hts : ∀ w ∈ TB, w.before _ s = true := fun w h => atoms_spec (ws := _ :: TB) B.pre w (List.mem_cons_of_mem _ h)
  have hown : s.vm.findClass RX12 = some m.cls := findClass_of_methodNamed B.named
  have hlocks := B.notSynchronized
  have hh : Hp D (Nf sz) (fun _ => True) s.heap s.heap [] cs ad en := ⟨hP, hD0, va_S.rf⟩
  have hA : ∀ q : Nat, s.heap.size ≤ q → Nf sz q := fun q h => by rw [hsz] at h; exact h
  have hl := lv_entry ([.ref (ad 0), .int (nI t)]) (n := 9) (Nat.le_of_ble_eq_true rfl)
  rw [lg_entry_eq]
  generalize (lg_sl ([.ref (ad 0), .int (nI t)]) ++ List.replicate (9 - (lg_sl ([.ref (ad 0), .int (nI t)])).length) Slot.unset).toArray = ls at hl ⊢
  have hl : lv_has ls 9 [(0, .ref (ad 0)), (1, .int (nI t))] := hl
  obtain ⟨fa, hi, wd, mo, tb, dp, many, grt, lst, nou, rm, rb, pr, wo, es1166, hwd2, hwd3, hmo, htb, hwo⟩ := getr_M hI
  obtain ⟨f_1167, es1167⟩ := getr_E hI
  refine lv_iconst (v := 1) hx hb dX12_kindOf_0 (by decide) ?_
  refine lv_istore_n (lv' := [(2, .int 1), (0, .ref (ad 0)), (1, .int (nI t))]) hx hb dX12_kindOf_1 rfl hl (by decide) rfl (fun ls hl => ?_)
  refine lv_iconst (v := 1) hx hb dX12_kindOf_2 (by decide) ?_
  refine lv_istore_n (lv' := [(3, .int 1), (2, .int 1), (0, .ref (ad 0)), (1, .int (nI t))]) hx hb dX12_kindOf_3 rfl hl (by decide) rfl (fun ls hl => ?_)
  refine lv_iconst (v := 0) hx hb dX12_kindOf_4 (by decide) ?_
  refine lv_istore (lv' := [(4, .int 0), (3, .int 1), (2, .int 1), (0, .ref (ad 0)), (1, .int (nI t))]) hx hb dX12_kindOf_5 hl (by decide) rfl (fun ls hl => ?_)
  have loop_1168 : ∀ (fu j1168 : Nat) (ev1168 : Int32) (sh1168 : Int32)  (ls : Array Slot) (H : Heap) (locs : List Loc), 0 ≤ j1168 → j1168 ≤ wd → wd < j1168 + fu →  (bI ev1168 (evU (fun i => rdF (en 1) (9 * t + i)) wd j1168 0) ∧ bI sh1168 (zoU (fun i => rdF (en 1) (9 * t + i)) wd j1168 0 ∧ suU (fun i => rdF (en 1) (9 * t + i)) wd j1168)) → lv_has ls 9 [(4, .int (nI j1168)), (3, .int sh1168), (2, .int ev1168), (0, .ref (ad 0)), (1, .int (nI t))] → Hp D (Nf sz) (fun _ => True) s.heap H locs cs ad en → W p l e (headSpec (Cond.code yX12_kindOf cX12_kindOf 9 (some .int) :: TB) (rmN 0)).room s m ([.ref (ad 0), .int (nI t)] : List Value).toArray below meth c H locs 0 0 (MQ below (va_Qi (S := Unit) (fun r _ => RKD (fun i => rdF (en 1) (9 * t + i)) (rdI (en 0) 2).toNatClampNeg r) (fun _ _ => True) (Nf sz)) ([.ref (ad 0), .int (nI t)] : List Value).toArray s 0 0 (Nf sz)) (F0 m 7 ls []) := by
    intro fu
    induction fu with
    | zero => intro j1168 ev1168 sh1168 ls H locs h0 h1 h2; exact absurd h2 (by omega)
    | succ fu ih_1168 =>
      intro j1168 ev1168 sh1168 ls H locs hj0_1168 hj_1168 hfu_1168 i0_1168 hl hh
      refine lv_iload hx hb dX12_kindOf_7 (lv_at hl 0 rfl) ?_
      refine lv_aload_n hx hb dX12_kindOf_9 rfl (lv_at hl 3 rfl) ?_
      refine hp_get hx hb hts ix12 hown hK hh (q := 0) rfl (hI.1 _ (by decide)) es1166 rfl 2 (by decide) (hts _ tw_881) (fun _ h9 => h9) rfl dX12_kindOf_10 ?_
      refine lv_icmp_ge (tgt := 152) hx hb dX12_kindOf_13 (by decide) (fun c_1169 => ?_) (fun c_1169 => ?_)
      · have n_1169 : wd ≤ j1168 := n_le (a := wd) (b := j1168) c_1169 (by omega) (by omega)
        refine lv_iload_n hx hb dX12_kindOf_152 rfl (lv_at hl 1 rfl) ?_
        refine lv_if_eq (tgt := 160) hx hb dX12_kindOf_153 (by decide) (fun c_1170 => ?_) (fun c_1170 => ?_)
        · refine lv_iload_n hx hb dX12_kindOf_160 rfl (lv_at hl 2 rfl) ?_
          refine lv_if_eq (tgt := 168) hx hb dX12_kindOf_161 (by decide) (fun c_1171 => ?_) (fun c_1171 => ?_)
          · refine lv_iconst (v := 0) hx hb dX12_kindOf_168 (by decide) ?_
            exact hp_iretR hx hb hr rfl hlocks hsz hh ((by rw [show rdI (en 0) 2 = nI wd from by rw [es1166]; rfl, nI_clamp (n := wd) (by omega)]; have e9 : j1168 = wd := (by omega); rw [e9] at i0_1168; exact Or.inr (Or.inr ⟨rfl, bI_f i0_1168.2 c_1170, bI_f i0_1168.1 c_1171⟩))) dX12_kindOf_169
          · refine lv_iconst (v := 1) hx hb dX12_kindOf_164 (by decide) ?_
            refine lv_goto (tgt := 169) hx hb dX12_kindOf_165 (by decide) ?_
            exact hp_iretR hx hb hr rfl hlocks hsz hh ((by rw [show rdI (en 0) 2 = nI wd from by rw [es1166]; rfl, nI_clamp (n := wd) (by omega)]; have e9 : j1168 = wd := (by omega); rw [e9] at i0_1168; exact Or.inr (Or.inl ⟨rfl, bI_f i0_1168.2 c_1170, bI_t i0_1168.1 c_1171⟩))) dX12_kindOf_169
        · refine lv_iconst (v := 2) hx hb dX12_kindOf_156 (by decide) ?_
          refine lv_goto (tgt := 169) hx hb dX12_kindOf_157 (by decide) ?_
          exact hp_iretR hx hb hr rfl hlocks hsz hh ((by rw [show rdI (en 0) 2 = nI wd from by rw [es1166]; rfl, nI_clamp (n := wd) (by omega)]; have e9 : j1168 = wd := (by omega); rw [e9] at i0_1168; exact Or.inl ⟨rfl, bI_t i0_1168.2 c_1170⟩)) dX12_kindOf_169
      · have n_1169 : j1168 < wd := n_nle (a := wd) (b := j1168) c_1169 (by omega) (by omega)
        refine lv_iconst (v := 0) hx hb dX12_kindOf_16 (by decide) ?_
        refine lv_istore (lv' := [(5, .int 0), (4, .int (nI j1168)), (3, .int sh1168), (2, .int ev1168), (0, .ref (ad 0)), (1, .int (nI t))]) hx hb dX12_kindOf_17 hl (by decide) rfl (fun ls hl => ?_)
        refine lv_iconst (v := 0) hx hb dX12_kindOf_19 (by decide) ?_
        refine lv_istore (lv' := [(6, .int 0), (5, .int 0), (4, .int (nI j1168)), (3, .int sh1168), (2, .int ev1168), (0, .ref (ad 0)), (1, .int (nI t))]) hx hb dX12_kindOf_20 hl (by decide) rfl (fun ls hl => ?_)
        refine lv_iconst (v := 0) hx hb dX12_kindOf_22 (by decide) ?_
        refine lv_istore (lv' := [(7, .int 0), (6, .int 0), (5, .int 0), (4, .int (nI j1168)), (3, .int sh1168), (2, .int ev1168), (0, .ref (ad 0)), (1, .int (nI t))]) hx hb dX12_kindOf_23 hl (by decide) rfl (fun ls hl => ?_)
        have loop_1172 : ∀ (fu j1172 : Nat) (ev1172 : Int32) (sh1172 : Int32) (ir1172 : Int32) (ic1172 : Int32)  (ls : Array Slot) (H : Heap) (locs : List Loc), 0 ≤ j1172 → j1172 ≤ wd → wd < j1172 + fu →  (bI ev1172 (evU (fun i => rdF (en 1) (9 * t + i)) wd j1168 j1172) ∧ bI sh1172 (zoU (fun i => rdF (en 1) (9 * t + i)) wd j1168 j1172 ∧ suU (fun i => rdF (en 1) (9 * t + i)) wd j1168) ∧ ir1172 = sumI (fun z => rdF (en 1) (9 * t + (wd * j1168 + z))) j1172 ∧ ic1172 = sumI (fun z => rdF (en 1) (9 * t + (wd * z + j1168))) j1172) → lv_has ls 9 [(7, .int (nI j1172)), (6, .int ic1172), (5, .int ir1172), (4, .int (nI j1168)), (3, .int sh1172), (2, .int ev1172), (0, .ref (ad 0)), (1, .int (nI t))] → Hp D (Nf sz) (fun _ => True) s.heap H locs cs ad en → W p l e (headSpec (Cond.code yX12_kindOf cX12_kindOf 9 (some .int) :: TB) (rmN 0)).room s m ([.ref (ad 0), .int (nI t)] : List Value).toArray below meth c H locs 0 0 (MQ below (va_Qi (S := Unit) (fun r _ => RKD (fun i => rdF (en 1) (9 * t + i)) (rdI (en 0) 2).toNatClampNeg r) (fun _ _ => True) (Nf sz)) ([.ref (ad 0), .int (nI t)] : List Value).toArray s 0 0 (Nf sz)) (F0 m 25 ls []) := by
          intro fu
          induction fu with
          | zero => intro j1172 ev1172 sh1172 ir1172 ic1172 ls H locs h0 h1 h2; exact absurd h2 (by omega)
          | succ fu ih_1172 =>
            intro j1172 ev1172 sh1172 ir1172 ic1172 ls H locs hj0_1172 hj_1172 hfu_1172 i0_1172 hl hh
            refine lv_iload hx hb dX12_kindOf_25 (lv_at hl 0 rfl) ?_
            refine lv_aload_n hx hb dX12_kindOf_27 rfl (lv_at hl 6 rfl) ?_
            refine hp_get hx hb hts ix12 hown hK hh (q := 0) rfl (hI.1 _ (by decide)) es1166 rfl 2 (by decide) (hts _ tw_881) (fun _ h9 => h9) rfl dX12_kindOf_28 ?_
            refine lv_icmp_ge (tgt := 126) hx hb dX12_kindOf_31 (by decide) (fun c_1173 => ?_) (fun c_1173 => ?_)
            · have n_1173 : wd ≤ j1172 := n_le (a := wd) (b := j1172) c_1173 (by omega) (by omega)
              refine lv_iload_n hx hb dX12_kindOf_126 rfl (lv_at hl 4 rfl) ?_
              refine lv_iload hx hb dX12_kindOf_127 (lv_at hl 2 rfl) ?_
              refine lv_iconst (v := 1) hx hb dX12_kindOf_129 (by decide) ?_
              refine lv_icmp_ne (tgt := 143) hx hb dX12_kindOf_130 (by decide) (fun c_1174 => ?_) (fun c_1174 => ?_)
              · refine lv_iconst (v := 0) hx hb dX12_kindOf_143 (by decide) ?_
                refine lv_iand hx hb dX12_kindOf_144 ?_
                refine lv_istore_n (lv' := [(3, .int (sh1172 &&& 0)), (7, .int (nI j1172)), (6, .int ic1172), (5, .int ir1172), (4, .int (nI j1168)), (2, .int ev1172), (0, .ref (ad 0)), (1, .int (nI t))]) hx hb dX12_kindOf_145 rfl hl (by decide) rfl (fun ls hl => ?_)
                refine lv_iinc (v := (nI (j1168 + 1))) (lv' := [(4, .int (nI (j1168 + 1))), (3, .int (sh1172 &&& 0)), (7, .int (nI j1172)), (6, .int ic1172), (5, .int ir1172), (2, .int ev1172), (0, .ref (ad 0)), (1, .int (nI t))]) hx hb dX12_kindOf_146 hl (k := 4) rfl (nI_1 _) (by decide) rfl (fun ls hl => ?_)
                refine lv_goto (tgt := 7) hx hb dX12_kindOf_149 (by decide) ?_
                exact ih_1168 ((j1168 + 1)) ev1172 (sh1172 &&& 0) ls H locs (by omega) (by omega) (by omega) ((by have e9 : j1172 = wd := (by omega); rw [e9] at i0_1172; exact ⟨evU_o i0_1172.1, shU_o0 i0_1172.2.1 i0_1172.2.2.1 i0_1172.2.2.2 (fun q => c_1174 q.1)⟩)) (lv_sub hl [0, 1, 5, 6, 7] rfl) hh
              · refine lv_iload hx hb dX12_kindOf_133 (lv_at hl 1 rfl) ?_
                refine lv_iconst (v := 1) hx hb dX12_kindOf_135 (by decide) ?_
                refine lv_icmp_ne (tgt := 143) hx hb dX12_kindOf_136 (by decide) (fun c_1175 => ?_) (fun c_1175 => ?_)
                · refine lv_iconst (v := 0) hx hb dX12_kindOf_143 (by decide) ?_
                  refine lv_iand hx hb dX12_kindOf_144 ?_
                  refine lv_istore_n (lv' := [(3, .int (sh1172 &&& 0)), (7, .int (nI j1172)), (6, .int ic1172), (5, .int ir1172), (4, .int (nI j1168)), (2, .int ev1172), (0, .ref (ad 0)), (1, .int (nI t))]) hx hb dX12_kindOf_145 rfl hl (by decide) rfl (fun ls hl => ?_)
                  refine lv_iinc (v := (nI (j1168 + 1))) (lv' := [(4, .int (nI (j1168 + 1))), (3, .int (sh1172 &&& 0)), (7, .int (nI j1172)), (6, .int ic1172), (5, .int ir1172), (2, .int ev1172), (0, .ref (ad 0)), (1, .int (nI t))]) hx hb dX12_kindOf_146 hl (k := 4) rfl (nI_1 _) (by decide) rfl (fun ls hl => ?_)
                  refine lv_goto (tgt := 7) hx hb dX12_kindOf_149 (by decide) ?_
                  exact ih_1168 ((j1168 + 1)) ev1172 (sh1172 &&& 0) ls H locs (by omega) (by omega) (by omega) ((by have e9 : j1172 = wd := (by omega); rw [e9] at i0_1172; exact ⟨evU_o i0_1172.1, shU_o0 i0_1172.2.1 i0_1172.2.2.1 i0_1172.2.2.2 (fun q => c_1175 q.2)⟩)) (lv_sub hl [0, 1, 5, 6, 7] rfl) hh
                · refine lv_iconst (v := 1) hx hb dX12_kindOf_139 (by decide) ?_
                  refine lv_goto (tgt := 144) hx hb dX12_kindOf_140 (by decide) ?_
                  refine lv_iand hx hb dX12_kindOf_144 ?_
                  refine lv_istore_n (lv' := [(3, .int (sh1172 &&& 1)), (7, .int (nI j1172)), (6, .int ic1172), (5, .int ir1172), (4, .int (nI j1168)), (2, .int ev1172), (0, .ref (ad 0)), (1, .int (nI t))]) hx hb dX12_kindOf_145 rfl hl (by decide) rfl (fun ls hl => ?_)
                  refine lv_iinc (v := (nI (j1168 + 1))) (lv' := [(4, .int (nI (j1168 + 1))), (3, .int (sh1172 &&& 1)), (7, .int (nI j1172)), (6, .int ic1172), (5, .int ir1172), (2, .int ev1172), (0, .ref (ad 0)), (1, .int (nI t))]) hx hb dX12_kindOf_146 hl (k := 4) rfl (nI_1 _) (by decide) rfl (fun ls hl => ?_)
                  refine lv_goto (tgt := 7) hx hb dX12_kindOf_149 (by decide) ?_
                  exact ih_1168 ((j1168 + 1)) ev1172 (sh1172 &&& 1) ls H locs (by omega) (by omega) (by omega) ((by have e9 : j1172 = wd := (by omega); rw [e9] at i0_1172; exact ⟨evU_o i0_1172.1, shU_o1 i0_1172.2.1 i0_1172.2.2.1 i0_1172.2.2.2 c_1174 c_1175⟩)) (lv_sub hl [0, 1, 5, 6, 7] rfl) hh
            · have n_1173 : j1172 < wd := n_nle (a := wd) (b := j1172) c_1173 (by omega) (by omega)
              refine lv_aload_n hx hb dX12_kindOf_34 rfl (lv_at hl 6 rfl) ?_
              refine hp_get hx hb hts ix12 hown hK hh (q := 0) rfl (hI.1 _ (by decide)) es1166 rfl 5 (by decide) (hts _ tw_884) (fun _ h9 => h9) rfl dX12_kindOf_35 ?_
              refine lv_bipush (v := 9) hx hb dX12_kindOf_38 (by decide) ?_
              refine lv_iload_n hx hb dX12_kindOf_40 rfl (lv_at hl 7 rfl) ?_
              refine lv_imul hx hb dX12_kindOf_41 ?_
              rw [show (9 : Int32) = nI 9 from rfl, pk_mul 9 t]
              refine lv_aload_n hx hb dX12_kindOf_42 rfl (lv_at hl 6 rfl) ?_
              refine hp_get hx hb hts ix12 hown hK hh (q := 0) rfl (hI.1 _ (by decide)) es1166 rfl 2 (by decide) (hts _ tw_881) (fun _ h9 => h9) rfl dX12_kindOf_43 ?_
              refine lv_iload hx hb dX12_kindOf_46 (lv_at hl 3 rfl) ?_
              refine lv_imul hx hb dX12_kindOf_48 ?_
              rw [pk_mul wd j1168]
              refine lv_iadd hx hb dX12_kindOf_49 ?_
              rw [nI_add (9 * t) (wd * j1168)]
              refine lv_iload hx hb dX12_kindOf_50 (lv_at hl 0 rfl) ?_
              refine lv_iadd hx hb dX12_kindOf_52 ?_
              rw [nI_add ((9 * t) + (wd * j1168)) j1172]
              have hi_1176 : wd * j1168 + j1172 < 9 := mdr (by omega) (by omega) (by omega)
              refine hp_iald hx hb hK hh (q := 1) rfl (hI.1 _ (by decide)) es1167 (vp_in_nI (n := (((9 * t) + (wd * j1168)) + j1172)) (by omega) (by decide)) dX12_kindOf_53 ?_
              rw [nI_clamp (n := (((9 * t) + (wd * j1168)) + j1172)) (by omega)]
              refine lv_istore (lv' := [(8, .int (f_1167 (((9 * t) + (wd * j1168)) + j1172))), (7, .int (nI j1172)), (6, .int ic1172), (5, .int ir1172), (4, .int (nI j1168)), (3, .int sh1172), (2, .int ev1172), (0, .ref (ad 0)), (1, .int (nI t))]) hx hb dX12_kindOf_54 hl (by decide) rfl (fun ls hl => ?_)
              refine lv_iload_n hx hb dX12_kindOf_56 rfl (lv_at hl 6 rfl) ?_
              refine lv_iload hx hb dX12_kindOf_57 (lv_at hl 0 rfl) ?_
              refine lv_if_lt (tgt := 66) hx hb dX12_kindOf_59 (by decide) (fun c_1177 => ?_) (fun c_1177 => ?_)
              · refine lv_iconst (v := 0) hx hb dX12_kindOf_66 (by decide) ?_
                refine lv_iand hx hb dX12_kindOf_67 ?_
                refine lv_istore_n (lv' := [(2, .int (ev1172 &&& 0)), (8, .int (f_1167 (((9 * t) + (wd * j1168)) + j1172))), (7, .int (nI j1172)), (6, .int ic1172), (5, .int ir1172), (4, .int (nI j1168)), (3, .int sh1172), (0, .ref (ad 0)), (1, .int (nI t))]) hx hb dX12_kindOf_68 rfl hl (by decide) rfl (fun ls hl => ?_)
                refine lv_iload_n hx hb dX12_kindOf_69 rfl (lv_at hl 6 rfl) ?_
                refine lv_iload hx hb dX12_kindOf_70 (lv_at hl 1 rfl) ?_
                refine lv_if_eq (tgt := 81) hx hb dX12_kindOf_72 (by decide) (fun c_1178 => ?_) (fun c_1178 => ?_)
                · refine lv_iconst (v := 1) hx hb dX12_kindOf_81 (by decide) ?_
                  refine lv_goto (tgt := 86) hx hb dX12_kindOf_82 (by decide) ?_
                  refine lv_iand hx hb dX12_kindOf_86 ?_
                  refine lv_istore_n (lv' := [(3, .int (sh1172 &&& 1)), (2, .int (ev1172 &&& 0)), (8, .int (f_1167 (((9 * t) + (wd * j1168)) + j1172))), (7, .int (nI j1172)), (6, .int ic1172), (5, .int ir1172), (4, .int (nI j1168)), (0, .ref (ad 0)), (1, .int (nI t))]) hx hb dX12_kindOf_87 rfl hl (by decide) rfl (fun ls hl => ?_)
                  refine lv_iload hx hb dX12_kindOf_88 (lv_at hl 5 rfl) ?_
                  refine lv_iload hx hb dX12_kindOf_90 (lv_at hl 2 rfl) ?_
                  refine lv_iadd hx hb dX12_kindOf_92 ?_
                  refine lv_istore (lv' := [(5, .int (ir1172 + (f_1167 (((9 * t) + (wd * j1168)) + j1172)))), (3, .int (sh1172 &&& 1)), (2, .int (ev1172 &&& 0)), (8, .int (f_1167 (((9 * t) + (wd * j1168)) + j1172))), (7, .int (nI j1172)), (6, .int ic1172), (4, .int (nI j1168)), (0, .ref (ad 0)), (1, .int (nI t))]) hx hb dX12_kindOf_93 hl (by decide) rfl (fun ls hl => ?_)
                  refine lv_iload hx hb dX12_kindOf_95 (lv_at hl 5 rfl) ?_
                  refine lv_aload_n hx hb dX12_kindOf_97 rfl (lv_at hl 7 rfl) ?_
                  refine hp_get hx hb hts ix12 hown hK hh (q := 0) rfl (hI.1 _ (by decide)) es1166 rfl 5 (by decide) (hts _ tw_884) (fun _ h9 => h9) rfl dX12_kindOf_98 ?_
                  refine lv_bipush (v := 9) hx hb dX12_kindOf_101 (by decide) ?_
                  refine lv_iload_n hx hb dX12_kindOf_103 rfl (lv_at hl 8 rfl) ?_
                  refine lv_imul hx hb dX12_kindOf_104 ?_
                  rw [show (9 : Int32) = nI 9 from rfl, pk_mul 9 t]
                  refine lv_aload_n hx hb dX12_kindOf_105 rfl (lv_at hl 7 rfl) ?_
                  refine hp_get hx hb hts ix12 hown hK hh (q := 0) rfl (hI.1 _ (by decide)) es1166 rfl 2 (by decide) (hts _ tw_881) (fun _ h9 => h9) rfl dX12_kindOf_106 ?_
                  refine lv_iload hx hb dX12_kindOf_109 (lv_at hl 4 rfl) ?_
                  refine lv_imul hx hb dX12_kindOf_111 ?_
                  rw [pk_mul wd j1172]
                  refine lv_iadd hx hb dX12_kindOf_112 ?_
                  rw [nI_add (9 * t) (wd * j1172)]
                  refine lv_iload hx hb dX12_kindOf_113 (lv_at hl 6 rfl) ?_
                  refine lv_iadd hx hb dX12_kindOf_115 ?_
                  rw [nI_add ((9 * t) + (wd * j1172)) j1168]
                  have hi_1179 : wd * j1172 + j1168 < 9 := mdr (by omega) (by omega) (by omega)
                  refine hp_iald hx hb hK hh (q := 1) rfl (hI.1 _ (by decide)) es1167 (vp_in_nI (n := (((9 * t) + (wd * j1172)) + j1168)) (by omega) (by decide)) dX12_kindOf_116 ?_
                  rw [nI_clamp (n := (((9 * t) + (wd * j1172)) + j1168)) (by omega)]
                  refine lv_iadd hx hb dX12_kindOf_117 ?_
                  refine lv_istore (lv' := [(6, .int (ic1172 + (f_1167 (((9 * t) + (wd * j1172)) + j1168)))), (5, .int (ir1172 + (f_1167 (((9 * t) + (wd * j1168)) + j1172)))), (3, .int (sh1172 &&& 1)), (2, .int (ev1172 &&& 0)), (8, .int (f_1167 (((9 * t) + (wd * j1168)) + j1172))), (7, .int (nI j1172)), (4, .int (nI j1168)), (0, .ref (ad 0)), (1, .int (nI t))]) hx hb dX12_kindOf_118 hl (by decide) rfl (fun ls hl => ?_)
                  refine lv_iinc (v := (nI (j1172 + 1))) (lv' := [(7, .int (nI (j1172 + 1))), (6, .int (ic1172 + (f_1167 (((9 * t) + (wd * j1172)) + j1168)))), (5, .int (ir1172 + (f_1167 (((9 * t) + (wd * j1168)) + j1172)))), (3, .int (sh1172 &&& 1)), (2, .int (ev1172 &&& 0)), (8, .int (f_1167 (((9 * t) + (wd * j1168)) + j1172))), (4, .int (nI j1168)), (0, .ref (ad 0)), (1, .int (nI t))]) hx hb dX12_kindOf_120 hl (k := 5) rfl (nI_1 _) (by decide) rfl (fun ls hl => ?_)
                  refine lv_goto (tgt := 25) hx hb dX12_kindOf_123 (by decide) ?_
                  exact ih_1172 ((j1172 + 1)) (ev1172 &&& 0) (sh1172 &&& 1) (ir1172 + (f_1167 (((9 * t) + (wd * j1168)) + j1172))) (ic1172 + (f_1167 (((9 * t) + (wd * j1172)) + j1168))) ls H locs (by omega) (by omega) (by omega) (⟨evU_n (show rdF (en 1) (9 * t + (wd * j1168 + j1172)) = f_1167 (9 * t + wd * j1168 + j1172) from by rw [show rdF (en 1) = f_1167 from by rw [es1167]; rfl, Nat.add_assoc]) i0_1172.1 (by omega) c_1177, shU_s (show rdF (en 1) (9 * t + (wd * j1168 + j1172)) = f_1167 (9 * t + wd * j1168 + j1172) from by rw [show rdF (en 1) = f_1167 from by rw [es1167]; rfl, Nat.add_assoc]) i0_1172.2.1 (Or.inl c_1178), (by rw [i0_1172.2.2.1, ← (show rdF (en 1) (9 * t + (wd * j1168 + j1172)) = f_1167 (9 * t + wd * j1168 + j1172) from by rw [show rdF (en 1) = f_1167 from by rw [es1167]; rfl, Nat.add_assoc])]; rfl), (by rw [i0_1172.2.2.2, ← (show rdF (en 1) (9 * t + (wd * j1172 + j1168)) = f_1167 (9 * t + wd * j1172 + j1168) from by rw [show rdF (en 1) = f_1167 from by rw [es1167]; rfl, Nat.add_assoc])]; rfl)⟩) (lv_sub hl [0, 1, 2, 6, 3, 4, 7, 8] rfl) hh
                · refine lv_iload hx hb dX12_kindOf_75 (lv_at hl 1 rfl) ?_
                  refine lv_iconst (v := 1) hx hb dX12_kindOf_77 (by decide) ?_
                  refine lv_icmp_ne (tgt := 85) hx hb dX12_kindOf_78 (by decide) (fun c_1180 => ?_) (fun c_1180 => ?_)
                  · refine lv_iconst (v := 0) hx hb dX12_kindOf_85 (by decide) ?_
                    refine lv_iand hx hb dX12_kindOf_86 ?_
                    refine lv_istore_n (lv' := [(3, .int (sh1172 &&& 0)), (2, .int (ev1172 &&& 0)), (8, .int (f_1167 (((9 * t) + (wd * j1168)) + j1172))), (7, .int (nI j1172)), (6, .int ic1172), (5, .int ir1172), (4, .int (nI j1168)), (0, .ref (ad 0)), (1, .int (nI t))]) hx hb dX12_kindOf_87 rfl hl (by decide) rfl (fun ls hl => ?_)
                    refine lv_iload hx hb dX12_kindOf_88 (lv_at hl 5 rfl) ?_
                    refine lv_iload hx hb dX12_kindOf_90 (lv_at hl 2 rfl) ?_
                    refine lv_iadd hx hb dX12_kindOf_92 ?_
                    refine lv_istore (lv' := [(5, .int (ir1172 + (f_1167 (((9 * t) + (wd * j1168)) + j1172)))), (3, .int (sh1172 &&& 0)), (2, .int (ev1172 &&& 0)), (8, .int (f_1167 (((9 * t) + (wd * j1168)) + j1172))), (7, .int (nI j1172)), (6, .int ic1172), (4, .int (nI j1168)), (0, .ref (ad 0)), (1, .int (nI t))]) hx hb dX12_kindOf_93 hl (by decide) rfl (fun ls hl => ?_)
                    refine lv_iload hx hb dX12_kindOf_95 (lv_at hl 5 rfl) ?_
                    refine lv_aload_n hx hb dX12_kindOf_97 rfl (lv_at hl 7 rfl) ?_
                    refine hp_get hx hb hts ix12 hown hK hh (q := 0) rfl (hI.1 _ (by decide)) es1166 rfl 5 (by decide) (hts _ tw_884) (fun _ h9 => h9) rfl dX12_kindOf_98 ?_
                    refine lv_bipush (v := 9) hx hb dX12_kindOf_101 (by decide) ?_
                    refine lv_iload_n hx hb dX12_kindOf_103 rfl (lv_at hl 8 rfl) ?_
                    refine lv_imul hx hb dX12_kindOf_104 ?_
                    rw [show (9 : Int32) = nI 9 from rfl, pk_mul 9 t]
                    refine lv_aload_n hx hb dX12_kindOf_105 rfl (lv_at hl 7 rfl) ?_
                    refine hp_get hx hb hts ix12 hown hK hh (q := 0) rfl (hI.1 _ (by decide)) es1166 rfl 2 (by decide) (hts _ tw_881) (fun _ h9 => h9) rfl dX12_kindOf_106 ?_
                    refine lv_iload hx hb dX12_kindOf_109 (lv_at hl 4 rfl) ?_
                    refine lv_imul hx hb dX12_kindOf_111 ?_
                    rw [pk_mul wd j1172]
                    refine lv_iadd hx hb dX12_kindOf_112 ?_
                    rw [nI_add (9 * t) (wd * j1172)]
                    refine lv_iload hx hb dX12_kindOf_113 (lv_at hl 6 rfl) ?_
                    refine lv_iadd hx hb dX12_kindOf_115 ?_
                    rw [nI_add ((9 * t) + (wd * j1172)) j1168]
                    have hi_1181 : wd * j1172 + j1168 < 9 := mdr (by omega) (by omega) (by omega)
                    refine hp_iald hx hb hK hh (q := 1) rfl (hI.1 _ (by decide)) es1167 (vp_in_nI (n := (((9 * t) + (wd * j1172)) + j1168)) (by omega) (by decide)) dX12_kindOf_116 ?_
                    rw [nI_clamp (n := (((9 * t) + (wd * j1172)) + j1168)) (by omega)]
                    refine lv_iadd hx hb dX12_kindOf_117 ?_
                    refine lv_istore (lv' := [(6, .int (ic1172 + (f_1167 (((9 * t) + (wd * j1172)) + j1168)))), (5, .int (ir1172 + (f_1167 (((9 * t) + (wd * j1168)) + j1172)))), (3, .int (sh1172 &&& 0)), (2, .int (ev1172 &&& 0)), (8, .int (f_1167 (((9 * t) + (wd * j1168)) + j1172))), (7, .int (nI j1172)), (4, .int (nI j1168)), (0, .ref (ad 0)), (1, .int (nI t))]) hx hb dX12_kindOf_118 hl (by decide) rfl (fun ls hl => ?_)
                    refine lv_iinc (v := (nI (j1172 + 1))) (lv' := [(7, .int (nI (j1172 + 1))), (6, .int (ic1172 + (f_1167 (((9 * t) + (wd * j1172)) + j1168)))), (5, .int (ir1172 + (f_1167 (((9 * t) + (wd * j1168)) + j1172)))), (3, .int (sh1172 &&& 0)), (2, .int (ev1172 &&& 0)), (8, .int (f_1167 (((9 * t) + (wd * j1168)) + j1172))), (4, .int (nI j1168)), (0, .ref (ad 0)), (1, .int (nI t))]) hx hb dX12_kindOf_120 hl (k := 5) rfl (nI_1 _) (by decide) rfl (fun ls hl => ?_)
                    refine lv_goto (tgt := 25) hx hb dX12_kindOf_123 (by decide) ?_
                    exact ih_1172 ((j1172 + 1)) (ev1172 &&& 0) (sh1172 &&& 0) (ir1172 + (f_1167 (((9 * t) + (wd * j1168)) + j1172))) (ic1172 + (f_1167 (((9 * t) + (wd * j1172)) + j1168))) ls H locs (by omega) (by omega) (by omega) (⟨evU_n (show rdF (en 1) (9 * t + (wd * j1168 + j1172)) = f_1167 (9 * t + wd * j1168 + j1172) from by rw [show rdF (en 1) = f_1167 from by rw [es1167]; rfl, Nat.add_assoc]) i0_1172.1 (by omega) c_1177, shU_n (show rdF (en 1) (9 * t + (wd * j1168 + j1172)) = f_1167 (9 * t + wd * j1168 + j1172) from by rw [show rdF (en 1) = f_1167 from by rw [es1167]; rfl, Nat.add_assoc]) i0_1172.2.1 (by omega) c_1178 c_1180, (by rw [i0_1172.2.2.1, ← (show rdF (en 1) (9 * t + (wd * j1168 + j1172)) = f_1167 (9 * t + wd * j1168 + j1172) from by rw [show rdF (en 1) = f_1167 from by rw [es1167]; rfl, Nat.add_assoc])]; rfl), (by rw [i0_1172.2.2.2, ← (show rdF (en 1) (9 * t + (wd * j1172 + j1168)) = f_1167 (9 * t + wd * j1172 + j1168) from by rw [show rdF (en 1) = f_1167 from by rw [es1167]; rfl, Nat.add_assoc])]; rfl)⟩) (lv_sub hl [0, 1, 2, 6, 3, 4, 7, 8] rfl) hh
                  · refine lv_iconst (v := 1) hx hb dX12_kindOf_81 (by decide) ?_
                    refine lv_goto (tgt := 86) hx hb dX12_kindOf_82 (by decide) ?_
                    refine lv_iand hx hb dX12_kindOf_86 ?_
                    refine lv_istore_n (lv' := [(3, .int (sh1172 &&& 1)), (2, .int (ev1172 &&& 0)), (8, .int (f_1167 (((9 * t) + (wd * j1168)) + j1172))), (7, .int (nI j1172)), (6, .int ic1172), (5, .int ir1172), (4, .int (nI j1168)), (0, .ref (ad 0)), (1, .int (nI t))]) hx hb dX12_kindOf_87 rfl hl (by decide) rfl (fun ls hl => ?_)
                    refine lv_iload hx hb dX12_kindOf_88 (lv_at hl 5 rfl) ?_
                    refine lv_iload hx hb dX12_kindOf_90 (lv_at hl 2 rfl) ?_
                    refine lv_iadd hx hb dX12_kindOf_92 ?_
                    refine lv_istore (lv' := [(5, .int (ir1172 + (f_1167 (((9 * t) + (wd * j1168)) + j1172)))), (3, .int (sh1172 &&& 1)), (2, .int (ev1172 &&& 0)), (8, .int (f_1167 (((9 * t) + (wd * j1168)) + j1172))), (7, .int (nI j1172)), (6, .int ic1172), (4, .int (nI j1168)), (0, .ref (ad 0)), (1, .int (nI t))]) hx hb dX12_kindOf_93 hl (by decide) rfl (fun ls hl => ?_)
                    refine lv_iload hx hb dX12_kindOf_95 (lv_at hl 5 rfl) ?_
                    refine lv_aload_n hx hb dX12_kindOf_97 rfl (lv_at hl 7 rfl) ?_
                    refine hp_get hx hb hts ix12 hown hK hh (q := 0) rfl (hI.1 _ (by decide)) es1166 rfl 5 (by decide) (hts _ tw_884) (fun _ h9 => h9) rfl dX12_kindOf_98 ?_
                    refine lv_bipush (v := 9) hx hb dX12_kindOf_101 (by decide) ?_
                    refine lv_iload_n hx hb dX12_kindOf_103 rfl (lv_at hl 8 rfl) ?_
                    refine lv_imul hx hb dX12_kindOf_104 ?_
                    rw [show (9 : Int32) = nI 9 from rfl, pk_mul 9 t]
                    refine lv_aload_n hx hb dX12_kindOf_105 rfl (lv_at hl 7 rfl) ?_
                    refine hp_get hx hb hts ix12 hown hK hh (q := 0) rfl (hI.1 _ (by decide)) es1166 rfl 2 (by decide) (hts _ tw_881) (fun _ h9 => h9) rfl dX12_kindOf_106 ?_
                    refine lv_iload hx hb dX12_kindOf_109 (lv_at hl 4 rfl) ?_
                    refine lv_imul hx hb dX12_kindOf_111 ?_
                    rw [pk_mul wd j1172]
                    refine lv_iadd hx hb dX12_kindOf_112 ?_
                    rw [nI_add (9 * t) (wd * j1172)]
                    refine lv_iload hx hb dX12_kindOf_113 (lv_at hl 6 rfl) ?_
                    refine lv_iadd hx hb dX12_kindOf_115 ?_
                    rw [nI_add ((9 * t) + (wd * j1172)) j1168]
                    have hi_1182 : wd * j1172 + j1168 < 9 := mdr (by omega) (by omega) (by omega)
                    refine hp_iald hx hb hK hh (q := 1) rfl (hI.1 _ (by decide)) es1167 (vp_in_nI (n := (((9 * t) + (wd * j1172)) + j1168)) (by omega) (by decide)) dX12_kindOf_116 ?_
                    rw [nI_clamp (n := (((9 * t) + (wd * j1172)) + j1168)) (by omega)]
                    refine lv_iadd hx hb dX12_kindOf_117 ?_
                    refine lv_istore (lv' := [(6, .int (ic1172 + (f_1167 (((9 * t) + (wd * j1172)) + j1168)))), (5, .int (ir1172 + (f_1167 (((9 * t) + (wd * j1168)) + j1172)))), (3, .int (sh1172 &&& 1)), (2, .int (ev1172 &&& 0)), (8, .int (f_1167 (((9 * t) + (wd * j1168)) + j1172))), (7, .int (nI j1172)), (4, .int (nI j1168)), (0, .ref (ad 0)), (1, .int (nI t))]) hx hb dX12_kindOf_118 hl (by decide) rfl (fun ls hl => ?_)
                    refine lv_iinc (v := (nI (j1172 + 1))) (lv' := [(7, .int (nI (j1172 + 1))), (6, .int (ic1172 + (f_1167 (((9 * t) + (wd * j1172)) + j1168)))), (5, .int (ir1172 + (f_1167 (((9 * t) + (wd * j1168)) + j1172)))), (3, .int (sh1172 &&& 1)), (2, .int (ev1172 &&& 0)), (8, .int (f_1167 (((9 * t) + (wd * j1168)) + j1172))), (4, .int (nI j1168)), (0, .ref (ad 0)), (1, .int (nI t))]) hx hb dX12_kindOf_120 hl (k := 5) rfl (nI_1 _) (by decide) rfl (fun ls hl => ?_)
                    refine lv_goto (tgt := 25) hx hb dX12_kindOf_123 (by decide) ?_
                    exact ih_1172 ((j1172 + 1)) (ev1172 &&& 0) (sh1172 &&& 1) (ir1172 + (f_1167 (((9 * t) + (wd * j1168)) + j1172))) (ic1172 + (f_1167 (((9 * t) + (wd * j1172)) + j1168))) ls H locs (by omega) (by omega) (by omega) (⟨evU_n (show rdF (en 1) (9 * t + (wd * j1168 + j1172)) = f_1167 (9 * t + wd * j1168 + j1172) from by rw [show rdF (en 1) = f_1167 from by rw [es1167]; rfl, Nat.add_assoc]) i0_1172.1 (by omega) c_1177, shU_s (show rdF (en 1) (9 * t + (wd * j1168 + j1172)) = f_1167 (9 * t + wd * j1168 + j1172) from by rw [show rdF (en 1) = f_1167 from by rw [es1167]; rfl, Nat.add_assoc]) i0_1172.2.1 (Or.inr c_1180), (by rw [i0_1172.2.2.1, ← (show rdF (en 1) (9 * t + (wd * j1168 + j1172)) = f_1167 (9 * t + wd * j1168 + j1172) from by rw [show rdF (en 1) = f_1167 from by rw [es1167]; rfl, Nat.add_assoc])]; rfl), (by rw [i0_1172.2.2.2, ← (show rdF (en 1) (9 * t + (wd * j1172 + j1168)) = f_1167 (9 * t + wd * j1172 + j1168) from by rw [show rdF (en 1) = f_1167 from by rw [es1167]; rfl, Nat.add_assoc])]; rfl)⟩) (lv_sub hl [0, 1, 2, 6, 3, 4, 7, 8] rfl) hh
              · refine lv_iconst (v := 1) hx hb dX12_kindOf_62 (by decide) ?_
                refine lv_goto (tgt := 67) hx hb dX12_kindOf_63 (by decide) ?_
                refine lv_iand hx hb dX12_kindOf_67 ?_
                refine lv_istore_n (lv' := [(2, .int (ev1172 &&& 1)), (8, .int (f_1167 (((9 * t) + (wd * j1168)) + j1172))), (7, .int (nI j1172)), (6, .int ic1172), (5, .int ir1172), (4, .int (nI j1168)), (3, .int sh1172), (0, .ref (ad 0)), (1, .int (nI t))]) hx hb dX12_kindOf_68 rfl hl (by decide) rfl (fun ls hl => ?_)
                refine lv_iload_n hx hb dX12_kindOf_69 rfl (lv_at hl 6 rfl) ?_
                refine lv_iload hx hb dX12_kindOf_70 (lv_at hl 1 rfl) ?_
                refine lv_if_eq (tgt := 81) hx hb dX12_kindOf_72 (by decide) (fun c_1183 => ?_) (fun c_1183 => ?_)
                · refine lv_iconst (v := 1) hx hb dX12_kindOf_81 (by decide) ?_
                  refine lv_goto (tgt := 86) hx hb dX12_kindOf_82 (by decide) ?_
                  refine lv_iand hx hb dX12_kindOf_86 ?_
                  refine lv_istore_n (lv' := [(3, .int (sh1172 &&& 1)), (2, .int (ev1172 &&& 1)), (8, .int (f_1167 (((9 * t) + (wd * j1168)) + j1172))), (7, .int (nI j1172)), (6, .int ic1172), (5, .int ir1172), (4, .int (nI j1168)), (0, .ref (ad 0)), (1, .int (nI t))]) hx hb dX12_kindOf_87 rfl hl (by decide) rfl (fun ls hl => ?_)
                  refine lv_iload hx hb dX12_kindOf_88 (lv_at hl 5 rfl) ?_
                  refine lv_iload hx hb dX12_kindOf_90 (lv_at hl 2 rfl) ?_
                  refine lv_iadd hx hb dX12_kindOf_92 ?_
                  refine lv_istore (lv' := [(5, .int (ir1172 + (f_1167 (((9 * t) + (wd * j1168)) + j1172)))), (3, .int (sh1172 &&& 1)), (2, .int (ev1172 &&& 1)), (8, .int (f_1167 (((9 * t) + (wd * j1168)) + j1172))), (7, .int (nI j1172)), (6, .int ic1172), (4, .int (nI j1168)), (0, .ref (ad 0)), (1, .int (nI t))]) hx hb dX12_kindOf_93 hl (by decide) rfl (fun ls hl => ?_)
                  refine lv_iload hx hb dX12_kindOf_95 (lv_at hl 5 rfl) ?_
                  refine lv_aload_n hx hb dX12_kindOf_97 rfl (lv_at hl 7 rfl) ?_
                  refine hp_get hx hb hts ix12 hown hK hh (q := 0) rfl (hI.1 _ (by decide)) es1166 rfl 5 (by decide) (hts _ tw_884) (fun _ h9 => h9) rfl dX12_kindOf_98 ?_
                  refine lv_bipush (v := 9) hx hb dX12_kindOf_101 (by decide) ?_
                  refine lv_iload_n hx hb dX12_kindOf_103 rfl (lv_at hl 8 rfl) ?_
                  refine lv_imul hx hb dX12_kindOf_104 ?_
                  rw [show (9 : Int32) = nI 9 from rfl, pk_mul 9 t]
                  refine lv_aload_n hx hb dX12_kindOf_105 rfl (lv_at hl 7 rfl) ?_
                  refine hp_get hx hb hts ix12 hown hK hh (q := 0) rfl (hI.1 _ (by decide)) es1166 rfl 2 (by decide) (hts _ tw_881) (fun _ h9 => h9) rfl dX12_kindOf_106 ?_
                  refine lv_iload hx hb dX12_kindOf_109 (lv_at hl 4 rfl) ?_
                  refine lv_imul hx hb dX12_kindOf_111 ?_
                  rw [pk_mul wd j1172]
                  refine lv_iadd hx hb dX12_kindOf_112 ?_
                  rw [nI_add (9 * t) (wd * j1172)]
                  refine lv_iload hx hb dX12_kindOf_113 (lv_at hl 6 rfl) ?_
                  refine lv_iadd hx hb dX12_kindOf_115 ?_
                  rw [nI_add ((9 * t) + (wd * j1172)) j1168]
                  have hi_1184 : wd * j1172 + j1168 < 9 := mdr (by omega) (by omega) (by omega)
                  refine hp_iald hx hb hK hh (q := 1) rfl (hI.1 _ (by decide)) es1167 (vp_in_nI (n := (((9 * t) + (wd * j1172)) + j1168)) (by omega) (by decide)) dX12_kindOf_116 ?_
                  rw [nI_clamp (n := (((9 * t) + (wd * j1172)) + j1168)) (by omega)]
                  refine lv_iadd hx hb dX12_kindOf_117 ?_
                  refine lv_istore (lv' := [(6, .int (ic1172 + (f_1167 (((9 * t) + (wd * j1172)) + j1168)))), (5, .int (ir1172 + (f_1167 (((9 * t) + (wd * j1168)) + j1172)))), (3, .int (sh1172 &&& 1)), (2, .int (ev1172 &&& 1)), (8, .int (f_1167 (((9 * t) + (wd * j1168)) + j1172))), (7, .int (nI j1172)), (4, .int (nI j1168)), (0, .ref (ad 0)), (1, .int (nI t))]) hx hb dX12_kindOf_118 hl (by decide) rfl (fun ls hl => ?_)
                  refine lv_iinc (v := (nI (j1172 + 1))) (lv' := [(7, .int (nI (j1172 + 1))), (6, .int (ic1172 + (f_1167 (((9 * t) + (wd * j1172)) + j1168)))), (5, .int (ir1172 + (f_1167 (((9 * t) + (wd * j1168)) + j1172)))), (3, .int (sh1172 &&& 1)), (2, .int (ev1172 &&& 1)), (8, .int (f_1167 (((9 * t) + (wd * j1168)) + j1172))), (4, .int (nI j1168)), (0, .ref (ad 0)), (1, .int (nI t))]) hx hb dX12_kindOf_120 hl (k := 5) rfl (nI_1 _) (by decide) rfl (fun ls hl => ?_)
                  refine lv_goto (tgt := 25) hx hb dX12_kindOf_123 (by decide) ?_
                  exact ih_1172 ((j1172 + 1)) (ev1172 &&& 1) (sh1172 &&& 1) (ir1172 + (f_1167 (((9 * t) + (wd * j1168)) + j1172))) (ic1172 + (f_1167 (((9 * t) + (wd * j1172)) + j1168))) ls H locs (by omega) (by omega) (by omega) (⟨evU_s (show rdF (en 1) (9 * t + (wd * j1168 + j1172)) = f_1167 (9 * t + wd * j1168 + j1172) from by rw [show rdF (en 1) = f_1167 from by rw [es1167]; rfl, Nat.add_assoc]) i0_1172.1 c_1177, shU_s (show rdF (en 1) (9 * t + (wd * j1168 + j1172)) = f_1167 (9 * t + wd * j1168 + j1172) from by rw [show rdF (en 1) = f_1167 from by rw [es1167]; rfl, Nat.add_assoc]) i0_1172.2.1 (Or.inl c_1183), (by rw [i0_1172.2.2.1, ← (show rdF (en 1) (9 * t + (wd * j1168 + j1172)) = f_1167 (9 * t + wd * j1168 + j1172) from by rw [show rdF (en 1) = f_1167 from by rw [es1167]; rfl, Nat.add_assoc])]; rfl), (by rw [i0_1172.2.2.2, ← (show rdF (en 1) (9 * t + (wd * j1172 + j1168)) = f_1167 (9 * t + wd * j1172 + j1168) from by rw [show rdF (en 1) = f_1167 from by rw [es1167]; rfl, Nat.add_assoc])]; rfl)⟩) (lv_sub hl [0, 1, 2, 6, 3, 4, 7, 8] rfl) hh
                · refine lv_iload hx hb dX12_kindOf_75 (lv_at hl 1 rfl) ?_
                  refine lv_iconst (v := 1) hx hb dX12_kindOf_77 (by decide) ?_
                  refine lv_icmp_ne (tgt := 85) hx hb dX12_kindOf_78 (by decide) (fun c_1185 => ?_) (fun c_1185 => ?_)
                  · refine lv_iconst (v := 0) hx hb dX12_kindOf_85 (by decide) ?_
                    refine lv_iand hx hb dX12_kindOf_86 ?_
                    refine lv_istore_n (lv' := [(3, .int (sh1172 &&& 0)), (2, .int (ev1172 &&& 1)), (8, .int (f_1167 (((9 * t) + (wd * j1168)) + j1172))), (7, .int (nI j1172)), (6, .int ic1172), (5, .int ir1172), (4, .int (nI j1168)), (0, .ref (ad 0)), (1, .int (nI t))]) hx hb dX12_kindOf_87 rfl hl (by decide) rfl (fun ls hl => ?_)
                    refine lv_iload hx hb dX12_kindOf_88 (lv_at hl 5 rfl) ?_
                    refine lv_iload hx hb dX12_kindOf_90 (lv_at hl 2 rfl) ?_
                    refine lv_iadd hx hb dX12_kindOf_92 ?_
                    refine lv_istore (lv' := [(5, .int (ir1172 + (f_1167 (((9 * t) + (wd * j1168)) + j1172)))), (3, .int (sh1172 &&& 0)), (2, .int (ev1172 &&& 1)), (8, .int (f_1167 (((9 * t) + (wd * j1168)) + j1172))), (7, .int (nI j1172)), (6, .int ic1172), (4, .int (nI j1168)), (0, .ref (ad 0)), (1, .int (nI t))]) hx hb dX12_kindOf_93 hl (by decide) rfl (fun ls hl => ?_)
                    refine lv_iload hx hb dX12_kindOf_95 (lv_at hl 5 rfl) ?_
                    refine lv_aload_n hx hb dX12_kindOf_97 rfl (lv_at hl 7 rfl) ?_
                    refine hp_get hx hb hts ix12 hown hK hh (q := 0) rfl (hI.1 _ (by decide)) es1166 rfl 5 (by decide) (hts _ tw_884) (fun _ h9 => h9) rfl dX12_kindOf_98 ?_
                    refine lv_bipush (v := 9) hx hb dX12_kindOf_101 (by decide) ?_
                    refine lv_iload_n hx hb dX12_kindOf_103 rfl (lv_at hl 8 rfl) ?_
                    refine lv_imul hx hb dX12_kindOf_104 ?_
                    rw [show (9 : Int32) = nI 9 from rfl, pk_mul 9 t]
                    refine lv_aload_n hx hb dX12_kindOf_105 rfl (lv_at hl 7 rfl) ?_
                    refine hp_get hx hb hts ix12 hown hK hh (q := 0) rfl (hI.1 _ (by decide)) es1166 rfl 2 (by decide) (hts _ tw_881) (fun _ h9 => h9) rfl dX12_kindOf_106 ?_
                    refine lv_iload hx hb dX12_kindOf_109 (lv_at hl 4 rfl) ?_
                    refine lv_imul hx hb dX12_kindOf_111 ?_
                    rw [pk_mul wd j1172]
                    refine lv_iadd hx hb dX12_kindOf_112 ?_
                    rw [nI_add (9 * t) (wd * j1172)]
                    refine lv_iload hx hb dX12_kindOf_113 (lv_at hl 6 rfl) ?_
                    refine lv_iadd hx hb dX12_kindOf_115 ?_
                    rw [nI_add ((9 * t) + (wd * j1172)) j1168]
                    have hi_1186 : wd * j1172 + j1168 < 9 := mdr (by omega) (by omega) (by omega)
                    refine hp_iald hx hb hK hh (q := 1) rfl (hI.1 _ (by decide)) es1167 (vp_in_nI (n := (((9 * t) + (wd * j1172)) + j1168)) (by omega) (by decide)) dX12_kindOf_116 ?_
                    rw [nI_clamp (n := (((9 * t) + (wd * j1172)) + j1168)) (by omega)]
                    refine lv_iadd hx hb dX12_kindOf_117 ?_
                    refine lv_istore (lv' := [(6, .int (ic1172 + (f_1167 (((9 * t) + (wd * j1172)) + j1168)))), (5, .int (ir1172 + (f_1167 (((9 * t) + (wd * j1168)) + j1172)))), (3, .int (sh1172 &&& 0)), (2, .int (ev1172 &&& 1)), (8, .int (f_1167 (((9 * t) + (wd * j1168)) + j1172))), (7, .int (nI j1172)), (4, .int (nI j1168)), (0, .ref (ad 0)), (1, .int (nI t))]) hx hb dX12_kindOf_118 hl (by decide) rfl (fun ls hl => ?_)
                    refine lv_iinc (v := (nI (j1172 + 1))) (lv' := [(7, .int (nI (j1172 + 1))), (6, .int (ic1172 + (f_1167 (((9 * t) + (wd * j1172)) + j1168)))), (5, .int (ir1172 + (f_1167 (((9 * t) + (wd * j1168)) + j1172)))), (3, .int (sh1172 &&& 0)), (2, .int (ev1172 &&& 1)), (8, .int (f_1167 (((9 * t) + (wd * j1168)) + j1172))), (4, .int (nI j1168)), (0, .ref (ad 0)), (1, .int (nI t))]) hx hb dX12_kindOf_120 hl (k := 5) rfl (nI_1 _) (by decide) rfl (fun ls hl => ?_)
                    refine lv_goto (tgt := 25) hx hb dX12_kindOf_123 (by decide) ?_
                    exact ih_1172 ((j1172 + 1)) (ev1172 &&& 1) (sh1172 &&& 0) (ir1172 + (f_1167 (((9 * t) + (wd * j1168)) + j1172))) (ic1172 + (f_1167 (((9 * t) + (wd * j1172)) + j1168))) ls H locs (by omega) (by omega) (by omega) (⟨evU_s (show rdF (en 1) (9 * t + (wd * j1168 + j1172)) = f_1167 (9 * t + wd * j1168 + j1172) from by rw [show rdF (en 1) = f_1167 from by rw [es1167]; rfl, Nat.add_assoc]) i0_1172.1 c_1177, shU_n (show rdF (en 1) (9 * t + (wd * j1168 + j1172)) = f_1167 (9 * t + wd * j1168 + j1172) from by rw [show rdF (en 1) = f_1167 from by rw [es1167]; rfl, Nat.add_assoc]) i0_1172.2.1 (by omega) c_1183 c_1185, (by rw [i0_1172.2.2.1, ← (show rdF (en 1) (9 * t + (wd * j1168 + j1172)) = f_1167 (9 * t + wd * j1168 + j1172) from by rw [show rdF (en 1) = f_1167 from by rw [es1167]; rfl, Nat.add_assoc])]; rfl), (by rw [i0_1172.2.2.2, ← (show rdF (en 1) (9 * t + (wd * j1172 + j1168)) = f_1167 (9 * t + wd * j1172 + j1168) from by rw [show rdF (en 1) = f_1167 from by rw [es1167]; rfl, Nat.add_assoc])]; rfl)⟩) (lv_sub hl [0, 1, 2, 6, 3, 4, 7, 8] rfl) hh
                  · refine lv_iconst (v := 1) hx hb dX12_kindOf_81 (by decide) ?_
                    refine lv_goto (tgt := 86) hx hb dX12_kindOf_82 (by decide) ?_
                    refine lv_iand hx hb dX12_kindOf_86 ?_
                    refine lv_istore_n (lv' := [(3, .int (sh1172 &&& 1)), (2, .int (ev1172 &&& 1)), (8, .int (f_1167 (((9 * t) + (wd * j1168)) + j1172))), (7, .int (nI j1172)), (6, .int ic1172), (5, .int ir1172), (4, .int (nI j1168)), (0, .ref (ad 0)), (1, .int (nI t))]) hx hb dX12_kindOf_87 rfl hl (by decide) rfl (fun ls hl => ?_)
                    refine lv_iload hx hb dX12_kindOf_88 (lv_at hl 5 rfl) ?_
                    refine lv_iload hx hb dX12_kindOf_90 (lv_at hl 2 rfl) ?_
                    refine lv_iadd hx hb dX12_kindOf_92 ?_
                    refine lv_istore (lv' := [(5, .int (ir1172 + (f_1167 (((9 * t) + (wd * j1168)) + j1172)))), (3, .int (sh1172 &&& 1)), (2, .int (ev1172 &&& 1)), (8, .int (f_1167 (((9 * t) + (wd * j1168)) + j1172))), (7, .int (nI j1172)), (6, .int ic1172), (4, .int (nI j1168)), (0, .ref (ad 0)), (1, .int (nI t))]) hx hb dX12_kindOf_93 hl (by decide) rfl (fun ls hl => ?_)
                    refine lv_iload hx hb dX12_kindOf_95 (lv_at hl 5 rfl) ?_
                    refine lv_aload_n hx hb dX12_kindOf_97 rfl (lv_at hl 7 rfl) ?_
                    refine hp_get hx hb hts ix12 hown hK hh (q := 0) rfl (hI.1 _ (by decide)) es1166 rfl 5 (by decide) (hts _ tw_884) (fun _ h9 => h9) rfl dX12_kindOf_98 ?_
                    refine lv_bipush (v := 9) hx hb dX12_kindOf_101 (by decide) ?_
                    refine lv_iload_n hx hb dX12_kindOf_103 rfl (lv_at hl 8 rfl) ?_
                    refine lv_imul hx hb dX12_kindOf_104 ?_
                    rw [show (9 : Int32) = nI 9 from rfl, pk_mul 9 t]
                    refine lv_aload_n hx hb dX12_kindOf_105 rfl (lv_at hl 7 rfl) ?_
                    refine hp_get hx hb hts ix12 hown hK hh (q := 0) rfl (hI.1 _ (by decide)) es1166 rfl 2 (by decide) (hts _ tw_881) (fun _ h9 => h9) rfl dX12_kindOf_106 ?_
                    refine lv_iload hx hb dX12_kindOf_109 (lv_at hl 4 rfl) ?_
                    refine lv_imul hx hb dX12_kindOf_111 ?_
                    rw [pk_mul wd j1172]
                    refine lv_iadd hx hb dX12_kindOf_112 ?_
                    rw [nI_add (9 * t) (wd * j1172)]
                    refine lv_iload hx hb dX12_kindOf_113 (lv_at hl 6 rfl) ?_
                    refine lv_iadd hx hb dX12_kindOf_115 ?_
                    rw [nI_add ((9 * t) + (wd * j1172)) j1168]
                    have hi_1187 : wd * j1172 + j1168 < 9 := mdr (by omega) (by omega) (by omega)
                    refine hp_iald hx hb hK hh (q := 1) rfl (hI.1 _ (by decide)) es1167 (vp_in_nI (n := (((9 * t) + (wd * j1172)) + j1168)) (by omega) (by decide)) dX12_kindOf_116 ?_
                    rw [nI_clamp (n := (((9 * t) + (wd * j1172)) + j1168)) (by omega)]
                    refine lv_iadd hx hb dX12_kindOf_117 ?_
                    refine lv_istore (lv' := [(6, .int (ic1172 + (f_1167 (((9 * t) + (wd * j1172)) + j1168)))), (5, .int (ir1172 + (f_1167 (((9 * t) + (wd * j1168)) + j1172)))), (3, .int (sh1172 &&& 1)), (2, .int (ev1172 &&& 1)), (8, .int (f_1167 (((9 * t) + (wd * j1168)) + j1172))), (7, .int (nI j1172)), (4, .int (nI j1168)), (0, .ref (ad 0)), (1, .int (nI t))]) hx hb dX12_kindOf_118 hl (by decide) rfl (fun ls hl => ?_)
                    refine lv_iinc (v := (nI (j1172 + 1))) (lv' := [(7, .int (nI (j1172 + 1))), (6, .int (ic1172 + (f_1167 (((9 * t) + (wd * j1172)) + j1168)))), (5, .int (ir1172 + (f_1167 (((9 * t) + (wd * j1168)) + j1172)))), (3, .int (sh1172 &&& 1)), (2, .int (ev1172 &&& 1)), (8, .int (f_1167 (((9 * t) + (wd * j1168)) + j1172))), (4, .int (nI j1168)), (0, .ref (ad 0)), (1, .int (nI t))]) hx hb dX12_kindOf_120 hl (k := 5) rfl (nI_1 _) (by decide) rfl (fun ls hl => ?_)
                    refine lv_goto (tgt := 25) hx hb dX12_kindOf_123 (by decide) ?_
                    exact ih_1172 ((j1172 + 1)) (ev1172 &&& 1) (sh1172 &&& 1) (ir1172 + (f_1167 (((9 * t) + (wd * j1168)) + j1172))) (ic1172 + (f_1167 (((9 * t) + (wd * j1172)) + j1168))) ls H locs (by omega) (by omega) (by omega) (⟨evU_s (show rdF (en 1) (9 * t + (wd * j1168 + j1172)) = f_1167 (9 * t + wd * j1168 + j1172) from by rw [show rdF (en 1) = f_1167 from by rw [es1167]; rfl, Nat.add_assoc]) i0_1172.1 c_1177, shU_s (show rdF (en 1) (9 * t + (wd * j1168 + j1172)) = f_1167 (9 * t + wd * j1168 + j1172) from by rw [show rdF (en 1) = f_1167 from by rw [es1167]; rfl, Nat.add_assoc]) i0_1172.2.1 (Or.inr c_1185), (by rw [i0_1172.2.2.1, ← (show rdF (en 1) (9 * t + (wd * j1168 + j1172)) = f_1167 (9 * t + wd * j1168 + j1172) from by rw [show rdF (en 1) = f_1167 from by rw [es1167]; rfl, Nat.add_assoc])]; rfl), (by rw [i0_1172.2.2.2, ← (show rdF (en 1) (9 * t + (wd * j1172 + j1168)) = f_1167 (9 * t + wd * j1172 + j1168) from by rw [show rdF (en 1) = f_1167 from by rw [es1167]; rfl, Nat.add_assoc])]; rfl)⟩) (lv_sub hl [0, 1, 2, 6, 3, 4, 7, 8] rfl) hh
        exact loop_1172 (wd + 1) 0 ev1168 sh1168 0 0 ls _ _ (Nat.le_refl _) (by omega) (by omega) (⟨i0_1168.1, i0_1168.2, rfl, rfl⟩) (lv_sub hl [0, 1, 2, 3, 4, 5, 6, 7] rfl) hh
  exact loop_1168 (wd + 1) 0 1 1 ls _ _ (Nat.le_refl _) (by omega) (by omega) (⟨Or.inl ⟨rfl, fun a b hb hab => absurd hab (by omega)⟩, Or.inl ⟨rfl, fun a b hb hab => absurd hab (by omega), fun a ha => absurd ha (by omega)⟩⟩) (lv_sub hl [0, 1, 2, 3, 4] rfl) hh
theorem kw_X12_kindOf {R : Room} {s : State} {args : Array Value} {own : String} {idx : Nat} (hts : ∀ w ∈ TB, w.before args s = true) (hl : Cond.methodLink own idx yX12_kindOf ∈ TB) (hR : 0 + 1 ≤ R.frames ∧ 8 + (9 + 11) + 40 * 0 ≤ R.locals) : CallW R s args own RX12 idx yX12_kindOf cX12_kindOf 9 (some .int) (Cond.code yX12_kindOf cX12_kindOf 9 (some .int) :: TB) (rmN 0) 0 0 1 := cwV 1 hts (TB_V hl tw_1225 ts_61 tw_9 tw_1226) rfl rfl rfl (by decide +kernel) hR
set_option maxHeartbeats 4000000 in
set_option maxRecDepth 100000 in
/-- trackOf -/
theorem c_X12_trackOf (l : Launch) (D : va_G) (cy : Nat → ClassId) (sz : Nat) (cs : List Nat) (ad : Nat → Nat) (en : Nat → va_E) (hI : RX cy cs ad en) (t : Nat) (ht6 : t < 6)   : Met l yX12_trackOf (Cond.code yX12_trackOf cX12_trackOf 4 (some .int) :: TB) (rmN 0) (va_Pc [.ref (ad 0), .int (nI t)] (Pre D cy cs ad en sz)) (va_Qi (S := Unit) (fun r _ => r = sumI (fun i => rdF (en 1) (9 * t + (i * (rdI (en 0) 2).toNatClampNeg + i))) (rdI (en 0) 2).toNatClampNeg) (fun _ _ => True) (Nf sz)) 0 0 (Nf sz) := by
  refine Met.ofW (cc := cX12_trackOf) (maxL := 4) (ret := (some .int)) (by decide) rfl ?_
  intro p e s m args below meth c s₁ B hml hv
  obtain ⟨rfl, hsz, hP, hK, hD0⟩ := hv
  have hx := B.exec
  have hb := B.bytes
  have hr := B.returns
  have hts : ∀ w ∈ TB, w.before _ s = true := fun w h => atoms_spec (ws := _ :: TB) B.pre w (List.mem_cons_of_mem _ h)
  have hown : s.vm.findClass RX12 = some m.cls := findClass_of_methodNamed B.named
  have hlocks := B.notSynchronized
  have hh : Hp D (Nf sz) (fun _ => True) s.heap s.heap [] cs ad en := ⟨hP, hD0, va_S.rf⟩
  have hA : ∀ q : Nat, s.heap.size ≤ q → Nf sz q := fun q h => by rw [hsz] at h; exact h
  have hl := lv_entry ([.ref (ad 0), .int (nI t)]) (n := 4) (Nat.le_of_ble_eq_true rfl)
  rw [lg_entry_eq]
  generalize (lg_sl ([.ref (ad 0), .int (nI t)]) ++ List.replicate (4 - (lg_sl ([.ref (ad 0), .int (nI t)])).length) Slot.unset).toArray = ls at hl ⊢
  have hl : lv_has ls 4 [(0, .ref (ad 0)), (1, .int (nI t))] := hl
  obtain ⟨fa, hi, wd, mo, tb, dp, many, grt, lst, nou, rm, rb, pr, wo, es1188, hwd2, hwd3, hmo, htb, hwo⟩ := getr_M hI
  obtain ⟨f_1189, es1189⟩ := getr_E hI
  refine lv_iconst (v := 0) hx hb dX12_trackOf_0 (by decide) ?_
  refine lv_istore_n (lv' := [(2, .int 0), (0, .ref (ad 0)), (1, .int (nI t))]) hx hb dX12_trackOf_1 rfl hl (by decide) rfl (fun ls hl => ?_)
  refine lv_iconst (v := 0) hx hb dX12_trackOf_2 (by decide) ?_
  refine lv_istore_n (lv' := [(3, .int 0), (2, .int 0), (0, .ref (ad 0)), (1, .int (nI t))]) hx hb dX12_trackOf_3 rfl hl (by decide) rfl (fun ls hl => ?_)
  have loop_1190 : ∀ (fu j1190 : Nat) (ac1190 : Int32)  (ls : Array Slot) (H : Heap) (locs : List Loc), 0 ≤ j1190 → j1190 ≤ wd → wd < j1190 + fu →  (ac1190 = sumI (fun i => rdF (en 1) (9 * t + (i * wd + i))) j1190) → lv_has ls 4 [(3, .int (nI j1190)), (2, .int ac1190), (0, .ref (ad 0)), (1, .int (nI t))] → Hp D (Nf sz) (fun _ => True) s.heap H locs cs ad en → W p l e (headSpec (Cond.code yX12_trackOf cX12_trackOf 4 (some .int) :: TB) (rmN 0)).room s m ([.ref (ad 0), .int (nI t)] : List Value).toArray below meth c H locs 0 0 (MQ below (va_Qi (S := Unit) (fun r _ => r = sumI (fun i => rdF (en 1) (9 * t + (i * (rdI (en 0) 2).toNatClampNeg + i))) (rdI (en 0) 2).toNatClampNeg) (fun _ _ => True) (Nf sz)) ([.ref (ad 0), .int (nI t)] : List Value).toArray s 0 0 (Nf sz)) (F0 m 4 ls []) := by
    intro fu
    induction fu with
    | zero => intro j1190 ac1190 ls H locs h0 h1 h2; exact absurd h2 (by omega)
    | succ fu ih_1190 =>
      intro j1190 ac1190 ls H locs hj0_1190 hj_1190 hfu_1190 i0_1190 hl hh
      refine lv_iload_n hx hb dX12_trackOf_4 rfl (lv_at hl 0 rfl) ?_
      refine lv_aload_n hx hb dX12_trackOf_5 rfl (lv_at hl 2 rfl) ?_
      refine hp_get hx hb hts ix12 hown hK hh (q := 0) rfl (hI.1 _ (by decide)) es1188 rfl 2 (by decide) (hts _ tw_881) (fun _ h9 => h9) rfl dX12_trackOf_6 ?_
      refine lv_icmp_ge (tgt := 39) hx hb dX12_trackOf_9 (by decide) (fun c_1191 => ?_) (fun c_1191 => ?_)
      · have n_1191 : wd ≤ j1190 := n_le (a := wd) (b := j1190) c_1191 (by omega) (by omega)
        refine lv_iload_n hx hb dX12_trackOf_39 rfl (lv_at hl 1 rfl) ?_
        exact hp_iretR hx hb hr rfl hlocks hsz hh ((by rw [show rdI (en 0) 2 = nI wd from by rw [es1188]; rfl, nI_clamp (n := wd) (by omega)]; have e9 : j1190 = wd := (by omega); rw [e9] at i0_1190; exact i0_1190)) dX12_trackOf_40
      · have n_1191 : j1190 < wd := n_nle (a := wd) (b := j1190) c_1191 (by omega) (by omega)
        refine lv_iload_n hx hb dX12_trackOf_12 rfl (lv_at hl 1 rfl) ?_
        refine lv_aload_n hx hb dX12_trackOf_13 rfl (lv_at hl 2 rfl) ?_
        refine hp_get hx hb hts ix12 hown hK hh (q := 0) rfl (hI.1 _ (by decide)) es1188 rfl 5 (by decide) (hts _ tw_884) (fun _ h9 => h9) rfl dX12_trackOf_14 ?_
        refine lv_bipush (v := 9) hx hb dX12_trackOf_17 (by decide) ?_
        refine lv_iload_n hx hb dX12_trackOf_19 rfl (lv_at hl 3 rfl) ?_
        refine lv_imul hx hb dX12_trackOf_20 ?_
        rw [show (9 : Int32) = nI 9 from rfl, pk_mul 9 t]
        refine lv_aload_n hx hb dX12_trackOf_21 rfl (lv_at hl 2 rfl) ?_
        refine hp_get hx hb hts ix12 hown hK hh (q := 0) rfl (hI.1 _ (by decide)) es1188 rfl 2 (by decide) (hts _ tw_881) (fun _ h9 => h9) rfl dX12_trackOf_22 ?_
        refine lv_iload_n hx hb dX12_trackOf_25 rfl (lv_at hl 0 rfl) ?_
        refine lv_imul hx hb dX12_trackOf_26 ?_
        rw [pk_mul wd j1190]
        refine lv_iadd hx hb dX12_trackOf_27 ?_
        rw [nI_add (9 * t) (wd * j1190)]
        refine lv_iload_n hx hb dX12_trackOf_28 rfl (lv_at hl 0 rfl) ?_
        refine lv_iadd hx hb dX12_trackOf_29 ?_
        rw [nI_add ((9 * t) + (wd * j1190)) j1190]
        have hi_1192 : wd * j1190 + j1190 < 9 := mdr (by omega) (by omega) (by omega)
        refine hp_iald hx hb hK hh (q := 1) rfl (hI.1 _ (by decide)) es1189 (vp_in_nI (n := (((9 * t) + (wd * j1190)) + j1190)) (by omega) (by decide)) dX12_trackOf_30 ?_
        rw [nI_clamp (n := (((9 * t) + (wd * j1190)) + j1190)) (by omega)]
        refine lv_iadd hx hb dX12_trackOf_31 ?_
        refine lv_istore_n (lv' := [(2, .int (ac1190 + (f_1189 (((9 * t) + (wd * j1190)) + j1190)))), (3, .int (nI j1190)), (0, .ref (ad 0)), (1, .int (nI t))]) hx hb dX12_trackOf_32 rfl hl (by decide) rfl (fun ls hl => ?_)
        refine lv_iinc (v := (nI (j1190 + 1))) (lv' := [(3, .int (nI (j1190 + 1))), (2, .int (ac1190 + (f_1189 (((9 * t) + (wd * j1190)) + j1190)))), (0, .ref (ad 0)), (1, .int (nI t))]) hx hb dX12_trackOf_33 hl (k := 1) rfl (nI_1 _) (by decide) rfl (fun ls hl => ?_)
        refine lv_goto (tgt := 4) hx hb dX12_trackOf_36 (by decide) ?_
        exact ih_1190 ((j1190 + 1)) (ac1190 + (f_1189 (((9 * t) + (wd * j1190)) + j1190))) ls H locs (by omega) (by omega) (by omega) (by rw [i0_1190]; show _ = sumI _ j1190 + rdF (en 1) (9 * t + (j1190 * wd + j1190)); rw [show rdF (en 1) = f_1189 from by rw [es1189]; rfl, Nat.mul_comm j1190 wd, Nat.add_assoc]) (lv_sub hl [0, 1, 2, 3] rfl) hh
  exact loop_1190 (wd + 1) 0 0 ls _ _ (Nat.le_refl _) (by omega) (by omega) (rfl) (lv_sub hl [0, 1, 2, 3] rfl) hh
theorem kw_X12_trackOf {R : Room} {s : State} {args : Array Value} {own : String} {idx : Nat} (hts : ∀ w ∈ TB, w.before args s = true) (hl : Cond.methodLink own idx yX12_trackOf ∈ TB) (hR : 0 + 1 ≤ R.frames ∧ 8 + (4 + 11) + 40 * 0 ≤ R.locals) : CallW R s args own RX12 idx yX12_trackOf cX12_trackOf 4 (some .int) (Cond.code yX12_trackOf cX12_trackOf 4 (some .int) :: TB) (rmN 0) 0 0 1 := cwV 1 hts (TB_V hl tw_1233 ts_63 tw_9 tw_1234) rfl rfl rfl (by decide +kernel) hR
set_option maxHeartbeats 4000000 in
set_option maxRecDepth 100000 in
/-- greatestOf -/
theorem c_X12_greatestOf (l : Launch) (D : va_G) (cy : Nat → ClassId) (sz : Nat) (cs : List Nat) (ad : Nat → Nat) (en : Nat → va_E) (hI : RX cy cs ad en) (t : Nat) (ht6 : t < 6)   : Met l yX12_greatestOf (Cond.code yX12_greatestOf cX12_greatestOf 4 (some .int) :: TB) (rmN 0) (va_Pc [.ref (ad 0), .int (nI t)] (Pre D cy cs ad en sz)) (va_Qi (S := Unit) (fun r _ => r = mxR (fun i => rdF (en 1) (9 * t + i)) ((rdI (en 0) 2).toNatClampNeg * (rdI (en 0) 2).toNatClampNeg)) (fun _ _ => True) (Nf sz)) 0 0 (Nf sz) := by
  refine Met.ofW (cc := cX12_greatestOf) (maxL := 4) (ret := (some .int)) (by decide) rfl ?_
  intro p e s m args below meth c s₁ B hml hv
  obtain ⟨rfl, hsz, hP, hK, hD0⟩ := hv
  have hx := B.exec
  have hb := B.bytes
  have hr := B.returns
  have hts : ∀ w ∈ TB, w.before _ s = true := fun w h => atoms_spec (ws := _ :: TB) B.pre w (List.mem_cons_of_mem _ h)
  have hown : s.vm.findClass RX12 = some m.cls := findClass_of_methodNamed B.named
  have hlocks := B.notSynchronized
  have hh : Hp D (Nf sz) (fun _ => True) s.heap s.heap [] cs ad en := ⟨hP, hD0, va_S.rf⟩
  have hA : ∀ q : Nat, s.heap.size ≤ q → Nf sz q := fun q h => by rw [hsz] at h; exact h
  have hl := lv_entry ([.ref (ad 0), .int (nI t)]) (n := 4) (Nat.le_of_ble_eq_true rfl)
  rw [lg_entry_eq]
  generalize (lg_sl ([.ref (ad 0), .int (nI t)]) ++ List.replicate (4 - (lg_sl ([.ref (ad 0), .int (nI t)])).length) Slot.unset).toArray = ls at hl ⊢
  have hl : lv_has ls 4 [(0, .ref (ad 0)), (1, .int (nI t))] := hl
  obtain ⟨fa, hi, wd, mo, tb, dp, many, grt, lst, nou, rm, rb, pr, wo, es1193, hwd2, hwd3, hmo, htb, hwo⟩ := getr_M hI
  obtain ⟨f_1194, es1194⟩ := getr_E hI
  have hww : wd * wd ≤ 9 := mww (by omega)
  refine lv_aload_n hx hb dX12_greatestOf_0 rfl (lv_at hl 0 rfl) ?_
  refine hp_get hx hb hts ix12 hown hK hh (q := 0) rfl (hI.1 _ (by decide)) es1193 rfl 5 (by decide) (hts _ tw_884) (fun _ h9 => h9) rfl dX12_greatestOf_1 ?_
  refine lv_bipush (v := 9) hx hb dX12_greatestOf_4 (by decide) ?_
  refine lv_iload_n hx hb dX12_greatestOf_6 rfl (lv_at hl 1 rfl) ?_
  refine lv_imul hx hb dX12_greatestOf_7 ?_
  rw [show (9 : Int32) = nI 9 from rfl, pk_mul 9 t]
  refine hp_iald hx hb hK hh (q := 1) rfl (hI.1 _ (by decide)) es1194 (vp_in_nI (n := (9 * t)) (by omega) (by decide)) dX12_greatestOf_8 ?_
  rw [nI_clamp (n := (9 * t)) (by omega)]
  refine lv_istore_n (lv' := [(2, .int (f_1194 (9 * t))), (0, .ref (ad 0)), (1, .int (nI t))]) hx hb dX12_greatestOf_9 rfl hl (by decide) rfl (fun ls hl => ?_)
  refine lv_iconst (v := 0) hx hb dX12_greatestOf_10 (by decide) ?_
  refine lv_istore_n (lv' := [(3, .int 0), (2, .int (f_1194 (9 * t))), (0, .ref (ad 0)), (1, .int (nI t))]) hx hb dX12_greatestOf_11 rfl hl (by decide) rfl (fun ls hl => ?_)
  have loop_1195 : ∀ (fu j1195 : Nat) (mx1195 : Int32)  (ls : Array Slot) (H : Heap) (locs : List Loc), 0 ≤ j1195 → j1195 ≤ (wd * wd) → (wd * wd) < j1195 + fu →  (mx1195 = mxR (fun i => rdF (en 1) (9 * t + i)) j1195) → lv_has ls 4 [(3, .int (nI j1195)), (2, .int mx1195), (0, .ref (ad 0)), (1, .int (nI t))] → Hp D (Nf sz) (fun _ => True) s.heap H locs cs ad en → W p l e (headSpec (Cond.code yX12_greatestOf cX12_greatestOf 4 (some .int) :: TB) (rmN 0)).room s m ([.ref (ad 0), .int (nI t)] : List Value).toArray below meth c H locs 0 0 (MQ below (va_Qi (S := Unit) (fun r _ => r = mxR (fun i => rdF (en 1) (9 * t + i)) ((rdI (en 0) 2).toNatClampNeg * (rdI (en 0) 2).toNatClampNeg)) (fun _ _ => True) (Nf sz)) ([.ref (ad 0), .int (nI t)] : List Value).toArray s 0 0 (Nf sz)) (F0 m 12 ls []) := by
    intro fu
    induction fu with
    | zero => intro j1195 mx1195 ls H locs h0 h1 h2; exact absurd h2 (by omega)
    | succ fu ih_1195 =>
      intro j1195 mx1195 ls H locs hj0_1195 hj_1195 hfu_1195 i0_1195 hl hh
      refine lv_iload_n hx hb dX12_greatestOf_12 rfl (lv_at hl 0 rfl) ?_
      refine lv_aload_n hx hb dX12_greatestOf_13 rfl (lv_at hl 2 rfl) ?_
      refine hp_get hx hb hts ix12 hown hK hh (q := 0) rfl (hI.1 _ (by decide)) es1193 rfl 2 (by decide) (hts _ tw_881) (fun _ h9 => h9) rfl dX12_greatestOf_14 ?_
      refine lv_aload_n hx hb dX12_greatestOf_17 rfl (lv_at hl 2 rfl) ?_
      refine hp_get hx hb hts ix12 hown hK hh (q := 0) rfl (hI.1 _ (by decide)) es1193 rfl 2 (by decide) (hts _ tw_881) (fun _ h9 => h9) rfl dX12_greatestOf_18 ?_
      refine lv_imul hx hb dX12_greatestOf_21 ?_
      rw [pk_mul wd wd]
      have hw2_1196 : wd * wd ≤ 9 := mww (by omega)
      refine lv_icmp_ge (tgt := 62) hx hb dX12_greatestOf_22 (by decide) (fun c_1197 => ?_) (fun c_1197 => ?_)
      · have n_1197 : (wd * wd) ≤ j1195 := n_le (a := (wd * wd)) (b := j1195) c_1197 (by omega) (by omega)
        refine lv_iload_n hx hb dX12_greatestOf_62 rfl (lv_at hl 1 rfl) ?_
        exact hp_iretR hx hb hr rfl hlocks hsz hh ((by rw [show rdI (en 0) 2 = nI wd from by rw [es1193]; rfl, nI_clamp (n := wd) (by omega)]; have e9 : j1195 = wd * wd := (by omega); rw [e9] at i0_1195; exact i0_1195)) dX12_greatestOf_63
      · have n_1197 : j1195 < (wd * wd) := n_nle (a := (wd * wd)) (b := j1195) c_1197 (by omega) (by omega)
        refine lv_aload_n hx hb dX12_greatestOf_25 rfl (lv_at hl 2 rfl) ?_
        refine hp_get hx hb hts ix12 hown hK hh (q := 0) rfl (hI.1 _ (by decide)) es1193 rfl 5 (by decide) (hts _ tw_884) (fun _ h9 => h9) rfl dX12_greatestOf_26 ?_
        refine lv_bipush (v := 9) hx hb dX12_greatestOf_29 (by decide) ?_
        refine lv_iload_n hx hb dX12_greatestOf_31 rfl (lv_at hl 3 rfl) ?_
        refine lv_imul hx hb dX12_greatestOf_32 ?_
        rw [show (9 : Int32) = nI 9 from rfl, pk_mul 9 t]
        refine lv_iload_n hx hb dX12_greatestOf_33 rfl (lv_at hl 0 rfl) ?_
        refine lv_iadd hx hb dX12_greatestOf_34 ?_
        rw [nI_add (9 * t) j1195]
        refine hp_iald hx hb hK hh (q := 1) rfl (hI.1 _ (by decide)) es1194 (vp_in_nI (n := ((9 * t) + j1195)) (by omega) (by decide)) dX12_greatestOf_35 ?_
        rw [nI_clamp (n := ((9 * t) + j1195)) (by omega)]
        refine lv_iload_n hx hb dX12_greatestOf_36 rfl (lv_at hl 1 rfl) ?_
        refine lv_icmp_le (tgt := 54) hx hb dX12_greatestOf_37 (by decide) (fun c_1198 => ?_) (fun c_1198 => ?_)
        · refine lv_iload_n hx hb dX12_greatestOf_54 rfl (lv_at hl 1 rfl) ?_
          refine lv_istore_n (lv' := [(2, .int mx1195), (3, .int (nI j1195)), (0, .ref (ad 0)), (1, .int (nI t))]) hx hb dX12_greatestOf_55 rfl hl (by decide) rfl (fun ls hl => ?_)
          refine lv_iinc (v := (nI (j1195 + 1))) (lv' := [(3, .int (nI (j1195 + 1))), (2, .int mx1195), (0, .ref (ad 0)), (1, .int (nI t))]) hx hb dX12_greatestOf_56 hl (k := 1) rfl (nI_1 _) (by decide) rfl (fun ls hl => ?_)
          refine lv_goto (tgt := 12) hx hb dX12_greatestOf_59 (by decide) ?_
          exact ih_1195 ((j1195 + 1)) mx1195 ls H locs (by omega) (by omega) (by omega) (by show _ = maxI (mxR (fun i => rdF (en 1) (9 * t + i)) j1195) (rdF (en 1) (9 * t + j1195)); rw [← i0_1195, show rdF (en 1) (9 * t + j1195) = f_1194 (9 * t + j1195) from by rw [es1194]; rfl]; unfold maxI; exact (if_neg (Int32.not_lt.mpr c_1198)).symm) (lv_sub hl [0, 1, 2, 3] rfl) hh
        · refine lv_aload_n hx hb dX12_greatestOf_40 rfl (lv_at hl 2 rfl) ?_
          refine hp_get hx hb hts ix12 hown hK hh (q := 0) rfl (hI.1 _ (by decide)) es1193 rfl 5 (by decide) (hts _ tw_884) (fun _ h9 => h9) rfl dX12_greatestOf_41 ?_
          refine lv_bipush (v := 9) hx hb dX12_greatestOf_44 (by decide) ?_
          refine lv_iload_n hx hb dX12_greatestOf_46 rfl (lv_at hl 3 rfl) ?_
          refine lv_imul hx hb dX12_greatestOf_47 ?_
          rw [show (9 : Int32) = nI 9 from rfl, pk_mul 9 t]
          refine lv_iload_n hx hb dX12_greatestOf_48 rfl (lv_at hl 0 rfl) ?_
          refine lv_iadd hx hb dX12_greatestOf_49 ?_
          rw [nI_add (9 * t) j1195]
          refine hp_iald hx hb hK hh (q := 1) rfl (hI.1 _ (by decide)) es1194 (vp_in_nI (n := ((9 * t) + j1195)) (by omega) (by decide)) dX12_greatestOf_50 ?_
          rw [nI_clamp (n := ((9 * t) + j1195)) (by omega)]
          refine lv_goto (tgt := 55) hx hb dX12_greatestOf_51 (by decide) ?_
          refine lv_istore_n (lv' := [(2, .int (f_1194 ((9 * t) + j1195))), (3, .int (nI j1195)), (0, .ref (ad 0)), (1, .int (nI t))]) hx hb dX12_greatestOf_55 rfl hl (by decide) rfl (fun ls hl => ?_)
          refine lv_iinc (v := (nI (j1195 + 1))) (lv' := [(3, .int (nI (j1195 + 1))), (2, .int (f_1194 ((9 * t) + j1195))), (0, .ref (ad 0)), (1, .int (nI t))]) hx hb dX12_greatestOf_56 hl (k := 1) rfl (nI_1 _) (by decide) rfl (fun ls hl => ?_)
          refine lv_goto (tgt := 12) hx hb dX12_greatestOf_59 (by decide) ?_
          exact ih_1195 ((j1195 + 1)) (f_1194 ((9 * t) + j1195)) ls H locs (by omega) (by omega) (by omega) (by show _ = maxI (mxR (fun i => rdF (en 1) (9 * t + i)) j1195) (rdF (en 1) (9 * t + j1195)); rw [← i0_1195, show rdF (en 1) (9 * t + j1195) = f_1194 (9 * t + j1195) from by rw [es1194]; rfl]; unfold maxI; exact (if_pos (Int32.not_le.mp c_1198)).symm) (lv_sub hl [0, 1, 2, 3] rfl) hh
  exact loop_1195 ((wd * wd) + 1) 0 (f_1194 (9 * t)) ls _ _ (Nat.le_refl _) (by omega) (by omega) ((by show _ = rdF (en 1) (9 * t + 0); rw [show rdF (en 1) = f_1194 from by rw [es1194]; rfl]; rfl)) (lv_sub hl [0, 1, 2, 3] rfl) hh
theorem kw_X12_greatestOf {R : Room} {s : State} {args : Array Value} {own : String} {idx : Nat} (hts : ∀ w ∈ TB, w.before args s = true) (hl : Cond.methodLink own idx yX12_greatestOf ∈ TB) (hR : 0 + 1 ≤ R.frames ∧ 8 + (4 + 11) + 40 * 0 ≤ R.locals) : CallW R s args own RX12 idx yX12_greatestOf cX12_greatestOf 4 (some .int) (Cond.code yX12_greatestOf cX12_greatestOf 4 (some .int) :: TB) (rmN 0) 0 0 1 := cwV 1 hts (TB_V hl tw_1237 ts_64 tw_9 tw_1238) rfl rfl rfl (by decide +kernel) hR
set_option maxHeartbeats 4000000 in
set_option maxRecDepth 100000 in
/-- tell -/
theorem c_X12_tell (l : Launch) (D : va_G) (cy : Nat → ClassId) (sz : Nat) (cs : List Nat) (ad : Nat → Nat) (en : Nat → va_E) (hI : RX cy cs ad en) (t : Int32)   : Met l yX12_tell (Cond.code yX12_tell cX12_tell 3 (some .int) :: TB) (rmN 1) (va_Pc [.ref (ad 0), .int t] (Pre D cy cs ad en sz)) (va_Qi (S := Nat → va_E) (fun r en1 => RX cy cs ad en1 ∧ (∀ c, (c ≠ 0) → en1 c = en c) ∧ RTE t r en en1 ∧ KPx en en1) (PostM D cs ad) (Af cs ad sz)) 0 0 (Af cs ad sz) := by
  refine Met.ofW (cc := cX12_tell) (maxL := 3) (ret := (some .int)) (by decide) rfl ?_
  intro p e s m args below meth c s₁ B hml hv
  obtain ⟨rfl, hsz, hP, hK, hD0⟩ := hv
  have hx := B.exec
  have hb := B.bytes
  have hr := B.returns
  have hts : ∀ w ∈ TB, w.before _ s = true := fun w h => atoms_spec (ws := _ :: TB) B.pre w (List.mem_cons_of_mem _ h)
  have hown : s.vm.findClass RX12 = some m.cls := findClass_of_methodNamed B.named
  have hlocks := B.notSynchronized
  have hh : Hp D (Af cs ad sz) (Af cs ad sz) s.heap s.heap [] cs ad en := ⟨hP, Af_self hD0, va_S.rf⟩
  have hA : ∀ q : Nat, s.heap.size ≤ q → Af cs ad sz q := fun q h => Or.inr (by rw [hsz] at h; exact h)
  have hl := lv_entry ([.ref (ad 0), .int t]) (n := 3) (Nat.le_of_ble_eq_true rfl)
  rw [lg_entry_eq]
  generalize (lg_sl ([.ref (ad 0), .int t]) ++ List.replicate (3 - (lg_sl ([.ref (ad 0), .int t])).length) Slot.unset).toArray = ls at hl ⊢
  have hl : lv_has ls 3 [(0, .ref (ad 0)), (1, .int t)] := hl
  have hf0 : ∀ c, (c ≠ 0) → en c = en c := fun _ _ => rfl
  obtain ⟨fa, hi, wd, mo, tb, dp, many, grt, lst, nou, rm, rb, pr, wo, es1199, hwd2, hwd3, hmo, htb, hwo⟩ := getr_M hI
  refine lv_aload_n hx hb dX12_tell_0 rfl (lv_at hl 0 rfl) ?_
  refine lv_iload_n hx hb dX12_tell_1 rfl (lv_at hl 1 rfl) ?_
  refine hp_callRi (va_runV (As := [.int t]) (rest := []) ⟨hx, hb, hml, hown, hts⟩ (c_X12_isTable l D cy _ cs ad en hI t ) (kw_X12_isTable hts tw_1007 ⟨by decide, by decide⟩) (preV_of hh hK (hI.1 _ (by decide)) es1199 rfl) rfl rfl hl.1 rfl (lv_room (Nat.le_of_ble_eq_true rfl)) dX12_tell_2 ⟨Nat.le_of_ble_eq_true rfl, Nat.le_of_ble_eq_true rfl⟩) hh hA (fun r_1200 H locs hw_1200 hh => ?_)
  rw [show rdI (en 0) 4 = (nI tb) from by rw [es1199]; rfl, nI_toInt (n := tb) (by omega)] at hw_1200
  rcases Decidable.em (0 ≤ t.toInt ∧ t.toInt < (tb : Int)) with hp_1200 | hp_1200
  · obtain rfl : r_1200 = 1 := Eq.trans hw_1200 (if_pos hp_1200)
    obtain ⟨T_1200, rfl, hT_1200⟩ := has_nat hp_1200
    refine lv_if_ne (tgt := 10) hx hb dX12_tell_5 (by decide) (fun _ => ?_) (fun c_0 => absurd c_0 (by decide))
    refine lv_aload_n hx hb dX12_tell_10 rfl (lv_at hl 0 rfl) ?_
    refine lv_iload_n hx hb dX12_tell_11 rfl (lv_at hl 1 rfl) ?_
    refine hp_callRi (va_runV (As := [.int (nI T_1200)]) (rest := []) ⟨hx, hb, hml, hown, hts⟩ (c_X12_kindOf l D cy _ cs ad en hI T_1200 (by omega)) (kw_X12_kindOf hts tw_1223 ⟨by decide, by decide⟩) (preV_of hh hK (hI.1 _ (by decide)) es1199 rfl) rfl rfl hl.1 rfl (lv_room (Nat.le_of_ble_eq_true rfl)) dX12_tell_12 ⟨Nat.le_of_ble_eq_true rfl, Nat.le_of_ble_eq_true rfl⟩) hh hA (fun r_1201 H locs hw_1201 hh => ?_)
    have hk_1201 := hw_1201
    rcases hw_1201 with hb_1201 | hb_1201 | hb_1201
    · obtain rfl : r_1201 = 2 := hb_1201.1
      refine lv_istore_n (lv' := [(2, .int 2), (0, .ref (ad 0)), (1, .int (nI T_1200))]) hx hb dX12_tell_15 rfl hl (by decide) rfl (fun ls hl => ?_)
      refine lv_iload_n hx hb dX12_tell_16 rfl (lv_at hl 0 rfl) ?_
      refine lv_iconst (v := 2) hx hb dX12_tell_17 (by decide) ?_
      refine lv_icmp_ne (tgt := 26) hx hb dX12_tell_18 (by decide) (fun c_0 => absurd c_0 (by decide)) (fun _ => ?_)
      refine lv_aload_n hx hb dX12_tell_21 rfl (lv_at hl 1 rfl) ?_
      refine lv_iconst (v := 3) hx hb dX12_tell_22 (by decide) ?_
      refine hp_callMv (va_runV (As := [.int 3]) (rest := []) ⟨hx, hb, hml, hown, hts⟩ (c_X12_begins l D cy _ cs ad en (hI.1 _ (by decide)) fa hi wd mo tb dp many grt lst nou rm rb pr wo 3 es1199) (kw_X12_begins hts tw_1227 ⟨by decide, by decide⟩) (preV_of hh hK (hI.1 _ (by decide)) es1199 rfl) rfl rfl hl.1 rfl (lv_room (Nat.le_of_ble_eq_true rfl)) dX12_tell_23 ⟨Nat.le_of_ble_eq_true rfl, Nat.le_of_ble_eq_true rfl⟩) hh hA (fun H locs en_1202 hw_1202 hh => ?_)
      have hen_1202 := hw_1202
      have es1199_1202 : en_1202 0 = .inr (11, [.int fa, .int (31 * hi + 3), .int (nI wd), .int (nI mo), .int (nI tb), .ref (ad 1), .ref (ad 2), .ref (ad 3), .ref (ad 4), .ref (ad 5), .ref (ad 6), .ref (ad 7), .ref (ad 8), .ref (ad 9), .int dp, .long many, .long grt, .long lst, .long nou, .ref (ad 10), .ref (ad 11), .ref (ad 12), .int rm, .long rb, .ref (ad 13), .int pr, .ref (ad 14), .ref (ad 15), .ref (ad 16), .ref (ad 17), .int (nI wo), .ref (ad 18), .ref (ad 19)]) := by rw [hen_1202]; exact va_up_self _ _ _
      have hI_1202 : RX cy cs ad en_1202 := by rw [hen_1202]; exact upr_M hI ⟨fa, (31 * hi + 3), wd, mo, tb, dp, many, grt, lst, nou, rm, rb, pr, wo, rfl, hwd2, hwd3, hmo, htb, hwo⟩
      have hf_1202 : ∀ c, (c ≠ 0) → en_1202 c = en c := fun c hc => Eq.trans (show en_1202 c = en c from by rw [hen_1202, va_up_ne _ _ (by omega)]) (hf0 c hc)
      have hkp_1202 : KPx en en_1202 := KPx_fv (KPx_rf en) es1199 es1199_1202 (nI wd) (nI mo) (nI tb) pr (nI wo) rfl rfl rfl rfl rfl rfl rfl rfl rfl rfl
      refine lv_iload_n hx hb dX12_tell_26 rfl (lv_at hl 0 rfl) ?_
      refine lv_if_le (tgt := 35) hx hb dX12_tell_27 (by decide) (fun c_0 => absurd c_0 (by decide)) (fun _ => ?_)
      refine lv_aload_n hx hb dX12_tell_30 rfl (lv_at hl 1 rfl) ?_
      refine lv_iconst (v := 2) hx hb dX12_tell_31 (by decide) ?_
      refine hp_callMv (va_runV (As := [.int 2]) (rest := []) ⟨hx, hb, hml, hown, hts⟩ (c_X12_begins l D cy _ cs ad en_1202 (hI.1 _ (by decide)) fa (31 * hi + 3) wd mo tb dp many grt lst nou rm rb pr wo 2 es1199_1202) (kw_X12_begins hts tw_1227 ⟨by decide, by decide⟩) (preV_of hh hK (hI.1 _ (by decide)) es1199_1202 rfl) rfl rfl hl.1 rfl (lv_room (Nat.le_of_ble_eq_true rfl)) dX12_tell_32 ⟨Nat.le_of_ble_eq_true rfl, Nat.le_of_ble_eq_true rfl⟩) hh hA (fun H locs en_1203 hw_1203 hh => ?_)
      have hen_1203 := hw_1203
      have es1199_1203 : en_1203 0 = .inr (11, [.int fa, .int (31 * (31 * hi + 3) + 2), .int (nI wd), .int (nI mo), .int (nI tb), .ref (ad 1), .ref (ad 2), .ref (ad 3), .ref (ad 4), .ref (ad 5), .ref (ad 6), .ref (ad 7), .ref (ad 8), .ref (ad 9), .int dp, .long many, .long grt, .long lst, .long nou, .ref (ad 10), .ref (ad 11), .ref (ad 12), .int rm, .long rb, .ref (ad 13), .int pr, .ref (ad 14), .ref (ad 15), .ref (ad 16), .ref (ad 17), .int (nI wo), .ref (ad 18), .ref (ad 19)]) := by rw [hen_1203]; exact va_up_self _ _ _
      have hI_1203 : RX cy cs ad en_1203 := by rw [hen_1203]; exact upr_M hI_1202 ⟨fa, (31 * (31 * hi + 3) + 2), wd, mo, tb, dp, many, grt, lst, nou, rm, rb, pr, wo, rfl, hwd2, hwd3, hmo, htb, hwo⟩
      have hf_1203 : ∀ c, (c ≠ 0) → en_1203 c = en c := fun c hc => Eq.trans (show en_1203 c = en_1202 c from by rw [hen_1203, va_up_ne _ _ (by omega)]) (hf_1202 c hc)
      have hkp_1203 : KPx en en_1203 := KPx_fv hkp_1202 es1199_1202 es1199_1203 (nI wd) (nI mo) (nI tb) pr (nI wo) rfl rfl rfl rfl rfl rfl rfl rfl rfl rfl
      refine lv_aload_n hx hb dX12_tell_35 rfl (lv_at hl 1 rfl) ?_
      refine lv_iconst (v := 1) hx hb dX12_tell_36 (by decide) ?_
      refine hp_callMv (va_runV (As := [.int 1]) (rest := []) ⟨hx, hb, hml, hown, hts⟩ (c_X12_begins l D cy _ cs ad en_1203 (hI.1 _ (by decide)) fa (31 * (31 * hi + 3) + 2) wd mo tb dp many grt lst nou rm rb pr wo 1 es1199_1203) (kw_X12_begins hts tw_1227 ⟨by decide, by decide⟩) (preV_of hh hK (hI.1 _ (by decide)) es1199_1203 rfl) rfl rfl hl.1 rfl (lv_room (Nat.le_of_ble_eq_true rfl)) dX12_tell_37 ⟨Nat.le_of_ble_eq_true rfl, Nat.le_of_ble_eq_true rfl⟩) hh hA (fun H locs en_1204 hw_1204 hh => ?_)
      have hen_1204 := hw_1204
      have es1199_1204 : en_1204 0 = .inr (11, [.int fa, .int (31 * (31 * (31 * hi + 3) + 2) + 1), .int (nI wd), .int (nI mo), .int (nI tb), .ref (ad 1), .ref (ad 2), .ref (ad 3), .ref (ad 4), .ref (ad 5), .ref (ad 6), .ref (ad 7), .ref (ad 8), .ref (ad 9), .int dp, .long many, .long grt, .long lst, .long nou, .ref (ad 10), .ref (ad 11), .ref (ad 12), .int rm, .long rb, .ref (ad 13), .int pr, .ref (ad 14), .ref (ad 15), .ref (ad 16), .ref (ad 17), .int (nI wo), .ref (ad 18), .ref (ad 19)]) := by rw [hen_1204]; exact va_up_self _ _ _
      have hI_1204 : RX cy cs ad en_1204 := by rw [hen_1204]; exact upr_M hI_1203 ⟨fa, (31 * (31 * (31 * hi + 3) + 2) + 1), wd, mo, tb, dp, many, grt, lst, nou, rm, rb, pr, wo, rfl, hwd2, hwd3, hmo, htb, hwo⟩
      have hf_1204 : ∀ c, (c ≠ 0) → en_1204 c = en c := fun c hc => Eq.trans (show en_1204 c = en_1203 c from by rw [hen_1204, va_up_ne _ _ (by omega)]) (hf_1203 c hc)
      have hkp_1204 : KPx en en_1204 := KPx_fv hkp_1203 es1199_1203 es1199_1204 (nI wd) (nI mo) (nI tb) pr (nI wo) rfl rfl rfl rfl rfl rfl rfl rfl rfl rfl
      refine lv_iload_n hx hb dX12_tell_40 rfl (lv_at hl 0 rfl) ?_
      refine lv_iconst (v := 2) hx hb dX12_tell_41 (by decide) ?_
      refine lv_icmp_ne (tgt := 50) hx hb dX12_tell_42 (by decide) (fun c_0 => absurd c_0 (by decide)) (fun _ => ?_)
      refine lv_aload_n hx hb dX12_tell_45 rfl (lv_at hl 1 rfl) ?_
      refine lv_iconst (v := 1) hx hb dX12_tell_46 (by decide) ?_
      refine hp_callMv (va_runV (As := [.int 1]) (rest := []) ⟨hx, hb, hml, hown, hts⟩ (c_X12_begins l D cy _ cs ad en_1204 (hI.1 _ (by decide)) fa (31 * (31 * (31 * hi + 3) + 2) + 1) wd mo tb dp many grt lst nou rm rb pr wo 1 es1199_1204) (kw_X12_begins hts tw_1227 ⟨by decide, by decide⟩) (preV_of hh hK (hI.1 _ (by decide)) es1199_1204 rfl) rfl rfl hl.1 rfl (lv_room (Nat.le_of_ble_eq_true rfl)) dX12_tell_47 ⟨Nat.le_of_ble_eq_true rfl, Nat.le_of_ble_eq_true rfl⟩) hh hA (fun H locs en_1205 hw_1205 hh => ?_)
      have hen_1205 := hw_1205
      have es1199_1205 : en_1205 0 = .inr (11, [.int fa, .int (31 * (31 * (31 * (31 * hi + 3) + 2) + 1) + 1), .int (nI wd), .int (nI mo), .int (nI tb), .ref (ad 1), .ref (ad 2), .ref (ad 3), .ref (ad 4), .ref (ad 5), .ref (ad 6), .ref (ad 7), .ref (ad 8), .ref (ad 9), .int dp, .long many, .long grt, .long lst, .long nou, .ref (ad 10), .ref (ad 11), .ref (ad 12), .int rm, .long rb, .ref (ad 13), .int pr, .ref (ad 14), .ref (ad 15), .ref (ad 16), .ref (ad 17), .int (nI wo), .ref (ad 18), .ref (ad 19)]) := by rw [hen_1205]; exact va_up_self _ _ _
      have hI_1205 : RX cy cs ad en_1205 := by rw [hen_1205]; exact upr_M hI_1204 ⟨fa, (31 * (31 * (31 * (31 * hi + 3) + 2) + 1) + 1), wd, mo, tb, dp, many, grt, lst, nou, rm, rb, pr, wo, rfl, hwd2, hwd3, hmo, htb, hwo⟩
      have hf_1205 : ∀ c, (c ≠ 0) → en_1205 c = en c := fun c hc => Eq.trans (show en_1205 c = en_1204 c from by rw [hen_1205, va_up_ne _ _ (by omega)]) (hf_1204 c hc)
      have hkp_1205 : KPx en en_1205 := KPx_fv hkp_1204 es1199_1204 es1199_1205 (nI wd) (nI mo) (nI tb) pr (nI wo) rfl rfl rfl rfl rfl rfl rfl rfl rfl rfl
      refine lv_iload_n hx hb dX12_tell_50 rfl (lv_at hl 0 rfl) ?_
      refine lv_if_ne (tgt := 62) hx hb dX12_tell_51 (by decide) (fun _ => ?_) (fun c_0 => absurd c_0 (by decide))
      refine lv_iload_n hx hb dX12_tell_62 rfl (lv_at hl 0 rfl) ?_
      refine lv_iconst (v := 1) hx hb dX12_tell_63 (by decide) ?_
      refine lv_icmp_ne (tgt := 81) hx hb dX12_tell_64 (by decide) (fun _ => ?_) (fun c_0 => absurd c_0 (by decide))
      refine lv_iconst (v := 2) hx hb dX12_tell_81 (by decide) ?_
      refine lv_aload_n hx hb dX12_tell_82 rfl (lv_at hl 1 rfl) ?_
      refine lv_iload_n hx hb dX12_tell_83 rfl (lv_at hl 2 rfl) ?_
      refine hp_callRi (va_runV (As := [.int (nI T_1200)]) (rest := [.int 2]) ⟨hx, hb, hml, hown, hts⟩ (c_X12_trackOf l D cy _ cs ad en_1205 hI_1205 T_1200 (by omega)) (kw_X12_trackOf hts tw_1231 ⟨by decide, by decide⟩) (preV_of hh hK (hI.1 _ (by decide)) es1199_1205 rfl) rfl rfl hl.1 rfl (lv_room (Nat.le_of_ble_eq_true rfl)) dX12_tell_84 ⟨Nat.le_of_ble_eq_true rfl, Nat.le_of_ble_eq_true rfl⟩) hh hA (fun r_1206 H locs hw_1206 hh => ?_)
      rw [hf_1205 1 (by decide), hkp_1205.1] at hw_1206
      refine lv_imul hx hb dX12_tell_87 ?_
      refine lv_aload_n hx hb dX12_tell_88 rfl (lv_at hl 1 rfl) ?_
      refine lv_iload_n hx hb dX12_tell_89 rfl (lv_at hl 2 rfl) ?_
      refine hp_callRi (va_runV (As := [.int (nI T_1200)]) (rest := [.int (2 * r_1206)]) ⟨hx, hb, hml, hown, hts⟩ (c_X12_greatestOf l D cy _ cs ad en_1205 hI_1205 T_1200 (by omega)) (kw_X12_greatestOf hts tw_1235 ⟨by decide, by decide⟩) (preV_of hh hK (hI.1 _ (by decide)) es1199_1205 rfl) rfl rfl hl.1 rfl (lv_room (Nat.le_of_ble_eq_true rfl)) dX12_tell_90 ⟨Nat.le_of_ble_eq_true rfl, Nat.le_of_ble_eq_true rfl⟩) hh hA (fun r_1207 H locs hw_1207 hh => ?_)
      rw [hf_1205 1 (by decide), hkp_1205.1] at hw_1207
      refine lv_iadd hx hb dX12_tell_93 ?_
      have hc4 : (rdI (en 0) 4).toInt = (tb : Int) := by rw [es1199]; exact nI_toInt (by omega)
      exact hp_iretM hx hb hr rfl hlocks hh (⟨hI_1205, hf_1205, Or.inr ⟨T_1200, 2, rfl, by omega, ⟨hp_1200.1, by have := hp_1200.2; omega⟩, hk_1201, Or.inr (Or.inr ⟨rfl, (by rw [hw_1206, hw_1207]; rfl), (by rw [es1199_1205, es1199]; rfl)⟩)⟩, hkp_1205⟩) dX12_tell_94
    · obtain rfl : r_1201 = 1 := hb_1201.1
      refine lv_istore_n (lv' := [(2, .int 1), (0, .ref (ad 0)), (1, .int (nI T_1200))]) hx hb dX12_tell_15 rfl hl (by decide) rfl (fun ls hl => ?_)
      refine lv_iload_n hx hb dX12_tell_16 rfl (lv_at hl 0 rfl) ?_
      refine lv_iconst (v := 2) hx hb dX12_tell_17 (by decide) ?_
      refine lv_icmp_ne (tgt := 26) hx hb dX12_tell_18 (by decide) (fun _ => ?_) (fun c_0 => absurd c_0 (by decide))
      refine lv_iload_n hx hb dX12_tell_26 rfl (lv_at hl 0 rfl) ?_
      refine lv_if_le (tgt := 35) hx hb dX12_tell_27 (by decide) (fun c_0 => absurd c_0 (by decide)) (fun _ => ?_)
      refine lv_aload_n hx hb dX12_tell_30 rfl (lv_at hl 1 rfl) ?_
      refine lv_iconst (v := 2) hx hb dX12_tell_31 (by decide) ?_
      refine hp_callMv (va_runV (As := [.int 2]) (rest := []) ⟨hx, hb, hml, hown, hts⟩ (c_X12_begins l D cy _ cs ad en (hI.1 _ (by decide)) fa hi wd mo tb dp many grt lst nou rm rb pr wo 2 es1199) (kw_X12_begins hts tw_1227 ⟨by decide, by decide⟩) (preV_of hh hK (hI.1 _ (by decide)) es1199 rfl) rfl rfl hl.1 rfl (lv_room (Nat.le_of_ble_eq_true rfl)) dX12_tell_32 ⟨Nat.le_of_ble_eq_true rfl, Nat.le_of_ble_eq_true rfl⟩) hh hA (fun H locs en_1208 hw_1208 hh => ?_)
      have hen_1208 := hw_1208
      have es1199_1208 : en_1208 0 = .inr (11, [.int fa, .int (31 * hi + 2), .int (nI wd), .int (nI mo), .int (nI tb), .ref (ad 1), .ref (ad 2), .ref (ad 3), .ref (ad 4), .ref (ad 5), .ref (ad 6), .ref (ad 7), .ref (ad 8), .ref (ad 9), .int dp, .long many, .long grt, .long lst, .long nou, .ref (ad 10), .ref (ad 11), .ref (ad 12), .int rm, .long rb, .ref (ad 13), .int pr, .ref (ad 14), .ref (ad 15), .ref (ad 16), .ref (ad 17), .int (nI wo), .ref (ad 18), .ref (ad 19)]) := by rw [hen_1208]; exact va_up_self _ _ _
      have hI_1208 : RX cy cs ad en_1208 := by rw [hen_1208]; exact upr_M hI ⟨fa, (31 * hi + 2), wd, mo, tb, dp, many, grt, lst, nou, rm, rb, pr, wo, rfl, hwd2, hwd3, hmo, htb, hwo⟩
      have hf_1208 : ∀ c, (c ≠ 0) → en_1208 c = en c := fun c hc => Eq.trans (show en_1208 c = en c from by rw [hen_1208, va_up_ne _ _ (by omega)]) (hf0 c hc)
      have hkp_1208 : KPx en en_1208 := KPx_fv (KPx_rf en) es1199 es1199_1208 (nI wd) (nI mo) (nI tb) pr (nI wo) rfl rfl rfl rfl rfl rfl rfl rfl rfl rfl
      refine lv_aload_n hx hb dX12_tell_35 rfl (lv_at hl 1 rfl) ?_
      refine lv_iconst (v := 1) hx hb dX12_tell_36 (by decide) ?_
      refine hp_callMv (va_runV (As := [.int 1]) (rest := []) ⟨hx, hb, hml, hown, hts⟩ (c_X12_begins l D cy _ cs ad en_1208 (hI.1 _ (by decide)) fa (31 * hi + 2) wd mo tb dp many grt lst nou rm rb pr wo 1 es1199_1208) (kw_X12_begins hts tw_1227 ⟨by decide, by decide⟩) (preV_of hh hK (hI.1 _ (by decide)) es1199_1208 rfl) rfl rfl hl.1 rfl (lv_room (Nat.le_of_ble_eq_true rfl)) dX12_tell_37 ⟨Nat.le_of_ble_eq_true rfl, Nat.le_of_ble_eq_true rfl⟩) hh hA (fun H locs en_1209 hw_1209 hh => ?_)
      have hen_1209 := hw_1209
      have es1199_1209 : en_1209 0 = .inr (11, [.int fa, .int (31 * (31 * hi + 2) + 1), .int (nI wd), .int (nI mo), .int (nI tb), .ref (ad 1), .ref (ad 2), .ref (ad 3), .ref (ad 4), .ref (ad 5), .ref (ad 6), .ref (ad 7), .ref (ad 8), .ref (ad 9), .int dp, .long many, .long grt, .long lst, .long nou, .ref (ad 10), .ref (ad 11), .ref (ad 12), .int rm, .long rb, .ref (ad 13), .int pr, .ref (ad 14), .ref (ad 15), .ref (ad 16), .ref (ad 17), .int (nI wo), .ref (ad 18), .ref (ad 19)]) := by rw [hen_1209]; exact va_up_self _ _ _
      have hI_1209 : RX cy cs ad en_1209 := by rw [hen_1209]; exact upr_M hI_1208 ⟨fa, (31 * (31 * hi + 2) + 1), wd, mo, tb, dp, many, grt, lst, nou, rm, rb, pr, wo, rfl, hwd2, hwd3, hmo, htb, hwo⟩
      have hf_1209 : ∀ c, (c ≠ 0) → en_1209 c = en c := fun c hc => Eq.trans (show en_1209 c = en_1208 c from by rw [hen_1209, va_up_ne _ _ (by omega)]) (hf_1208 c hc)
      have hkp_1209 : KPx en en_1209 := KPx_fv hkp_1208 es1199_1208 es1199_1209 (nI wd) (nI mo) (nI tb) pr (nI wo) rfl rfl rfl rfl rfl rfl rfl rfl rfl rfl
      refine lv_iload_n hx hb dX12_tell_40 rfl (lv_at hl 0 rfl) ?_
      refine lv_iconst (v := 2) hx hb dX12_tell_41 (by decide) ?_
      refine lv_icmp_ne (tgt := 50) hx hb dX12_tell_42 (by decide) (fun _ => ?_) (fun c_0 => absurd c_0 (by decide))
      refine lv_iload_n hx hb dX12_tell_50 rfl (lv_at hl 0 rfl) ?_
      refine lv_if_ne (tgt := 62) hx hb dX12_tell_51 (by decide) (fun _ => ?_) (fun c_0 => absurd c_0 (by decide))
      refine lv_iload_n hx hb dX12_tell_62 rfl (lv_at hl 0 rfl) ?_
      refine lv_iconst (v := 1) hx hb dX12_tell_63 (by decide) ?_
      refine lv_icmp_ne (tgt := 81) hx hb dX12_tell_64 (by decide) (fun c_0 => absurd c_0 (by decide)) (fun _ => ?_)
      refine lv_aload_n hx hb dX12_tell_67 rfl (lv_at hl 1 rfl) ?_
      refine lv_iload_n hx hb dX12_tell_68 rfl (lv_at hl 2 rfl) ?_
      refine hp_callRi (va_runV (As := [.int (nI T_1200)]) (rest := []) ⟨hx, hb, hml, hown, hts⟩ (c_X12_trackOf l D cy _ cs ad en_1209 hI_1209 T_1200 (by omega)) (kw_X12_trackOf hts tw_1231 ⟨by decide, by decide⟩) (preV_of hh hK (hI.1 _ (by decide)) es1199_1209 rfl) rfl rfl hl.1 rfl (lv_room (Nat.le_of_ble_eq_true rfl)) dX12_tell_69 ⟨Nat.le_of_ble_eq_true rfl, Nat.le_of_ble_eq_true rfl⟩) hh hA (fun r_1210 H locs hw_1210 hh => ?_)
      rw [hf_1209 1 (by decide), hkp_1209.1] at hw_1210
      refine lv_aload_n hx hb dX12_tell_72 rfl (lv_at hl 1 rfl) ?_
      refine lv_iload_n hx hb dX12_tell_73 rfl (lv_at hl 2 rfl) ?_
      refine hp_callRi (va_runV (As := [.int (nI T_1200)]) (rest := [.int r_1210]) ⟨hx, hb, hml, hown, hts⟩ (c_X12_greatestOf l D cy _ cs ad en_1209 hI_1209 T_1200 (by omega)) (kw_X12_greatestOf hts tw_1235 ⟨by decide, by decide⟩) (preV_of hh hK (hI.1 _ (by decide)) es1199_1209 rfl) rfl rfl hl.1 rfl (lv_room (Nat.le_of_ble_eq_true rfl)) dX12_tell_74 ⟨Nat.le_of_ble_eq_true rfl, Nat.le_of_ble_eq_true rfl⟩) hh hA (fun r_1211 H locs hw_1211 hh => ?_)
      rw [hf_1209 1 (by decide), hkp_1209.1] at hw_1211
      refine lv_iadd hx hb dX12_tell_77 ?_
      refine lv_goto (tgt := 94) hx hb dX12_tell_78 (by decide) ?_
      have hc4 : (rdI (en 0) 4).toInt = (tb : Int) := by rw [es1199]; exact nI_toInt (by omega)
      exact hp_iretM hx hb hr rfl hlocks hh (⟨hI_1209, hf_1209, Or.inr ⟨T_1200, 1, rfl, by omega, ⟨hp_1200.1, by have := hp_1200.2; omega⟩, hk_1201, Or.inr (Or.inl ⟨rfl, (by rw [hw_1210, hw_1211]; rfl), (by rw [es1199_1209, es1199]; rfl)⟩)⟩, hkp_1209⟩) dX12_tell_94
    · obtain rfl : r_1201 = 0 := hb_1201.1
      refine lv_istore_n (lv' := [(2, .int 0), (0, .ref (ad 0)), (1, .int (nI T_1200))]) hx hb dX12_tell_15 rfl hl (by decide) rfl (fun ls hl => ?_)
      refine lv_iload_n hx hb dX12_tell_16 rfl (lv_at hl 0 rfl) ?_
      refine lv_iconst (v := 2) hx hb dX12_tell_17 (by decide) ?_
      refine lv_icmp_ne (tgt := 26) hx hb dX12_tell_18 (by decide) (fun _ => ?_) (fun c_0 => absurd c_0 (by decide))
      refine lv_iload_n hx hb dX12_tell_26 rfl (lv_at hl 0 rfl) ?_
      refine lv_if_le (tgt := 35) hx hb dX12_tell_27 (by decide) (fun _ => ?_) (fun c_0 => absurd c_0 (by decide))
      refine lv_aload_n hx hb dX12_tell_35 rfl (lv_at hl 1 rfl) ?_
      refine lv_iconst (v := 1) hx hb dX12_tell_36 (by decide) ?_
      refine hp_callMv (va_runV (As := [.int 1]) (rest := []) ⟨hx, hb, hml, hown, hts⟩ (c_X12_begins l D cy _ cs ad en (hI.1 _ (by decide)) fa hi wd mo tb dp many grt lst nou rm rb pr wo 1 es1199) (kw_X12_begins hts tw_1227 ⟨by decide, by decide⟩) (preV_of hh hK (hI.1 _ (by decide)) es1199 rfl) rfl rfl hl.1 rfl (lv_room (Nat.le_of_ble_eq_true rfl)) dX12_tell_37 ⟨Nat.le_of_ble_eq_true rfl, Nat.le_of_ble_eq_true rfl⟩) hh hA (fun H locs en_1212 hw_1212 hh => ?_)
      have hen_1212 := hw_1212
      have es1199_1212 : en_1212 0 = .inr (11, [.int fa, .int (31 * hi + 1), .int (nI wd), .int (nI mo), .int (nI tb), .ref (ad 1), .ref (ad 2), .ref (ad 3), .ref (ad 4), .ref (ad 5), .ref (ad 6), .ref (ad 7), .ref (ad 8), .ref (ad 9), .int dp, .long many, .long grt, .long lst, .long nou, .ref (ad 10), .ref (ad 11), .ref (ad 12), .int rm, .long rb, .ref (ad 13), .int pr, .ref (ad 14), .ref (ad 15), .ref (ad 16), .ref (ad 17), .int (nI wo), .ref (ad 18), .ref (ad 19)]) := by rw [hen_1212]; exact va_up_self _ _ _
      have hI_1212 : RX cy cs ad en_1212 := by rw [hen_1212]; exact upr_M hI ⟨fa, (31 * hi + 1), wd, mo, tb, dp, many, grt, lst, nou, rm, rb, pr, wo, rfl, hwd2, hwd3, hmo, htb, hwo⟩
      have hf_1212 : ∀ c, (c ≠ 0) → en_1212 c = en c := fun c hc => Eq.trans (show en_1212 c = en c from by rw [hen_1212, va_up_ne _ _ (by omega)]) (hf0 c hc)
      have hkp_1212 : KPx en en_1212 := KPx_fv (KPx_rf en) es1199 es1199_1212 (nI wd) (nI mo) (nI tb) pr (nI wo) rfl rfl rfl rfl rfl rfl rfl rfl rfl rfl
      refine lv_iload_n hx hb dX12_tell_40 rfl (lv_at hl 0 rfl) ?_
      refine lv_iconst (v := 2) hx hb dX12_tell_41 (by decide) ?_
      refine lv_icmp_ne (tgt := 50) hx hb dX12_tell_42 (by decide) (fun _ => ?_) (fun c_0 => absurd c_0 (by decide))
      refine lv_iload_n hx hb dX12_tell_50 rfl (lv_at hl 0 rfl) ?_
      refine lv_if_ne (tgt := 62) hx hb dX12_tell_51 (by decide) (fun c_0 => absurd c_0 (by decide)) (fun _ => ?_)
      refine lv_aload_n hx hb dX12_tell_54 rfl (lv_at hl 1 rfl) ?_
      refine lv_iload_n hx hb dX12_tell_55 rfl (lv_at hl 2 rfl) ?_
      refine hp_callRi (va_runV (As := [.int (nI T_1200)]) (rest := []) ⟨hx, hb, hml, hown, hts⟩ (c_X12_trackOf l D cy _ cs ad en_1212 hI_1212 T_1200 (by omega)) (kw_X12_trackOf hts tw_1231 ⟨by decide, by decide⟩) (preV_of hh hK (hI.1 _ (by decide)) es1199_1212 rfl) rfl rfl hl.1 rfl (lv_room (Nat.le_of_ble_eq_true rfl)) dX12_tell_56 ⟨Nat.le_of_ble_eq_true rfl, Nat.le_of_ble_eq_true rfl⟩) hh hA (fun r_1213 H locs hw_1213 hh => ?_)
      rw [hf_1212 1 (by decide), hkp_1212.1] at hw_1213
      refine lv_goto (tgt := 94) hx hb dX12_tell_59 (by decide) ?_
      have hc4 : (rdI (en 0) 4).toInt = (tb : Int) := by rw [es1199]; exact nI_toInt (by omega)
      exact hp_iretM hx hb hr rfl hlocks hh (⟨hI_1212, hf_1212, Or.inr ⟨T_1200, 0, rfl, by omega, ⟨hp_1200.1, by have := hp_1200.2; omega⟩, hk_1201, Or.inl ⟨rfl, hw_1213, (by rw [es1199_1212, es1199]; rfl)⟩⟩, hkp_1212⟩) dX12_tell_94
  · obtain rfl : r_1200 = 0 := Eq.trans hw_1200 (if_neg hp_1200)
    refine lv_if_ne (tgt := 10) hx hb dX12_tell_5 (by decide) (fun c_0 => absurd c_0 (by decide)) (fun _ => ?_)
    refine lv_iconst (v := (-1)) hx hb dX12_tell_8 (by decide) ?_
    have hc4 : (rdI (en 0) 4).toInt = (tb : Int) := by rw [es1199]; exact nI_toInt (by omega)
    exact hp_iretM hx hb hr rfl hlocks hh (⟨hI, hf0, Or.inl ⟨fun q => hp_1200 ⟨q.1, by have := q.2; omega⟩, rfl, rfl⟩, (KPx_rf en)⟩) dX12_tell_9
theorem kw_X12_tell {R : Room} {s : State} {args : Array Value} {own : String} {idx : Nat} (hts : ∀ w ∈ TB, w.before args s = true) (hl : Cond.methodLink own idx yX12_tell ∈ TB) (hR : 1 + 1 ≤ R.frames ∧ 8 + (3 + 11) + 40 * 1 ≤ R.locals) : CallW R s args own RX12 idx yX12_tell cX12_tell 3 (some .int) (Cond.code yX12_tell cX12_tell 3 (some .int) :: TB) (rmN 1) 0 0 1 := cwV 1 hts (TB_V hl tw_1220 tw_1221 tw_9 tw_1222) rfl rfl rfl (by decide +kernel) hR
set_option maxHeartbeats 4000000 in
set_option maxRecDepth 100000 in
/-- weigh -/
theorem c_X12_weigh (l : Launch) (D : va_G) (cy : Nat → ClassId) (sz : Nat) (cs : List Nat) (ad : Nat → Nat) (en : Nat → va_E) (hI : RX cy cs ad en) (t : Int32)   : Met l yX12_weigh (Cond.code yX12_weigh cX12_weigh 3 (some .int) :: TB) (rmN 1) (va_Pc [.ref (ad 0), .int t] (Pre D cy cs ad en sz)) (va_Qi (S := Nat → va_E) (fun r en1 => RX cy cs ad en1 ∧ (∀ c, (c ≠ 0) → en1 c = en c) ∧ RWE t r en en1 ∧ KPx en en1) (PostM D cs ad) (Af cs ad sz)) 0 0 (Af cs ad sz) := by
  refine Met.ofW (cc := cX12_weigh) (maxL := 3) (ret := (some .int)) (by decide) rfl ?_
  intro p e s m args below meth c s₁ B hml hv
  obtain ⟨rfl, hsz, hP, hK, hD0⟩ := hv
  have hx := B.exec
  have hb := B.bytes
  have hr := B.returns
  have hts : ∀ w ∈ TB, w.before _ s = true := fun w h => atoms_spec (ws := _ :: TB) B.pre w (List.mem_cons_of_mem _ h)
  have hown : s.vm.findClass RX12 = some m.cls := findClass_of_methodNamed B.named
  have hlocks := B.notSynchronized
  have hh : Hp D (Af cs ad sz) (Af cs ad sz) s.heap s.heap [] cs ad en := ⟨hP, Af_self hD0, va_S.rf⟩
  have hA : ∀ q : Nat, s.heap.size ≤ q → Af cs ad sz q := fun q h => Or.inr (by rw [hsz] at h; exact h)
  have hl := lv_entry ([.ref (ad 0), .int t]) (n := 3) (Nat.le_of_ble_eq_true rfl)
  rw [lg_entry_eq]
  generalize (lg_sl ([.ref (ad 0), .int t]) ++ List.replicate (3 - (lg_sl ([.ref (ad 0), .int t])).length) Slot.unset).toArray = ls at hl ⊢
  have hl : lv_has ls 3 [(0, .ref (ad 0)), (1, .int t)] := hl
  have hf0 : ∀ c, (c ≠ 0) → en c = en c := fun _ _ => rfl
  obtain ⟨fa, hi, wd, mo, tb, dp, many, grt, lst, nou, rm, rb, pr, wo, es1214, hwd2, hwd3, hmo, htb, hwo⟩ := getr_M hI
  refine lv_aload_n hx hb dX12_weigh_0 rfl (lv_at hl 0 rfl) ?_
  refine lv_iload_n hx hb dX12_weigh_1 rfl (lv_at hl 1 rfl) ?_
  refine hp_callRi (va_runV (As := [.int t]) (rest := []) ⟨hx, hb, hml, hown, hts⟩ (c_X12_isTable l D cy _ cs ad en hI t ) (kw_X12_isTable hts tw_1007 ⟨by decide, by decide⟩) (preV_of hh hK (hI.1 _ (by decide)) es1214 rfl) rfl rfl hl.1 rfl (lv_room (Nat.le_of_ble_eq_true rfl)) dX12_weigh_2 ⟨Nat.le_of_ble_eq_true rfl, Nat.le_of_ble_eq_true rfl⟩) hh hA (fun r_1215 H locs hw_1215 hh => ?_)
  rw [show rdI (en 0) 4 = (nI tb) from by rw [es1214]; rfl, nI_toInt (n := tb) (by omega)] at hw_1215
  rcases Decidable.em (0 ≤ t.toInt ∧ t.toInt < (tb : Int)) with hp_1215 | hp_1215
  · obtain rfl : r_1215 = 1 := Eq.trans hw_1215 (if_pos hp_1215)
    obtain ⟨T_1215, rfl, hT_1215⟩ := has_nat hp_1215
    refine lv_if_ne (tgt := 10) hx hb dX12_weigh_5 (by decide) (fun _ => ?_) (fun c_0 => absurd c_0 (by decide))
    refine lv_aload_n hx hb dX12_weigh_10 rfl (lv_at hl 0 rfl) ?_
    refine lv_iload_n hx hb dX12_weigh_11 rfl (lv_at hl 1 rfl) ?_
    refine hp_callRi (va_runV (As := [.int (nI T_1215)]) (rest := []) ⟨hx, hb, hml, hown, hts⟩ (c_X12_kindOf l D cy _ cs ad en hI T_1215 (by omega)) (kw_X12_kindOf hts tw_1223 ⟨by decide, by decide⟩) (preV_of hh hK (hI.1 _ (by decide)) es1214 rfl) rfl rfl hl.1 rfl (lv_room (Nat.le_of_ble_eq_true rfl)) dX12_weigh_12 ⟨Nat.le_of_ble_eq_true rfl, Nat.le_of_ble_eq_true rfl⟩) hh hA (fun r_1216 H locs hw_1216 hh => ?_)
    have hk_1216 := hw_1216
    rcases hw_1216 with hb_1216 | hb_1216 | hb_1216
    · obtain rfl : r_1216 = 2 := hb_1216.1
      refine lv_iconst (v := 2) hx hb dX12_weigh_15 (by decide) ?_
      refine lv_icmp_ne (tgt := 23) hx hb dX12_weigh_16 (by decide) (fun c_0 => absurd c_0 (by decide)) (fun _ => ?_)
      refine lv_iconst (v := 1) hx hb dX12_weigh_19 (by decide) ?_
      refine lv_goto (tgt := 24) hx hb dX12_weigh_20 (by decide) ?_
      refine lv_istore_n (lv' := [(2, .int 1), (0, .ref (ad 0)), (1, .int (nI T_1215))]) hx hb dX12_weigh_24 rfl hl (by decide) rfl (fun ls hl => ?_)
      refine lv_aload_n hx hb dX12_weigh_25 rfl (lv_at hl 1 rfl) ?_
      refine lv_iload_n hx hb dX12_weigh_26 rfl (lv_at hl 0 rfl) ?_
      refine lv_if_eq (tgt := 34) hx hb dX12_weigh_27 (by decide) (fun c_0 => absurd c_0 (by decide)) (fun _ => ?_)
      refine lv_iconst (v := 5) hx hb dX12_weigh_30 (by decide) ?_
      refine lv_goto (tgt := 35) hx hb dX12_weigh_31 (by decide) ?_
      refine hp_callMv (va_runV (As := [.int 5]) (rest := []) ⟨hx, hb, hml, hown, hts⟩ (c_X12_begins l D cy _ cs ad en (hI.1 _ (by decide)) fa hi wd mo tb dp many grt lst nou rm rb pr wo 5 es1214) (kw_X12_begins hts tw_1227 ⟨by decide, by decide⟩) (preV_of hh hK (hI.1 _ (by decide)) es1214 rfl) rfl rfl hl.1 rfl (lv_room (Nat.le_of_ble_eq_true rfl)) dX12_weigh_35 ⟨Nat.le_of_ble_eq_true rfl, Nat.le_of_ble_eq_true rfl⟩) hh hA (fun H locs en_1217 hw_1217 hh => ?_)
      have hen_1217 := hw_1217
      have es1214_1217 : en_1217 0 = .inr (11, [.int fa, .int (31 * hi + 5), .int (nI wd), .int (nI mo), .int (nI tb), .ref (ad 1), .ref (ad 2), .ref (ad 3), .ref (ad 4), .ref (ad 5), .ref (ad 6), .ref (ad 7), .ref (ad 8), .ref (ad 9), .int dp, .long many, .long grt, .long lst, .long nou, .ref (ad 10), .ref (ad 11), .ref (ad 12), .int rm, .long rb, .ref (ad 13), .int pr, .ref (ad 14), .ref (ad 15), .ref (ad 16), .ref (ad 17), .int (nI wo), .ref (ad 18), .ref (ad 19)]) := by rw [hen_1217]; exact va_up_self _ _ _
      have hI_1217 : RX cy cs ad en_1217 := by rw [hen_1217]; exact upr_M hI ⟨fa, (31 * hi + 5), wd, mo, tb, dp, many, grt, lst, nou, rm, rb, pr, wo, rfl, hwd2, hwd3, hmo, htb, hwo⟩
      have hf_1217 : ∀ c, (c ≠ 0) → en_1217 c = en c := fun c hc => Eq.trans (show en_1217 c = en c from by rw [hen_1217, va_up_ne _ _ (by omega)]) (hf0 c hc)
      have hkp_1217 : KPx en en_1217 := KPx_fv (KPx_rf en) es1214 es1214_1217 (nI wd) (nI mo) (nI tb) pr (nI wo) rfl rfl rfl rfl rfl rfl rfl rfl rfl rfl
      refine lv_iload_n hx hb dX12_weigh_38 rfl (lv_at hl 0 rfl) ?_
      refine lv_if_eq (tgt := 47) hx hb dX12_weigh_39 (by decide) (fun c_0 => absurd c_0 (by decide)) (fun _ => ?_)
      refine lv_bipush (v := 60) hx hb dX12_weigh_42 (by decide) ?_
      refine lv_goto (tgt := 48) hx hb dX12_weigh_44 (by decide) ?_
      have hc4 : (rdI (en 0) 4).toInt = (tb : Int) := by rw [es1214]; exact nI_toInt (by omega)
      exact hp_iretM hx hb hr rfl hlocks hh (⟨hI_1217, hf_1217, Or.inr ⟨T_1215, 2, rfl, by omega, ⟨hp_1215.1, by have := hp_1215.2; omega⟩, hk_1216, Or.inl ⟨rfl, rfl, (by rw [es1214_1217, es1214]; rfl)⟩⟩, hkp_1217⟩) dX12_weigh_48
    · obtain rfl : r_1216 = 1 := hb_1216.1
      refine lv_iconst (v := 2) hx hb dX12_weigh_15 (by decide) ?_
      refine lv_icmp_ne (tgt := 23) hx hb dX12_weigh_16 (by decide) (fun _ => ?_) (fun c_0 => absurd c_0 (by decide))
      refine lv_iconst (v := 0) hx hb dX12_weigh_23 (by decide) ?_
      refine lv_istore_n (lv' := [(2, .int 0), (0, .ref (ad 0)), (1, .int (nI T_1215))]) hx hb dX12_weigh_24 rfl hl (by decide) rfl (fun ls hl => ?_)
      refine lv_aload_n hx hb dX12_weigh_25 rfl (lv_at hl 1 rfl) ?_
      refine lv_iload_n hx hb dX12_weigh_26 rfl (lv_at hl 0 rfl) ?_
      refine lv_if_eq (tgt := 34) hx hb dX12_weigh_27 (by decide) (fun _ => ?_) (fun c_0 => absurd c_0 (by decide))
      refine lv_iconst (v := 4) hx hb dX12_weigh_34 (by decide) ?_
      refine hp_callMv (va_runV (As := [.int 4]) (rest := []) ⟨hx, hb, hml, hown, hts⟩ (c_X12_begins l D cy _ cs ad en (hI.1 _ (by decide)) fa hi wd mo tb dp many grt lst nou rm rb pr wo 4 es1214) (kw_X12_begins hts tw_1227 ⟨by decide, by decide⟩) (preV_of hh hK (hI.1 _ (by decide)) es1214 rfl) rfl rfl hl.1 rfl (lv_room (Nat.le_of_ble_eq_true rfl)) dX12_weigh_35 ⟨Nat.le_of_ble_eq_true rfl, Nat.le_of_ble_eq_true rfl⟩) hh hA (fun H locs en_1218 hw_1218 hh => ?_)
      have hen_1218 := hw_1218
      have es1214_1218 : en_1218 0 = .inr (11, [.int fa, .int (31 * hi + 4), .int (nI wd), .int (nI mo), .int (nI tb), .ref (ad 1), .ref (ad 2), .ref (ad 3), .ref (ad 4), .ref (ad 5), .ref (ad 6), .ref (ad 7), .ref (ad 8), .ref (ad 9), .int dp, .long many, .long grt, .long lst, .long nou, .ref (ad 10), .ref (ad 11), .ref (ad 12), .int rm, .long rb, .ref (ad 13), .int pr, .ref (ad 14), .ref (ad 15), .ref (ad 16), .ref (ad 17), .int (nI wo), .ref (ad 18), .ref (ad 19)]) := by rw [hen_1218]; exact va_up_self _ _ _
      have hI_1218 : RX cy cs ad en_1218 := by rw [hen_1218]; exact upr_M hI ⟨fa, (31 * hi + 4), wd, mo, tb, dp, many, grt, lst, nou, rm, rb, pr, wo, rfl, hwd2, hwd3, hmo, htb, hwo⟩
      have hf_1218 : ∀ c, (c ≠ 0) → en_1218 c = en c := fun c hc => Eq.trans (show en_1218 c = en c from by rw [hen_1218, va_up_ne _ _ (by omega)]) (hf0 c hc)
      have hkp_1218 : KPx en en_1218 := KPx_fv (KPx_rf en) es1214 es1214_1218 (nI wd) (nI mo) (nI tb) pr (nI wo) rfl rfl rfl rfl rfl rfl rfl rfl rfl rfl
      refine lv_iload_n hx hb dX12_weigh_38 rfl (lv_at hl 0 rfl) ?_
      refine lv_if_eq (tgt := 47) hx hb dX12_weigh_39 (by decide) (fun _ => ?_) (fun c_0 => absurd c_0 (by decide))
      refine lv_iload_n hx hb dX12_weigh_47 rfl (lv_at hl 2 rfl) ?_
      have hc4 : (rdI (en 0) 4).toInt = (tb : Int) := by rw [es1214]; exact nI_toInt (by omega)
      exact hp_iretM hx hb hr rfl hlocks hh (⟨hI_1218, hf_1218, Or.inr ⟨T_1215, 1, rfl, by omega, ⟨hp_1215.1, by have := hp_1215.2; omega⟩, hk_1216, Or.inr ⟨by decide, rfl, (by rw [es1214_1218, es1214]; rfl)⟩⟩, hkp_1218⟩) dX12_weigh_48
    · obtain rfl : r_1216 = 0 := hb_1216.1
      refine lv_iconst (v := 2) hx hb dX12_weigh_15 (by decide) ?_
      refine lv_icmp_ne (tgt := 23) hx hb dX12_weigh_16 (by decide) (fun _ => ?_) (fun c_0 => absurd c_0 (by decide))
      refine lv_iconst (v := 0) hx hb dX12_weigh_23 (by decide) ?_
      refine lv_istore_n (lv' := [(2, .int 0), (0, .ref (ad 0)), (1, .int (nI T_1215))]) hx hb dX12_weigh_24 rfl hl (by decide) rfl (fun ls hl => ?_)
      refine lv_aload_n hx hb dX12_weigh_25 rfl (lv_at hl 1 rfl) ?_
      refine lv_iload_n hx hb dX12_weigh_26 rfl (lv_at hl 0 rfl) ?_
      refine lv_if_eq (tgt := 34) hx hb dX12_weigh_27 (by decide) (fun _ => ?_) (fun c_0 => absurd c_0 (by decide))
      refine lv_iconst (v := 4) hx hb dX12_weigh_34 (by decide) ?_
      refine hp_callMv (va_runV (As := [.int 4]) (rest := []) ⟨hx, hb, hml, hown, hts⟩ (c_X12_begins l D cy _ cs ad en (hI.1 _ (by decide)) fa hi wd mo tb dp many grt lst nou rm rb pr wo 4 es1214) (kw_X12_begins hts tw_1227 ⟨by decide, by decide⟩) (preV_of hh hK (hI.1 _ (by decide)) es1214 rfl) rfl rfl hl.1 rfl (lv_room (Nat.le_of_ble_eq_true rfl)) dX12_weigh_35 ⟨Nat.le_of_ble_eq_true rfl, Nat.le_of_ble_eq_true rfl⟩) hh hA (fun H locs en_1219 hw_1219 hh => ?_)
      have hen_1219 := hw_1219
      have es1214_1219 : en_1219 0 = .inr (11, [.int fa, .int (31 * hi + 4), .int (nI wd), .int (nI mo), .int (nI tb), .ref (ad 1), .ref (ad 2), .ref (ad 3), .ref (ad 4), .ref (ad 5), .ref (ad 6), .ref (ad 7), .ref (ad 8), .ref (ad 9), .int dp, .long many, .long grt, .long lst, .long nou, .ref (ad 10), .ref (ad 11), .ref (ad 12), .int rm, .long rb, .ref (ad 13), .int pr, .ref (ad 14), .ref (ad 15), .ref (ad 16), .ref (ad 17), .int (nI wo), .ref (ad 18), .ref (ad 19)]) := by rw [hen_1219]; exact va_up_self _ _ _
      have hI_1219 : RX cy cs ad en_1219 := by rw [hen_1219]; exact upr_M hI ⟨fa, (31 * hi + 4), wd, mo, tb, dp, many, grt, lst, nou, rm, rb, pr, wo, rfl, hwd2, hwd3, hmo, htb, hwo⟩
      have hf_1219 : ∀ c, (c ≠ 0) → en_1219 c = en c := fun c hc => Eq.trans (show en_1219 c = en c from by rw [hen_1219, va_up_ne _ _ (by omega)]) (hf0 c hc)
      have hkp_1219 : KPx en en_1219 := KPx_fv (KPx_rf en) es1214 es1214_1219 (nI wd) (nI mo) (nI tb) pr (nI wo) rfl rfl rfl rfl rfl rfl rfl rfl rfl rfl
      refine lv_iload_n hx hb dX12_weigh_38 rfl (lv_at hl 0 rfl) ?_
      refine lv_if_eq (tgt := 47) hx hb dX12_weigh_39 (by decide) (fun _ => ?_) (fun c_0 => absurd c_0 (by decide))
      refine lv_iload_n hx hb dX12_weigh_47 rfl (lv_at hl 2 rfl) ?_
      have hc4 : (rdI (en 0) 4).toInt = (tb : Int) := by rw [es1214]; exact nI_toInt (by omega)
      exact hp_iretM hx hb hr rfl hlocks hh (⟨hI_1219, hf_1219, Or.inr ⟨T_1215, 0, rfl, by omega, ⟨hp_1215.1, by have := hp_1215.2; omega⟩, hk_1216, Or.inr ⟨by decide, rfl, (by rw [es1214_1219, es1214]; rfl)⟩⟩, hkp_1219⟩) dX12_weigh_48
  · obtain rfl : r_1215 = 0 := Eq.trans hw_1215 (if_neg hp_1215)
    refine lv_if_ne (tgt := 10) hx hb dX12_weigh_5 (by decide) (fun c_0 => absurd c_0 (by decide)) (fun _ => ?_)
    refine lv_iconst (v := (-1)) hx hb dX12_weigh_8 (by decide) ?_
    have hc4 : (rdI (en 0) 4).toInt = (tb : Int) := by rw [es1214]; exact nI_toInt (by omega)
    exact hp_iretM hx hb hr rfl hlocks hh (⟨hI, hf0, Or.inl ⟨fun q => hp_1215 ⟨q.1, by have := q.2; omega⟩, rfl, rfl⟩, (KPx_rf en)⟩) dX12_weigh_9
theorem kw_X12_weigh {R : Room} {s : State} {args : Array Value} {own : String} {idx : Nat} (hts : ∀ w ∈ TB, w.before args s = true) (hl : Cond.methodLink own idx yX12_weigh ∈ TB) (hR : 1 + 1 ≤ R.frames ∧ 8 + (3 + 11) + 40 * 1 ≤ R.locals) : CallW R s args own RX12 idx yX12_weigh cX12_weigh 3 (some .int) (Cond.code yX12_weigh cX12_weigh 3 (some .int) :: TB) (rmN 1) 0 0 1 := cwV 1 hts (TB_V hl tw_1240 tw_1241 tw_9 tw_1242) rfl rfl rfl (by decide +kernel) hR
set_option maxHeartbeats 4000000 in
set_option maxRecDepth 100000 in
/-- as -/
theorem c_X12_as (l : Launch) (D : va_G) (cy : Nat → ClassId) (sz : Nat) (cs : List Nat) (ad : Nat → Nat) (en : Nat → va_E) (hI : RX cy cs ad en) (t z : Int32)   : Met l yX12_as (Cond.code yX12_as cX12_as 3 (some .int) :: TB) (rmN 1) (va_Pc [.ref (ad 0), .int t, .int z] (Pre D cy cs ad en sz)) (va_Qi (S := Nat → va_E) (fun r en1 => RX cy cs ad en1 ∧ (∀ c, (c ≠ 0) → en1 c = en c) ∧ RAS t z r en ∧ KP en en1) (PostM D cs ad) (Af cs ad sz)) 0 0 (Af cs ad sz) := by
  refine Met.ofW (cc := cX12_as) (maxL := 3) (ret := (some .int)) (by decide) rfl ?_
  intro p e s m args below meth c s₁ B hml hv
  obtain ⟨rfl, hsz, hP, hK, hD0⟩ := hv
  have hx := B.exec
  have hb := B.bytes
  have hr := B.returns
  have hts : ∀ w ∈ TB, w.before _ s = true := fun w h => atoms_spec (ws := _ :: TB) B.pre w (List.mem_cons_of_mem _ h)
  have hown : s.vm.findClass RX12 = some m.cls := findClass_of_methodNamed B.named
  have hlocks := B.notSynchronized
  have hh : Hp D (Af cs ad sz) (Af cs ad sz) s.heap s.heap [] cs ad en := ⟨hP, Af_self hD0, va_S.rf⟩
  have hA : ∀ q : Nat, s.heap.size ≤ q → Af cs ad sz q := fun q h => Or.inr (by rw [hsz] at h; exact h)
  have hl := lv_entry ([.ref (ad 0), .int t, .int z]) (n := 3) (Nat.le_of_ble_eq_true rfl)
  rw [lg_entry_eq]
  generalize (lg_sl ([.ref (ad 0), .int t, .int z]) ++ List.replicate (3 - (lg_sl ([.ref (ad 0), .int t, .int z])).length) Slot.unset).toArray = ls at hl ⊢
  have hl : lv_has ls 3 [(0, .ref (ad 0)), (1, .int t), (2, .int z)] := hl
  have hf0 : ∀ c, (c ≠ 0) → en c = en c := fun _ _ => rfl
  obtain ⟨fa, hi, wd, mo, tb, dp, many, grt, lst, nou, rm, rb, pr, wo, es1220, hwd2, hwd3, hmo, htb, hwo⟩ := getr_M hI
  refine lv_aload_n hx hb dX12_as_0 rfl (lv_at hl 0 rfl) ?_
  refine lv_iconst (v := 0) hx hb dX12_as_1 (by decide) ?_
  refine hp_put hx hb hts ix12 tyX12 tyX12_ok nmX12 hown hK hh (q := 0) rfl (hI.1 _ (by decide)) es1220 rfl 0 (by decide) (hts _ tw_879) (fun _ h9 => h9) rfl (ty := .int) (by decide +kernel) rfl rfl (Nat.le_of_ble_eq_true rfl) dX12_as_2 (fun H locs en_1221 hen_1221 hh => ?_)
  have es1220_1221 : en_1221 0 = .inr (11, [.int 0, .int hi, .int (nI wd), .int (nI mo), .int (nI tb), .ref (ad 1), .ref (ad 2), .ref (ad 3), .ref (ad 4), .ref (ad 5), .ref (ad 6), .ref (ad 7), .ref (ad 8), .ref (ad 9), .int dp, .long many, .long grt, .long lst, .long nou, .ref (ad 10), .ref (ad 11), .ref (ad 12), .int rm, .long rb, .ref (ad 13), .int pr, .ref (ad 14), .ref (ad 15), .ref (ad 16), .ref (ad 17), .int (nI wo), .ref (ad 18), .ref (ad 19)]) := by rw [hen_1221]; exact va_up_self _ _ _
  have hI_1221 : RX cy cs ad en_1221 := by rw [hen_1221]; exact upr_M hI ⟨0, hi, wd, mo, tb, dp, many, grt, lst, nou, rm, rb, pr, wo, rfl, hwd2, hwd3, hmo, htb, hwo⟩
  have hf_1221 : ∀ c, (c ≠ 0) → en_1221 c = en c := fun c hc => Eq.trans (show en_1221 c = en c from by rw [hen_1221, va_up_ne _ _ (by omega)]) (hf0 c hc)
  have hkp_1221 : KP en en_1221 := KP_fv (KP_rf en) es1220 es1220_1221 hi (nI wd) (nI mo) (nI tb) pr (nI wo) rfl rfl rfl rfl rfl rfl rfl rfl rfl rfl rfl rfl
  refine lv_aload_n hx hb dX12_as_5 rfl (lv_at hl 0 rfl) ?_
  refine lv_iload_n hx hb dX12_as_6 rfl (lv_at hl 1 rfl) ?_
  refine hp_callRi (va_runV (As := [.int t]) (rest := []) ⟨hx, hb, hml, hown, hts⟩ (c_X12_isTable l D cy _ cs ad en_1221 hI_1221 t ) (kw_X12_isTable hts tw_1007 ⟨by decide, by decide⟩) (preV_of hh hK (hI.1 _ (by decide)) es1220_1221 rfl) rfl rfl hl.1 rfl (lv_room (Nat.le_of_ble_eq_true rfl)) dX12_as_7 ⟨Nat.le_of_ble_eq_true rfl, Nat.le_of_ble_eq_true rfl⟩) hh hA (fun r_1222 H locs hw_1222 hh => ?_)
  rw [show rdI (en_1221 0) 4 = (nI tb) from by rw [es1220_1221]; rfl, nI_toInt (n := tb) (by omega)] at hw_1222
  rcases Decidable.em (0 ≤ t.toInt ∧ t.toInt < (tb : Int)) with hp_1222 | hp_1222
  · obtain rfl : r_1222 = 1 := Eq.trans hw_1222 (if_pos hp_1222)
    obtain ⟨T_1222, rfl, hT_1222⟩ := has_nat hp_1222
    refine lv_if_ne (tgt := 15) hx hb dX12_as_10 (by decide) (fun _ => ?_) (fun c_0 => absurd c_0 (by decide))
    refine lv_iload_n hx hb dX12_as_15 rfl (lv_at hl 2 rfl) ?_
    refine lv_i2l hx hb dX12_as_16 rfl ?_
    refine lv_lconst (v := 0) hx hb dX12_as_17 (by decide) ?_
    refine lv_ldc2 hx hb hown (hts _ tw_983) dX12_as_18 ?_
    refine hp_callRi (va_runS (As := [.long z.toInt64, .long 0, .long 2]) (rest := []) ⟨hx, hb, hml, hown, hts⟩ (c_X12_within l D cy _ cs ad en_1221 z.toInt64 0 2) (kw_X12_within hts tw_985 ⟨by decide, by decide⟩) (preS_of hh hK) rfl rfl hl.1 rfl (lv_room (Nat.le_of_ble_eq_true rfl)) dX12_as_21 ⟨Nat.le_of_ble_eq_true rfl, Nat.le_of_ble_eq_true rfl⟩) hh hA (fun r_1223 H locs hw_1223 hh => ?_)
    rcases Decidable.em (wi z 0 2) with hp_1223 | hp_1223
    · obtain rfl : r_1223 = 1 := Eq.trans hw_1223 (if_pos ((wj_32 (by decide) (by decide)).mpr hp_1223))
      obtain ⟨N_1223, rfl, hA_1223, hB_1223⟩ := wi_natB hp_1223 0 2 (by decide) (by decide)
      refine lv_if_ne (tgt := 30) hx hb dX12_as_24 (by decide) (fun _ => ?_) (fun c_0 => absurd c_0 (by decide))
      refine lv_aload_n hx hb dX12_as_30 rfl (lv_at hl 0 rfl) ?_
      refine lv_iload_n hx hb dX12_as_31 rfl (lv_at hl 1 rfl) ?_
      refine hp_callRi (va_runV (As := [.int (nI T_1222)]) (rest := []) ⟨hx, hb, hml, hown, hts⟩ (c_X12_kindOf l D cy _ cs ad en_1221 hI_1221 T_1222 (by omega)) (kw_X12_kindOf hts tw_1223 ⟨by decide, by decide⟩) (preV_of hh hK (hI.1 _ (by decide)) es1220_1221 rfl) rfl rfl hl.1 rfl (lv_room (Nat.le_of_ble_eq_true rfl)) dX12_as_32 ⟨Nat.le_of_ble_eq_true rfl, Nat.le_of_ble_eq_true rfl⟩) hh hA (fun r_1224 H locs hw_1224 hh => ?_)
      have hk_1224 := hw_1224
      rw [hf_1221 1 (by decide), hkp_1221.2.1] at hk_1224
      rcases hw_1224 with hb_1224 | hb_1224 | hb_1224
      · obtain rfl : r_1224 = 2 := hb_1224.1
        refine lv_iload_n hx hb dX12_as_35 rfl (lv_at hl 2 rfl) ?_
        refine lv_icmp_lt (tgt := 43) hx hb dX12_as_36 (by decide) (fun c_1225 => ?_) (fun c_1225 => ?_)
        · have n_1225 : 2 < N_1223 := n_lt (a := 2) (b := N_1223) c_1225 (by decide) (by omega)
          refine lv_aload_n hx hb dX12_as_43 rfl (lv_at hl 0 rfl) ?_
          refine lv_iconst (v := 2) hx hb dX12_as_44 (by decide) ?_
          refine hp_callMi (va_runV (As := [.int 2]) (rest := []) ⟨hx, hb, hml, hown, hts⟩ (c_X12_fails l D cy _ cs ad en_1221 (hI.1 _ (by decide)) 0 hi wd mo tb dp many grt lst nou rm rb pr wo 2 es1220_1221) (kw_X12_fails hts tw_997 ⟨by decide, by decide⟩) (preV_of hh hK (hI.1 _ (by decide)) es1220_1221 rfl) rfl rfl hl.1 rfl (lv_room (Nat.le_of_ble_eq_true rfl)) dX12_as_45 ⟨Nat.le_of_ble_eq_true rfl, Nat.le_of_ble_eq_true rfl⟩) hh hA (fun r_1226 H locs en_1226 hw_1226 hh => ?_)
          obtain ⟨hr_1226, hen_1226⟩ := hw_1226
          have es1220_1226 : en_1226 0 = .inr (11, [.int 2, .int hi, .int (nI wd), .int (nI mo), .int (nI tb), .ref (ad 1), .ref (ad 2), .ref (ad 3), .ref (ad 4), .ref (ad 5), .ref (ad 6), .ref (ad 7), .ref (ad 8), .ref (ad 9), .int dp, .long many, .long grt, .long lst, .long nou, .ref (ad 10), .ref (ad 11), .ref (ad 12), .int rm, .long rb, .ref (ad 13), .int pr, .ref (ad 14), .ref (ad 15), .ref (ad 16), .ref (ad 17), .int (nI wo), .ref (ad 18), .ref (ad 19)]) := by rw [hen_1226]; exact va_up_self _ _ _
          have hI_1226 : RX cy cs ad en_1226 := by rw [hen_1226]; exact upr_M hI_1221 ⟨2, hi, wd, mo, tb, dp, many, grt, lst, nou, rm, rb, pr, wo, rfl, hwd2, hwd3, hmo, htb, hwo⟩
          have hf_1226 : ∀ c, (c ≠ 0) → en_1226 c = en c := fun c hc => Eq.trans (show en_1226 c = en_1221 c from by rw [hen_1226, va_up_ne _ _ (by omega)]) (hf_1221 c hc)
          have hkp_1226 : KP en en_1226 := KP_fv hkp_1221 es1220_1221 es1220_1226 hi (nI wd) (nI mo) (nI tb) pr (nI wo) rfl rfl rfl rfl rfl rfl rfl rfl rfl rfl rfl rfl
          obtain rfl : r_1226 = (-12) := hr_1226.trans (by decide)
          have hc4 : (rdI (en 0) 4).toInt = (tb : Int) := by rw [es1220]; exact nI_toInt (by omega)
          exact hp_iretM hx hb hr rfl hlocks hh (⟨hI_1226, hf_1226, Or.inr (Or.inr ⟨T_1222, N_1223, 2, rfl, rfl, by omega, by omega, by omega, ⟨hp_1222.1, by have := hp_1222.2; omega⟩, hp_1223, hk_1224, Or.inr ⟨by omega, rfl⟩⟩), hkp_1226⟩) dX12_as_48
        · have n_1225 : N_1223 ≤ 2 := n_nlt (a := 2) (b := N_1223) c_1225 (by decide) (by omega)
          refine lv_iconst (v := 1) hx hb dX12_as_39 (by decide) ?_
          refine lv_goto (tgt := 48) hx hb dX12_as_40 (by decide) ?_
          have hc4 : (rdI (en 0) 4).toInt = (tb : Int) := by rw [es1220]; exact nI_toInt (by omega)
          exact hp_iretM hx hb hr rfl hlocks hh (⟨hI_1221, hf_1221, Or.inr (Or.inr ⟨T_1222, N_1223, 2, rfl, rfl, by omega, by omega, by omega, ⟨hp_1222.1, by have := hp_1222.2; omega⟩, hp_1223, hk_1224, Or.inl ⟨by omega, rfl⟩⟩), hkp_1221⟩) dX12_as_48
      · obtain rfl : r_1224 = 1 := hb_1224.1
        refine lv_iload_n hx hb dX12_as_35 rfl (lv_at hl 2 rfl) ?_
        refine lv_icmp_lt (tgt := 43) hx hb dX12_as_36 (by decide) (fun c_1227 => ?_) (fun c_1227 => ?_)
        · have n_1227 : 1 < N_1223 := n_lt (a := 1) (b := N_1223) c_1227 (by decide) (by omega)
          refine lv_aload_n hx hb dX12_as_43 rfl (lv_at hl 0 rfl) ?_
          refine lv_iconst (v := 2) hx hb dX12_as_44 (by decide) ?_
          refine hp_callMi (va_runV (As := [.int 2]) (rest := []) ⟨hx, hb, hml, hown, hts⟩ (c_X12_fails l D cy _ cs ad en_1221 (hI.1 _ (by decide)) 0 hi wd mo tb dp many grt lst nou rm rb pr wo 2 es1220_1221) (kw_X12_fails hts tw_997 ⟨by decide, by decide⟩) (preV_of hh hK (hI.1 _ (by decide)) es1220_1221 rfl) rfl rfl hl.1 rfl (lv_room (Nat.le_of_ble_eq_true rfl)) dX12_as_45 ⟨Nat.le_of_ble_eq_true rfl, Nat.le_of_ble_eq_true rfl⟩) hh hA (fun r_1228 H locs en_1228 hw_1228 hh => ?_)
          obtain ⟨hr_1228, hen_1228⟩ := hw_1228
          have es1220_1228 : en_1228 0 = .inr (11, [.int 2, .int hi, .int (nI wd), .int (nI mo), .int (nI tb), .ref (ad 1), .ref (ad 2), .ref (ad 3), .ref (ad 4), .ref (ad 5), .ref (ad 6), .ref (ad 7), .ref (ad 8), .ref (ad 9), .int dp, .long many, .long grt, .long lst, .long nou, .ref (ad 10), .ref (ad 11), .ref (ad 12), .int rm, .long rb, .ref (ad 13), .int pr, .ref (ad 14), .ref (ad 15), .ref (ad 16), .ref (ad 17), .int (nI wo), .ref (ad 18), .ref (ad 19)]) := by rw [hen_1228]; exact va_up_self _ _ _
          have hI_1228 : RX cy cs ad en_1228 := by rw [hen_1228]; exact upr_M hI_1221 ⟨2, hi, wd, mo, tb, dp, many, grt, lst, nou, rm, rb, pr, wo, rfl, hwd2, hwd3, hmo, htb, hwo⟩
          have hf_1228 : ∀ c, (c ≠ 0) → en_1228 c = en c := fun c hc => Eq.trans (show en_1228 c = en_1221 c from by rw [hen_1228, va_up_ne _ _ (by omega)]) (hf_1221 c hc)
          have hkp_1228 : KP en en_1228 := KP_fv hkp_1221 es1220_1221 es1220_1228 hi (nI wd) (nI mo) (nI tb) pr (nI wo) rfl rfl rfl rfl rfl rfl rfl rfl rfl rfl rfl rfl
          obtain rfl : r_1228 = (-12) := hr_1228.trans (by decide)
          have hc4 : (rdI (en 0) 4).toInt = (tb : Int) := by rw [es1220]; exact nI_toInt (by omega)
          exact hp_iretM hx hb hr rfl hlocks hh (⟨hI_1228, hf_1228, Or.inr (Or.inr ⟨T_1222, N_1223, 1, rfl, rfl, by omega, by omega, by omega, ⟨hp_1222.1, by have := hp_1222.2; omega⟩, hp_1223, hk_1224, Or.inr ⟨by omega, rfl⟩⟩), hkp_1228⟩) dX12_as_48
        · have n_1227 : N_1223 ≤ 1 := n_nlt (a := 1) (b := N_1223) c_1227 (by decide) (by omega)
          refine lv_iconst (v := 1) hx hb dX12_as_39 (by decide) ?_
          refine lv_goto (tgt := 48) hx hb dX12_as_40 (by decide) ?_
          have hc4 : (rdI (en 0) 4).toInt = (tb : Int) := by rw [es1220]; exact nI_toInt (by omega)
          exact hp_iretM hx hb hr rfl hlocks hh (⟨hI_1221, hf_1221, Or.inr (Or.inr ⟨T_1222, N_1223, 1, rfl, rfl, by omega, by omega, by omega, ⟨hp_1222.1, by have := hp_1222.2; omega⟩, hp_1223, hk_1224, Or.inl ⟨by omega, rfl⟩⟩), hkp_1221⟩) dX12_as_48
      · obtain rfl : r_1224 = 0 := hb_1224.1
        refine lv_iload_n hx hb dX12_as_35 rfl (lv_at hl 2 rfl) ?_
        refine lv_icmp_lt (tgt := 43) hx hb dX12_as_36 (by decide) (fun c_1229 => ?_) (fun c_1229 => ?_)
        · have n_1229 : 0 < N_1223 := n_lt (a := 0) (b := N_1223) c_1229 (by decide) (by omega)
          refine lv_aload_n hx hb dX12_as_43 rfl (lv_at hl 0 rfl) ?_
          refine lv_iconst (v := 2) hx hb dX12_as_44 (by decide) ?_
          refine hp_callMi (va_runV (As := [.int 2]) (rest := []) ⟨hx, hb, hml, hown, hts⟩ (c_X12_fails l D cy _ cs ad en_1221 (hI.1 _ (by decide)) 0 hi wd mo tb dp many grt lst nou rm rb pr wo 2 es1220_1221) (kw_X12_fails hts tw_997 ⟨by decide, by decide⟩) (preV_of hh hK (hI.1 _ (by decide)) es1220_1221 rfl) rfl rfl hl.1 rfl (lv_room (Nat.le_of_ble_eq_true rfl)) dX12_as_45 ⟨Nat.le_of_ble_eq_true rfl, Nat.le_of_ble_eq_true rfl⟩) hh hA (fun r_1230 H locs en_1230 hw_1230 hh => ?_)
          obtain ⟨hr_1230, hen_1230⟩ := hw_1230
          have es1220_1230 : en_1230 0 = .inr (11, [.int 2, .int hi, .int (nI wd), .int (nI mo), .int (nI tb), .ref (ad 1), .ref (ad 2), .ref (ad 3), .ref (ad 4), .ref (ad 5), .ref (ad 6), .ref (ad 7), .ref (ad 8), .ref (ad 9), .int dp, .long many, .long grt, .long lst, .long nou, .ref (ad 10), .ref (ad 11), .ref (ad 12), .int rm, .long rb, .ref (ad 13), .int pr, .ref (ad 14), .ref (ad 15), .ref (ad 16), .ref (ad 17), .int (nI wo), .ref (ad 18), .ref (ad 19)]) := by rw [hen_1230]; exact va_up_self _ _ _
          have hI_1230 : RX cy cs ad en_1230 := by rw [hen_1230]; exact upr_M hI_1221 ⟨2, hi, wd, mo, tb, dp, many, grt, lst, nou, rm, rb, pr, wo, rfl, hwd2, hwd3, hmo, htb, hwo⟩
          have hf_1230 : ∀ c, (c ≠ 0) → en_1230 c = en c := fun c hc => Eq.trans (show en_1230 c = en_1221 c from by rw [hen_1230, va_up_ne _ _ (by omega)]) (hf_1221 c hc)
          have hkp_1230 : KP en en_1230 := KP_fv hkp_1221 es1220_1221 es1220_1230 hi (nI wd) (nI mo) (nI tb) pr (nI wo) rfl rfl rfl rfl rfl rfl rfl rfl rfl rfl rfl rfl
          obtain rfl : r_1230 = (-12) := hr_1230.trans (by decide)
          have hc4 : (rdI (en 0) 4).toInt = (tb : Int) := by rw [es1220]; exact nI_toInt (by omega)
          exact hp_iretM hx hb hr rfl hlocks hh (⟨hI_1230, hf_1230, Or.inr (Or.inr ⟨T_1222, N_1223, 0, rfl, rfl, by omega, by omega, by omega, ⟨hp_1222.1, by have := hp_1222.2; omega⟩, hp_1223, hk_1224, Or.inr ⟨by omega, rfl⟩⟩), hkp_1230⟩) dX12_as_48
        · have n_1229 : N_1223 ≤ 0 := n_nlt (a := 0) (b := N_1223) c_1229 (by decide) (by omega)
          refine lv_iconst (v := 1) hx hb dX12_as_39 (by decide) ?_
          refine lv_goto (tgt := 48) hx hb dX12_as_40 (by decide) ?_
          have hc4 : (rdI (en 0) 4).toInt = (tb : Int) := by rw [es1220]; exact nI_toInt (by omega)
          exact hp_iretM hx hb hr rfl hlocks hh (⟨hI_1221, hf_1221, Or.inr (Or.inr ⟨T_1222, N_1223, 0, rfl, rfl, by omega, by omega, by omega, ⟨hp_1222.1, by have := hp_1222.2; omega⟩, hp_1223, hk_1224, Or.inl ⟨by omega, rfl⟩⟩), hkp_1221⟩) dX12_as_48
    · obtain rfl : r_1223 = 0 := Eq.trans hw_1223 (if_neg (fun q => hp_1223 ((wj_32 (by decide) (by decide)).mp q)))
      refine lv_if_ne (tgt := 30) hx hb dX12_as_24 (by decide) (fun c_0 => absurd c_0 (by decide)) (fun _ => ?_)
      refine lv_bipush (v := (-2)) hx hb dX12_as_27 (by decide) ?_
      have hc4 : (rdI (en 0) 4).toInt = (tb : Int) := by rw [es1220]; exact nI_toInt (by omega)
      exact hp_iretM hx hb hr rfl hlocks hh (⟨hI_1221, hf_1221, Or.inr (Or.inl ⟨⟨hp_1222.1, by have := hp_1222.2; omega⟩, hp_1223, rfl⟩), hkp_1221⟩) dX12_as_29
  · obtain rfl : r_1222 = 0 := Eq.trans hw_1222 (if_neg hp_1222)
    refine lv_if_ne (tgt := 15) hx hb dX12_as_10 (by decide) (fun c_0 => absurd c_0 (by decide)) (fun _ => ?_)
    refine lv_iconst (v := (-1)) hx hb dX12_as_13 (by decide) ?_
    have hc4 : (rdI (en 0) 4).toInt = (tb : Int) := by rw [es1220]; exact nI_toInt (by omega)
    exact hp_iretM hx hb hr rfl hlocks hh (⟨hI_1221, hf_1221, Or.inl ⟨fun q => hp_1222 ⟨q.1, by have := q.2; omega⟩, rfl⟩, hkp_1221⟩) dX12_as_14
theorem kw_X12_as {R : Room} {s : State} {args : Array Value} {own : String} {idx : Nat} (hts : ∀ w ∈ TB, w.before args s = true) (hl : Cond.methodLink own idx yX12_as ∈ TB) (hR : 1 + 1 ≤ R.frames ∧ 8 + (3 + 11) + 40 * 1 ≤ R.locals) : CallW R s args own RX12 idx yX12_as cX12_as 3 (some .int) (Cond.code yX12_as cX12_as 3 (some .int) :: TB) (rmN 1) 0 0 2 := cwV 2 hts (TB_V hl tw_1244 tw_1245 tw_9 tw_1246) rfl rfl rfl (by decide +kernel) hR
set_option maxHeartbeats 4000000 in
set_option maxRecDepth 100000 in
/-- history -/
theorem c_X12_history (l : Launch) (D : va_G) (cy : Nat → ClassId) (sz : Nat) (cs : List Nat) (ad : Nat → Nat) (en : Nat → va_E) (hI : RX cy cs ad en)    : Met l yX12_history (Cond.code yX12_history cX12_history 1 (some .int) :: TB) (rmN 0) (va_Pc [.ref (ad 0)] (Pre D cy cs ad en sz)) (va_Qi (S := Unit) (fun r _ => r = rdI (en 0) 1) (fun _ _ => True) (Nf sz)) 0 0 (Nf sz) := by
  refine Met.ofW (cc := cX12_history) (maxL := 1) (ret := (some .int)) (by decide) rfl ?_
  intro p e s m args below meth c s₁ B hml hv
  obtain ⟨rfl, hsz, hP, hK, hD0⟩ := hv
  have hx := B.exec
  have hb := B.bytes
  have hr := B.returns
  have hts : ∀ w ∈ TB, w.before _ s = true := fun w h => atoms_spec (ws := _ :: TB) B.pre w (List.mem_cons_of_mem _ h)
  have hown : s.vm.findClass RX12 = some m.cls := findClass_of_methodNamed B.named
  have hlocks := B.notSynchronized
  have hh : Hp D (Nf sz) (fun _ => True) s.heap s.heap [] cs ad en := ⟨hP, hD0, va_S.rf⟩
  have hA : ∀ q : Nat, s.heap.size ≤ q → Nf sz q := fun q h => by rw [hsz] at h; exact h
  have hl := lv_entry ([.ref (ad 0)]) (n := 1) (Nat.le_of_ble_eq_true rfl)
  rw [lg_entry_eq]
  generalize (lg_sl ([.ref (ad 0)]) ++ List.replicate (1 - (lg_sl ([.ref (ad 0)])).length) Slot.unset).toArray = ls at hl ⊢
  have hl : lv_has ls 1 [(0, .ref (ad 0))] := hl
  obtain ⟨fa, hi, wd, mo, tb, dp, many, grt, lst, nou, rm, rb, pr, wo, es1231, hwd2, hwd3, hmo, htb, hwo⟩ := getr_M hI
  refine lv_aload_n hx hb dX12_history_0 rfl (lv_at hl 0 rfl) ?_
  refine hp_get hx hb hts ix12 hown hK hh (q := 0) rfl (hI.1 _ (by decide)) es1231 rfl 1 (by decide) (hts _ tw_880) (fun _ h9 => h9) rfl dX12_history_1 ?_
  exact hp_iretR hx hb hr rfl hlocks hsz hh ((by rw [es1231]; rfl)) dX12_history_4
theorem kw_X12_history {R : Room} {s : State} {args : Array Value} {own : String} {idx : Nat} (hts : ∀ w ∈ TB, w.before args s = true) (hl : Cond.methodLink own idx yX12_history ∈ TB) (hR : 0 + 1 ≤ R.frames ∧ 8 + (1 + 11) + 40 * 0 ≤ R.locals) : CallW R s args own RX12 idx yX12_history cX12_history 1 (some .int) (Cond.code yX12_history cX12_history 1 (some .int) :: TB) (rmN 0) 0 0 0 := cwV 0 hts (TB_V hl tw_1248 tw_1249 tw_9 tw_1250) rfl rfl rfl (by decide +kernel) hR
set_option maxHeartbeats 4000000 in
set_option maxRecDepth 100000 in
/-- fault -/
theorem c_X12_fault (l : Launch) (D : va_G) (cy : Nat → ClassId) (sz : Nat) (cs : List Nat) (ad : Nat → Nat) (en : Nat → va_E) (hI : RX cy cs ad en)    : Met l yX12_fault (Cond.code yX12_fault cX12_fault 1 (some .int) :: TB) (rmN 0) (va_Pc [.ref (ad 0)] (Pre D cy cs ad en sz)) (va_Qi (S := Unit) (fun _ _ => True) (fun _ _ => True) (Nf sz)) 0 0 (Nf sz) := by
  refine Met.ofW (cc := cX12_fault) (maxL := 1) (ret := (some .int)) (by decide) rfl ?_
  intro p e s m args below meth c s₁ B hml hv
  obtain ⟨rfl, hsz, hP, hK, hD0⟩ := hv
  have hx := B.exec
  have hb := B.bytes
  have hr := B.returns
  have hts : ∀ w ∈ TB, w.before _ s = true := fun w h => atoms_spec (ws := _ :: TB) B.pre w (List.mem_cons_of_mem _ h)
  have hown : s.vm.findClass RX12 = some m.cls := findClass_of_methodNamed B.named
  have hlocks := B.notSynchronized
  have hh : Hp D (Nf sz) (fun _ => True) s.heap s.heap [] cs ad en := ⟨hP, hD0, va_S.rf⟩
  have hA : ∀ q : Nat, s.heap.size ≤ q → Nf sz q := fun q h => by rw [hsz] at h; exact h
  have hl := lv_entry ([.ref (ad 0)]) (n := 1) (Nat.le_of_ble_eq_true rfl)
  rw [lg_entry_eq]
  generalize (lg_sl ([.ref (ad 0)]) ++ List.replicate (1 - (lg_sl ([.ref (ad 0)])).length) Slot.unset).toArray = ls at hl ⊢
  have hl : lv_has ls 1 [(0, .ref (ad 0))] := hl
  obtain ⟨fa, hi, wd, mo, tb, dp, many, grt, lst, nou, rm, rb, pr, wo, es1232, hwd2, hwd3, hmo, htb, hwo⟩ := getr_M hI
  refine lv_aload_n hx hb dX12_fault_0 rfl (lv_at hl 0 rfl) ?_
  refine hp_get hx hb hts ix12 hown hK hh (q := 0) rfl (hI.1 _ (by decide)) es1232 rfl 0 (by decide) (hts _ tw_879) (fun _ h9 => h9) rfl dX12_fault_1 ?_
  exact hp_iretR hx hb hr rfl hlocks hsz hh (trivial) dX12_fault_4
theorem kw_X12_fault {R : Room} {s : State} {args : Array Value} {own : String} {idx : Nat} (hts : ∀ w ∈ TB, w.before args s = true) (hl : Cond.methodLink own idx yX12_fault ∈ TB) (hR : 0 + 1 ≤ R.frames ∧ 8 + (1 + 11) + 40 * 0 ≤ R.locals) : CallW R s args own RX12 idx yX12_fault cX12_fault 1 (some .int) (Cond.code yX12_fault cX12_fault 1 (some .int) :: TB) (rmN 0) 0 0 0 := cwV 0 hts (TB_V hl tw_1252 tw_1253 tw_9 tw_1254) rfl rfl rfl (by decide +kernel) hR
set_option maxHeartbeats 4000000 in
set_option maxRecDepth 100000 in
/-- told -/
theorem c_X12_told (l : Launch) (D : va_G) (cy : Nat → ClassId) (sz : Nat) (cs : List Nat) (ad : Nat → Nat) (en : Nat → va_E) (hI : RX cy cs ad en) (z : Int32)   : Met l yX12_told (Cond.code yX12_told cX12_told 5 (some .int) :: TB) (rmN 1) (va_Pc [.ref (ad 0), .int z] (Pre D cy cs ad en sz)) (va_Qi (S := Unit) (fun r _ => RTO z r en) (fun _ _ => True) (Nf sz)) 0 0 (Nf sz) := by
  refine Met.ofW (cc := cX12_told) (maxL := 5) (ret := (some .int)) (by decide) rfl ?_
  intro p e s m args below meth c s₁ B hml hv
  obtain ⟨rfl, hsz, hP, hK, hD0⟩ := hv
  have hx := B.exec
  have hb := B.bytes
  have hr := B.returns
  have hts : ∀ w ∈ TB, w.before _ s = true := fun w h => atoms_spec (ws := _ :: TB) B.pre w (List.mem_cons_of_mem _ h)
  have hown : s.vm.findClass RX12 = some m.cls := findClass_of_methodNamed B.named
  have hlocks := B.notSynchronized
  have hh : Hp D (Nf sz) (fun _ => True) s.heap s.heap [] cs ad en := ⟨hP, hD0, va_S.rf⟩
  have hA : ∀ q : Nat, s.heap.size ≤ q → Nf sz q := fun q h => by rw [hsz] at h; exact h
  have hl := lv_entry ([.ref (ad 0), .int z]) (n := 5) (Nat.le_of_ble_eq_true rfl)
  rw [lg_entry_eq]
  generalize (lg_sl ([.ref (ad 0), .int z]) ++ List.replicate (5 - (lg_sl ([.ref (ad 0), .int z])).length) Slot.unset).toArray = ls at hl ⊢
  have hl : lv_has ls 5 [(0, .ref (ad 0)), (1, .int z)] := hl
  obtain ⟨fa, hi, wd, mo, tb, dp, many, grt, lst, nou, rm, rb, pr, wo, es1233, hwd2, hwd3, hmo, htb, hwo⟩ := getr_M hI
  refine lv_iload_n hx hb dX12_told_0 rfl (lv_at hl 1 rfl) ?_
  by_cases q_1234_0 : z = 0
  · refine lv_tableIn (off := 35) (tgt := 36) hx hb dX12_told_1 (by rw [q_1234_0]; decide) (by rw [q_1234_0]; decide) (by rw [q_1234_0]; decide) (by decide) ?_
    refine lv_aload_n hx hb dX12_told_36 rfl (lv_at hl 0 rfl) ?_
    refine hp_get hx hb hts ix12 hown hK hh (q := 0) rfl (hI.1 _ (by decide)) es1233 rfl 4 (by decide) (hts _ tw_883) (fun _ h9 => h9) rfl dX12_told_37 ?_
    exact hp_iretR hx hb hr rfl hlocks hsz hh ((Or.inl ⟨q_1234_0, (by rw [es1233]; rfl)⟩)) dX12_told_40
  by_cases q_1234_1 : z = 1
  · refine lv_tableIn (off := 40) (tgt := 41) hx hb dX12_told_1 (by rw [q_1234_1]; decide) (by rw [q_1234_1]; decide) (by rw [q_1234_1]; decide) (by decide) ?_
    refine lv_aload_n hx hb dX12_told_41 rfl (lv_at hl 0 rfl) ?_
    refine hp_get hx hb hts ix12 hown hK hh (q := 0) rfl (hI.1 _ (by decide)) es1233 rfl 2 (by decide) (hts _ tw_881) (fun _ h9 => h9) rfl dX12_told_42 ?_
    exact hp_iretR hx hb hr rfl hlocks hsz hh ((Or.inr (Or.inl ⟨q_1234_1, (by rw [es1233]; rfl)⟩))) dX12_told_45
  by_cases q_1234_2 : z = 2
  · refine lv_tableIn (off := 45) (tgt := 46) hx hb dX12_told_1 (by rw [q_1234_2]; decide) (by rw [q_1234_2]; decide) (by rw [q_1234_2]; decide) (by decide) ?_
    refine lv_aload_n hx hb dX12_told_46 rfl (lv_at hl 0 rfl) ?_
    refine hp_get hx hb hts ix12 hown hK hh (q := 0) rfl (hI.1 _ (by decide)) es1233 rfl 3 (by decide) (hts _ tw_882) (fun _ h9 => h9) rfl dX12_told_47 ?_
    exact hp_iretR hx hb hr rfl hlocks hsz hh ((Or.inr (Or.inr (Or.inl ⟨q_1234_2, (by rw [es1233]; rfl)⟩)))) dX12_told_50
  by_cases q_1234_3 : z = 3
  · refine lv_tableIn (off := 50) (tgt := 51) hx hb dX12_told_1 (by rw [q_1234_3]; decide) (by rw [q_1234_3]; decide) (by rw [q_1234_3]; decide) (by decide) ?_
    refine lv_aload_n hx hb dX12_told_51 rfl (lv_at hl 0 rfl) ?_
    refine hp_get hx hb hts ix12 hown hK hh (q := 0) rfl (hI.1 _ (by decide)) es1233 rfl 30 (by decide) (hts _ tw_909) (fun _ h9 => h9) rfl dX12_told_52 ?_
    exact hp_iretR hx hb hr rfl hlocks hsz hh ((Or.inr (Or.inr (Or.inr (Or.inl ⟨q_1234_3, (by rw [es1233]; rfl)⟩))))) dX12_told_55
  by_cases q_1234_4 : z = 4
  · refine lv_tableIn (off := 55) (tgt := 56) hx hb dX12_told_1 (by rw [q_1234_4]; decide) (by rw [q_1234_4]; decide) (by rw [q_1234_4]; decide) (by decide) ?_
    refine lv_iconst (v := 0) hx hb dX12_told_56 (by decide) ?_
    refine lv_istore_n (lv' := [(2, .int 0), (0, .ref (ad 0)), (1, .int z)]) hx hb dX12_told_57 rfl hl (by decide) rfl (fun ls hl => ?_)
    refine lv_iconst (v := 0) hx hb dX12_told_58 (by decide) ?_
    refine lv_istore_n (lv' := [(3, .int 0), (2, .int 0), (0, .ref (ad 0)), (1, .int z)]) hx hb dX12_told_59 rfl hl (by decide) rfl (fun ls hl => ?_)
    have loop_1235 : ∀ (fu j1235 : Nat) (ac1235 : Int32)  (ls : Array Slot) (H : Heap) (locs : List Loc), 0 ≤ j1235 → j1235 ≤ tb → tb < j1235 + fu →  (ac1235 = cpO (mnG (rdF (en 2))) tb j1235) → lv_has ls 5 [(3, .int (nI j1235)), (2, .int ac1235), (0, .ref (ad 0)), (1, .int z)] → Hp D (Nf sz) (fun _ => True) s.heap H locs cs ad en → W p l e (headSpec (Cond.code yX12_told cX12_told 5 (some .int) :: TB) (rmN 1)).room s m ([.ref (ad 0), .int z] : List Value).toArray below meth c H locs 0 0 (MQ below (va_Qi (S := Unit) (fun r _ => RTO z r en) (fun _ _ => True) (Nf sz)) ([.ref (ad 0), .int z] : List Value).toArray s 0 0 (Nf sz)) (F0 m 60 ls []) := by
      intro fu
      induction fu with
      | zero => intro j1235 ac1235 ls H locs h0 h1 h2; exact absurd h2 (by omega)
      | succ fu ih_1235 =>
        intro j1235 ac1235 ls H locs hj0_1235 hj_1235 hfu_1235 i0_1235 hl hh
        refine lv_iload_n hx hb dX12_told_60 rfl (lv_at hl 0 rfl) ?_
        refine lv_aload_n hx hb dX12_told_61 rfl (lv_at hl 2 rfl) ?_
        refine hp_get hx hb hts ix12 hown hK hh (q := 0) rfl (hI.1 _ (by decide)) es1233 rfl 4 (by decide) (hts _ tw_883) (fun _ h9 => h9) rfl dX12_told_62 ?_
        refine lv_icmp_ge (tgt := 110) hx hb dX12_told_65 (by decide) (fun c_1236 => ?_) (fun c_1236 => ?_)
        · have n_1236 : tb ≤ j1235 := n_le (a := tb) (b := j1235) c_1236 (by omega) (by omega)
          refine lv_iload_n hx hb dX12_told_110 rfl (lv_at hl 1 rfl) ?_
          exact hp_iretR hx hb hr rfl hlocks hsz hh ((Or.inr (Or.inr (Or.inr (Or.inr (Or.inl ⟨q_1234_4, (by rw [show rdI (en 0) 4 = nI tb from by rw [es1233]; rfl, nI_clamp (n := tb) (by omega)]; have e9 : j1235 = tb := (by omega); rw [e9] at i0_1235; exact i0_1235)⟩)))))) dX12_told_111
        · have n_1236 : j1235 < tb := n_nle (a := tb) (b := j1235) c_1236 (by omega) (by omega)
          refine lv_iconst (v := 0) hx hb dX12_told_68 (by decide) ?_
          refine lv_istore (lv' := [(4, .int 0), (3, .int (nI j1235)), (2, .int ac1235), (0, .ref (ad 0)), (1, .int z)]) hx hb dX12_told_69 hl (by decide) rfl (fun ls hl => ?_)
          have loop_1237 : ∀ (fu j1237 : Nat) (ac1237 : Int32)  (ls : Array Slot) (H : Heap) (locs : List Loc), 0 ≤ j1237 → j1237 ≤ tb → tb < j1237 + fu →  (ac1237 = cpO (mnG (rdF (en 2))) tb j1235 + cpI (mnG (rdF (en 2))) j1235 j1237) → lv_has ls 5 [(4, .int (nI j1237)), (3, .int (nI j1235)), (2, .int ac1237), (0, .ref (ad 0)), (1, .int z)] → Hp D (Nf sz) (fun _ => True) s.heap H locs cs ad en → W p l e (headSpec (Cond.code yX12_told cX12_told 5 (some .int) :: TB) (rmN 1)).room s m ([.ref (ad 0), .int z] : List Value).toArray below meth c H locs 0 0 (MQ below (va_Qi (S := Unit) (fun r _ => RTO z r en) (fun _ _ => True) (Nf sz)) ([.ref (ad 0), .int z] : List Value).toArray s 0 0 (Nf sz)) (F0 m 71 ls []) := by
            intro fu
            induction fu with
            | zero => intro j1237 ac1237 ls H locs h0 h1 h2; exact absurd h2 (by omega)
            | succ fu ih_1237 =>
              intro j1237 ac1237 ls H locs hj0_1237 hj_1237 hfu_1237 i0_1237 hl hh
              refine lv_iload hx hb dX12_told_71 (lv_at hl 0 rfl) ?_
              refine lv_aload_n hx hb dX12_told_73 rfl (lv_at hl 3 rfl) ?_
              refine hp_get hx hb hts ix12 hown hK hh (q := 0) rfl (hI.1 _ (by decide)) es1233 rfl 4 (by decide) (hts _ tw_883) (fun _ h9 => h9) rfl dX12_told_74 ?_
              refine lv_icmp_ge (tgt := 104) hx hb dX12_told_77 (by decide) (fun c_1238 => ?_) (fun c_1238 => ?_)
              · have n_1238 : tb ≤ j1237 := n_le (a := tb) (b := j1237) c_1238 (by omega) (by omega)
                refine lv_iinc (v := (nI (j1235 + 1))) (lv' := [(3, .int (nI (j1235 + 1))), (4, .int (nI j1237)), (2, .int ac1237), (0, .ref (ad 0)), (1, .int z)]) hx hb dX12_told_104 hl (k := 1) rfl (nI_1 _) (by decide) rfl (fun ls hl => ?_)
                refine lv_goto (tgt := 60) hx hb dX12_told_107 (by decide) ?_
                exact ih_1235 ((j1235 + 1)) ac1237 ls H locs (by omega) (by omega) (by omega) ((by have e9 : j1237 = tb := (by omega); rw [e9] at i0_1237; exact i0_1237)) (lv_sub hl [0, 2, 3, 4] rfl) hh
              · have n_1238 : j1237 < tb := n_nle (a := tb) (b := j1237) c_1238 (by omega) (by omega)
                refine lv_iload_n hx hb dX12_told_80 rfl (lv_at hl 2 rfl) ?_
                refine lv_aload_n hx hb dX12_told_81 rfl (lv_at hl 3 rfl) ?_
                refine lv_iload_n hx hb dX12_told_82 rfl (lv_at hl 1 rfl) ?_
                refine lv_iload hx hb dX12_told_83 (lv_at hl 0 rfl) ?_
                refine hp_callRi (va_runV (As := [.int (nI j1235), .int (nI j1237)]) (rest := [.int ac1237]) ⟨hx, hb, hml, hown, hts⟩ (c_X12_mayFollow l D cy _ cs ad en hI j1235 j1237 (by omega) (by omega)) (kw_X12_mayFollow hts tw_1029 ⟨by decide, by decide⟩) (preV_of hh hK (hI.1 _ (by decide)) es1233 rfl) rfl rfl hl.1 rfl (lv_room (Nat.le_of_ble_eq_true rfl)) dX12_told_85 ⟨Nat.le_of_ble_eq_true rfl, Nat.le_of_ble_eq_true rfl⟩) hh hA (fun r_1239 H locs hw_1239 hh => ?_)
                rcases Decidable.em (rdF (en 2) (6 * j1235 + j1237) = 0) with hp_1239 | hp_1239
                · obtain rfl : r_1239 = 1 := Eq.trans hw_1239 (if_pos hp_1239)
                  refine lv_if_eq (tgt := 95) hx hb dX12_told_88 (by decide) (fun c_0 => absurd c_0 (by decide)) (fun _ => ?_)
                  refine lv_iconst (v := 1) hx hb dX12_told_91 (by decide) ?_
                  refine lv_goto (tgt := 96) hx hb dX12_told_92 (by decide) ?_
                  refine lv_iadd hx hb dX12_told_96 ?_
                  refine lv_istore_n (lv' := [(2, .int (ac1237 + 1)), (4, .int (nI j1237)), (3, .int (nI j1235)), (0, .ref (ad 0)), (1, .int z)]) hx hb dX12_told_97 rfl hl (by decide) rfl (fun ls hl => ?_)
                  refine lv_iinc (v := (nI (j1237 + 1))) (lv' := [(4, .int (nI (j1237 + 1))), (2, .int (ac1237 + 1)), (3, .int (nI j1235)), (0, .ref (ad 0)), (1, .int z)]) hx hb dX12_told_98 hl (k := 1) rfl (nI_1 _) (by decide) rfl (fun ls hl => ?_)
                  refine lv_goto (tgt := 71) hx hb dX12_told_101 (by decide) ?_
                  exact ih_1237 ((j1237 + 1)) (ac1237 + 1) ls H locs (by omega) (by omega) (by omega) ((by rw [i0_1237]; show _ = cpO (mnG (rdF (en 2))) tb j1235 + (cpI (mnG (rdF (en 2))) j1235 j1237 + mnG (rdF (en 2)) (j1235 * 6 + j1237)); rw [show mnG (rdF (en 2)) (j1235 * 6 + j1237) = 1 from by unfold mnG; rw [Nat.mul_comm j1235 6, if_pos hp_1239], Int32.add_assoc])) (lv_sub hl [0, 2, 1, 3, 4] rfl) hh
                · obtain rfl : r_1239 = 0 := Eq.trans hw_1239 (if_neg hp_1239)
                  refine lv_if_eq (tgt := 95) hx hb dX12_told_88 (by decide) (fun _ => ?_) (fun c_0 => absurd c_0 (by decide))
                  refine lv_iconst (v := 0) hx hb dX12_told_95 (by decide) ?_
                  refine lv_iadd hx hb dX12_told_96 ?_
                  refine lv_istore_n (lv' := [(2, .int (ac1237 + 0)), (4, .int (nI j1237)), (3, .int (nI j1235)), (0, .ref (ad 0)), (1, .int z)]) hx hb dX12_told_97 rfl hl (by decide) rfl (fun ls hl => ?_)
                  refine lv_iinc (v := (nI (j1237 + 1))) (lv' := [(4, .int (nI (j1237 + 1))), (2, .int (ac1237 + 0)), (3, .int (nI j1235)), (0, .ref (ad 0)), (1, .int z)]) hx hb dX12_told_98 hl (k := 1) rfl (nI_1 _) (by decide) rfl (fun ls hl => ?_)
                  refine lv_goto (tgt := 71) hx hb dX12_told_101 (by decide) ?_
                  exact ih_1237 ((j1237 + 1)) (ac1237 + 0) ls H locs (by omega) (by omega) (by omega) ((by rw [i0_1237]; show _ = cpO (mnG (rdF (en 2))) tb j1235 + (cpI (mnG (rdF (en 2))) j1235 j1237 + mnG (rdF (en 2)) (j1235 * 6 + j1237)); rw [show mnG (rdF (en 2)) (j1235 * 6 + j1237) = 0 from by unfold mnG; rw [Nat.mul_comm j1235 6, if_neg hp_1239], Int32.add_zero, Int32.add_zero])) (lv_sub hl [0, 2, 1, 3, 4] rfl) hh
          exact loop_1237 (tb + 1) 0 ac1235 ls _ _ (Nat.le_refl _) (by omega) (by omega) ((by rw [i0_1235]; exact (Int32.add_zero _).symm)) (lv_sub hl [0, 1, 2, 3, 4] rfl) hh
    exact loop_1235 (tb + 1) 0 0 ls _ _ (Nat.le_refl _) (by omega) (by omega) (rfl) (lv_sub hl [0, 1, 2, 3] rfl) hh
  refine lv_tableOut (tgt := 112) hx hb dX12_told_1 (tb_out 5 (by decide) (by decide) (fun j hj => by rcases (show j = 0 ∨ j = 1 ∨ j = 2 ∨ j = 3 ∨ j = 4 by omega) with rfl | rfl | rfl | rfl | rfl <;> first | exact lv_neT q_1234_0 (by decide) | exact lv_neT q_1234_1 (by decide) | exact lv_neT q_1234_2 (by decide) | exact lv_neT q_1234_3 (by decide) | exact lv_neT q_1234_4 (by decide))) (by decide) ?_
  refine lv_bipush (v := (-2)) hx hb dX12_told_112 (by decide) ?_
  exact hp_iretR hx hb hr rfl hlocks hsz hh ((Or.inr (Or.inr (Or.inr (Or.inr (Or.inr (⟨q_1234_0, q_1234_1, q_1234_2, q_1234_3, q_1234_4, rfl⟩))))))) dX12_told_114
theorem kw_X12_told {R : Room} {s : State} {args : Array Value} {own : String} {idx : Nat} (hts : ∀ w ∈ TB, w.before args s = true) (hl : Cond.methodLink own idx yX12_told ∈ TB) (hR : 1 + 1 ≤ R.frames ∧ 8 + (5 + 11) + 40 * 1 ≤ R.locals) : CallW R s args own RX12 idx yX12_told cX12_told 5 (some .int) (Cond.code yX12_told cX12_told 5 (some .int) :: TB) (rmN 1) 0 0 1 := cwV 1 hts (TB_V hl tw_1256 tw_1257 tw_9 tw_1258) rfl rfl rfl (by decide +kernel) hR
set_option maxHeartbeats 4000000 in
set_option maxRecDepth 100000 in
/-- letter -/
theorem c_X12_letter (l : Launch) (D : va_G) (cy : Nat → ClassId) (sz : Nat) (cs : List Nat) (ad : Nat → Nat) (en : Nat → va_E) (hI : RX cy cs ad en) (w i9 : Int32)   : Met l yX12_letter (Cond.code yX12_letter cX12_letter 3 (some .int) :: TB) (rmN 1) (va_Pc [.ref (ad 0), .int w, .int i9] (Pre D cy cs ad en sz)) (va_Qi (S := Unit) (fun r _ => RLE w i9 r en) (fun _ _ => True) (Nf sz)) 0 0 (Nf sz) := by
  refine Met.ofW (cc := cX12_letter) (maxL := 3) (ret := (some .int)) (by decide) rfl ?_
  intro p e s m args below meth c s₁ B hml hv
  obtain ⟨rfl, hsz, hP, hK, hD0⟩ := hv
  have hx := B.exec
  have hb := B.bytes
  have hr := B.returns
  have hts : ∀ w ∈ TB, w.before _ s = true := fun w h => atoms_spec (ws := _ :: TB) B.pre w (List.mem_cons_of_mem _ h)
  have hown : s.vm.findClass RX12 = some m.cls := findClass_of_methodNamed B.named
  have hlocks := B.notSynchronized
  have hh : Hp D (Nf sz) (fun _ => True) s.heap s.heap [] cs ad en := ⟨hP, hD0, va_S.rf⟩
  have hA : ∀ q : Nat, s.heap.size ≤ q → Nf sz q := fun q h => by rw [hsz] at h; exact h
  have hl := lv_entry ([.ref (ad 0), .int w, .int i9]) (n := 3) (Nat.le_of_ble_eq_true rfl)
  rw [lg_entry_eq]
  generalize (lg_sl ([.ref (ad 0), .int w, .int i9]) ++ List.replicate (3 - (lg_sl ([.ref (ad 0), .int w, .int i9])).length) Slot.unset).toArray = ls at hl ⊢
  have hl : lv_has ls 3 [(0, .ref (ad 0)), (1, .int w), (2, .int i9)] := hl
  obtain ⟨fa, hi, wd, mo, tb, dp, many, grt, lst, nou, rm, rb, pr, wo, es1240, hwd2, hwd3, hmo, htb, hwo⟩ := getr_M hI
  refine lv_aload_n hx hb dX12_letter_0 rfl (lv_at hl 0 rfl) ?_
  refine lv_iload_n hx hb dX12_letter_1 rfl (lv_at hl 1 rfl) ?_
  refine hp_callRi (va_runV (As := [.int w]) (rest := []) ⟨hx, hb, hml, hown, hts⟩ (c_X12_isWord l D cy _ cs ad en hI w ) (kw_X12_isWord hts tw_1175 ⟨by decide, by decide⟩) (preV_of hh hK (hI.1 _ (by decide)) es1240 rfl) rfl rfl hl.1 rfl (lv_room (Nat.le_of_ble_eq_true rfl)) dX12_letter_2 ⟨Nat.le_of_ble_eq_true rfl, Nat.le_of_ble_eq_true rfl⟩) hh hA (fun r_1241 H locs hw_1241 hh => ?_)
  rw [show rdI (en 0) 30 = (nI wo) from by rw [es1240]; rfl, nI_toInt (n := wo) (by omega)] at hw_1241
  rcases Decidable.em (0 ≤ w.toInt ∧ w.toInt < (wo : Int)) with hp_1241 | hp_1241
  · obtain rfl : r_1241 = 1 := Eq.trans hw_1241 (if_pos hp_1241)
    obtain ⟨T_1241, rfl, hT_1241⟩ := has_nat hp_1241
    refine lv_if_eq (tgt := 40) hx hb dX12_letter_5 (by decide) (fun c_0 => absurd c_0 (by decide)) (fun _ => ?_)
    refine lv_iload_n hx hb dX12_letter_8 rfl (lv_at hl 2 rfl) ?_
    refine lv_i2l hx hb dX12_letter_9 rfl ?_
    refine lv_lconst (v := 0) hx hb dX12_letter_10 (by decide) ?_
    refine lv_aload_n hx hb dX12_letter_11 rfl (lv_at hl 0 rfl) ?_
    refine hp_get hx hb hts ix12 hown hK hh (q := 0) rfl (hI.1 _ (by decide)) es1240 rfl 32 (by decide) (hts _ tw_911) (fun _ h9 => h9) rfl dX12_letter_12 ?_
    refine lv_iload_n hx hb dX12_letter_15 rfl (lv_at hl 1 rfl) ?_
    obtain ⟨f_1242, es1242, p0_1242⟩ := getr_wl hI
    refine hp_iald hx hb hK hh (q := 19) rfl (hI.1 _ (by decide)) es1242 (vp_in_nI (n := T_1241) (by omega) (by decide)) dX12_letter_16 ?_
    rw [nI_clamp (n := T_1241) (by omega)]
    obtain ⟨v_1243, hv_1243, hfv_1243⟩ := p0_1242 T_1241 (by omega)
    rw [hfv_1243]
    refine lv_i2l hx hb dX12_letter_17 rfl ?_
    refine lv_lconst (v := 1) hx hb dX12_letter_18 (by decide) ?_
    refine lv_lsub hx hb dX12_letter_19 ?_
    refine hp_callRi (va_runS (As := [.long i9.toInt64, .long 0, .long ((nI v_1243).toInt64 - 1)]) (rest := []) ⟨hx, hb, hml, hown, hts⟩ (c_X12_within l D cy _ cs ad en i9.toInt64 0 ((nI v_1243).toInt64 - 1)) (kw_X12_within hts tw_985 ⟨by decide, by decide⟩) (preS_of hh hK) rfl rfl hl.1 rfl (lv_room (Nat.le_of_ble_eq_true rfl)) dX12_letter_20 ⟨Nat.le_of_ble_eq_true rfl, Nat.le_of_ble_eq_true rfl⟩) hh hA (fun r_1244 H locs hw_1244 hh => ?_)
    rcases Decidable.em (0 ≤ i9.toInt ∧ i9.toInt < (v_1243 : Int)) with hp_1244 | hp_1244
    · obtain rfl : r_1244 = 1 := Eq.trans hw_1244 (if_pos ((wj_m1 (by omega)).mpr hp_1244))
      obtain ⟨N_1244, rfl, hB_1244⟩ := has_nat hp_1244
      refine lv_if_eq (tgt := 40) hx hb dX12_letter_23 (by decide) (fun c_0 => absurd c_0 (by decide)) (fun _ => ?_)
      refine lv_aload_n hx hb dX12_letter_26 rfl (lv_at hl 0 rfl) ?_
      refine hp_get hx hb hts ix12 hown hK hh (q := 0) rfl (hI.1 _ (by decide)) es1240 rfl 31 (by decide) (hts _ tw_910) (fun _ h9 => h9) rfl dX12_letter_27 ?_
      refine lv_bipush (v := 12) hx hb dX12_letter_30 (by decide) ?_
      refine lv_iload_n hx hb dX12_letter_32 rfl (lv_at hl 1 rfl) ?_
      refine lv_imul hx hb dX12_letter_33 ?_
      rw [show (12 : Int32) = nI 12 from rfl, pk_mul 12 T_1241]
      refine lv_iload_n hx hb dX12_letter_34 rfl (lv_at hl 2 rfl) ?_
      refine lv_iadd hx hb dX12_letter_35 ?_
      rw [nI_add (12 * T_1241) N_1244]
      obtain ⟨f_1245, es1245, p0_1245⟩ := getr_lt hI
      refine hp_iald hx hb hK hh (q := 18) rfl (hI.1 _ (by decide)) es1245 (vp_in_nI (n := ((12 * T_1241) + N_1244)) (by omega) (by decide)) dX12_letter_36 ?_
      rw [nI_clamp (n := ((12 * T_1241) + N_1244)) (by omega)]
      obtain ⟨v_1246, hv_1246, hfv_1246⟩ := p0_1245 ((12 * T_1241) + N_1244) (by omega)
      rw [hfv_1246]
      refine lv_goto (tgt := 41) hx hb dX12_letter_37 (by decide) ?_
      have hc30 : (rdI (en 0) 30).toInt = (wo : Int) := by rw [es1240]; exact nI_toInt (by omega)
      have hc19 : (rdF (en 19) T_1241).toInt = (v_1243 : Int) := by rw [show rdF (en 19) = f_1242 from by rw [es1242]; rfl, hfv_1243]; exact nI_toInt (by omega)
      exact hp_iretR hx hb hr rfl hlocks hsz hh (Or.inr ⟨T_1241, rfl, by omega, ⟨hp_1241.1, by have := hp_1241.2; omega⟩, Or.inl ⟨⟨hp_1244.1, by have := hp_1244.2; omega⟩, (by rw [nI_clamp (n := N_1244) (by omega), show rdF (en 18) = f_1245 from by rw [es1245]; rfl]; exact hfv_1246.symm)⟩⟩) dX12_letter_41
    · obtain rfl : r_1244 = 0 := Eq.trans hw_1244 (if_neg (fun q => hp_1244 ((wj_m1 (by omega)).mp q)))
      refine lv_if_eq (tgt := 40) hx hb dX12_letter_23 (by decide) (fun _ => ?_) (fun c_0 => absurd c_0 (by decide))
      refine lv_iconst (v := (-1)) hx hb dX12_letter_40 (by decide) ?_
      have hc30 : (rdI (en 0) 30).toInt = (wo : Int) := by rw [es1240]; exact nI_toInt (by omega)
      have hc19 : (rdF (en 19) T_1241).toInt = (v_1243 : Int) := by rw [show rdF (en 19) = f_1242 from by rw [es1242]; rfl, hfv_1243]; exact nI_toInt (by omega)
      exact hp_iretR hx hb hr rfl hlocks hsz hh (Or.inr ⟨T_1241, rfl, by omega, ⟨hp_1241.1, by have := hp_1241.2; omega⟩, Or.inr ⟨fun q => hp_1244 ⟨q.1, by have := q.2; omega⟩, rfl⟩⟩) dX12_letter_41
  · obtain rfl : r_1241 = 0 := Eq.trans hw_1241 (if_neg hp_1241)
    refine lv_if_eq (tgt := 40) hx hb dX12_letter_5 (by decide) (fun _ => ?_) (fun c_0 => absurd c_0 (by decide))
    refine lv_iconst (v := (-1)) hx hb dX12_letter_40 (by decide) ?_
    have hc30 : (rdI (en 0) 30).toInt = (wo : Int) := by rw [es1240]; exact nI_toInt (by omega)
    exact hp_iretR hx hb hr rfl hlocks hsz hh (Or.inl ⟨fun q => hp_1241 ⟨q.1, by have := q.2; omega⟩, rfl⟩) dX12_letter_41
theorem kw_X12_letter {R : Room} {s : State} {args : Array Value} {own : String} {idx : Nat} (hts : ∀ w ∈ TB, w.before args s = true) (hl : Cond.methodLink own idx yX12_letter ∈ TB) (hR : 1 + 1 ≤ R.frames ∧ 8 + (3 + 11) + 40 * 1 ≤ R.locals) : CallW R s args own RX12 idx yX12_letter cX12_letter 3 (some .int) (Cond.code yX12_letter cX12_letter 3 (some .int) :: TB) (rmN 1) 0 0 2 := cwV 2 hts (TB_V hl tw_1180 tw_1181 tw_9 tw_1182) rfl rfl rfl (by decide +kernel) hR
set_option maxHeartbeats 4000000 in
set_option maxRecDepth 100000 in
/-- isAllowed -/
theorem c_X12_isAllowed (l : Launch) (D : va_G) (cy : Nat → ClassId) (sz : Nat) (cs : List Nat) (ad : Nat → Nat) (en : Nat → va_E) (hI : RX cy cs ad en) (n : Nat) (hn1 : 1 ≤ n) (hn12 : n ≤ 12)   : Met l yX12_isAllowed (Cond.code yX12_isAllowed cX12_isAllowed 3 (some .boolean) :: TB) (rmN 1) (va_Pc [.ref (ad 0), .int (nI n)] (Pre D cy cs ad en sz)) (va_Qi (S := Unit) (fun r _ => bI r (alM (rdF (en 2)) (rdF (en 12)) n)) (fun _ _ => True) (Nf sz)) 0 0 (Nf sz) := by
  refine Met.ofW (cc := cX12_isAllowed) (maxL := 3) (ret := (some .boolean)) (by decide) rfl ?_
  intro p e s m args below meth c s₁ B hml hv
  obtain ⟨rfl, hsz, hP, hK, hD0⟩ := hv
  have hx := B.exec
  have hb := B.bytes
  have hr := B.returns
  have hts : ∀ w ∈ TB, w.before _ s = true := fun w h => atoms_spec (ws := _ :: TB) B.pre w (List.mem_cons_of_mem _ h)
  have hown : s.vm.findClass RX12 = some m.cls := findClass_of_methodNamed B.named
  have hlocks := B.notSynchronized
  have hh : Hp D (Nf sz) (fun _ => True) s.heap s.heap [] cs ad en := ⟨hP, hD0, va_S.rf⟩
  have hA : ∀ q : Nat, s.heap.size ≤ q → Nf sz q := fun q h => by rw [hsz] at h; exact h
  have hl := lv_entry ([.ref (ad 0), .int (nI n)]) (n := 3) (Nat.le_of_ble_eq_true rfl)
  rw [lg_entry_eq]
  generalize (lg_sl ([.ref (ad 0), .int (nI n)]) ++ List.replicate (3 - (lg_sl ([.ref (ad 0), .int (nI n)])).length) Slot.unset).toArray = ls at hl ⊢
  have hl : lv_has ls 3 [(0, .ref (ad 0)), (1, .int (nI n))] := hl
  obtain ⟨fa, hi, wd, mo, tb, dp, many, grt, lst, nou, rm, rb, pr, wo, es1247, hwd2, hwd3, hmo, htb, hwo⟩ := getr_M hI
  obtain ⟨f_1248, es1248, p0_1248⟩ := getr_ak hI
  refine lv_iconst (v := 1) hx hb dX12_isAllowed_0 (by decide) ?_
  refine lv_istore_n (lv' := [(2, .int 1), (0, .ref (ad 0)), (1, .int (nI n))]) hx hb dX12_isAllowed_1 rfl hl (by decide) rfl (fun ls hl => ?_)
  have loop_1249 : ∀ (fu j1249 : Nat)   (ls : Array Slot) (H : Heap) (locs : List Loc), 1 ≤ j1249 → j1249 ≤ n → n < j1249 + fu →  (∀ i, 1 ≤ i → i < j1249 → rdF (en 2) (6 * (rdF (en 12) (i - 1)).toNatClampNeg + (rdF (en 12) i).toNatClampNeg) = 0) → lv_has ls 3 [(2, .int (nI j1249)), (0, .ref (ad 0)), (1, .int (nI n))] → Hp D (Nf sz) (fun _ => True) s.heap H locs cs ad en → W p l e (headSpec (Cond.code yX12_isAllowed cX12_isAllowed 3 (some .boolean) :: TB) (rmN 1)).room s m ([.ref (ad 0), .int (nI n)] : List Value).toArray below meth c H locs 0 0 (MQ below (va_Qi (S := Unit) (fun r _ => bI r (alM (rdF (en 2)) (rdF (en 12)) n)) (fun _ _ => True) (Nf sz)) ([.ref (ad 0), .int (nI n)] : List Value).toArray s 0 0 (Nf sz)) (F0 m 2 ls []) := by
    intro fu
    induction fu with
    | zero => intro j1249  ls H locs h0 h1 h2; exact absurd h2 (by omega)
    | succ fu ih_1249 =>
      intro j1249  ls H locs hj0_1249 hj_1249 hfu_1249 i0_1249 hl hh
      refine lv_iload_n hx hb dX12_isAllowed_2 rfl (lv_at hl 0 rfl) ?_
      refine lv_iload_n hx hb dX12_isAllowed_3 rfl (lv_at hl 2 rfl) ?_
      refine lv_icmp_ge (tgt := 36) hx hb dX12_isAllowed_4 (by decide) (fun c_1250 => ?_) (fun c_1250 => ?_)
      · have n_1250 : n ≤ j1249 := n_le (a := n) (b := j1249) c_1250 (by omega) (by omega)
        refine lv_iconst (v := 1) hx hb dX12_isAllowed_36 (by decide) ?_
        exact hp_iretR hx hb hr rfl hlocks hsz hh (Or.inl ⟨rfl, fun i h1 h2 => i0_1249 i h1 (by omega)⟩) dX12_isAllowed_37
      · have n_1250 : j1249 < n := n_nle (a := n) (b := j1249) c_1250 (by omega) (by omega)
        refine lv_aload_n hx hb dX12_isAllowed_7 rfl (lv_at hl 1 rfl) ?_
        refine lv_aload_n hx hb dX12_isAllowed_8 rfl (lv_at hl 1 rfl) ?_
        refine hp_get hx hb hts ix12 hown hK hh (q := 0) rfl (hI.1 _ (by decide)) es1247 rfl 21 (by decide) (hts _ tw_900) (fun _ h9 => h9) rfl dX12_isAllowed_9 ?_
        refine lv_iload_n hx hb dX12_isAllowed_12 rfl (lv_at hl 0 rfl) ?_
        refine lv_iconst (v := 1) hx hb dX12_isAllowed_13 (by decide) ?_
        refine lv_isub hx hb dX12_isAllowed_14 ?_
        rw [show (1 : Int32) = nI 1 from rfl, pk_sub (a := j1249) (b := 1) (by omega)]
        refine hp_iald hx hb hK hh (q := 12) rfl (hI.1 _ (by decide)) es1248 (vp_in_nI (n := (j1249 - 1)) (by omega) (by decide)) dX12_isAllowed_15 ?_
        rw [nI_clamp (n := (j1249 - 1)) (by omega)]
        obtain ⟨v_1251, hv_1251, hfv_1251⟩ := p0_1248 (j1249 - 1) (by omega)
        rw [hfv_1251]
        refine lv_aload_n hx hb dX12_isAllowed_16 rfl (lv_at hl 1 rfl) ?_
        refine hp_get hx hb hts ix12 hown hK hh (q := 0) rfl (hI.1 _ (by decide)) es1247 rfl 21 (by decide) (hts _ tw_900) (fun _ h9 => h9) rfl dX12_isAllowed_17 ?_
        refine lv_iload_n hx hb dX12_isAllowed_20 rfl (lv_at hl 0 rfl) ?_
        refine hp_iald hx hb hK hh (q := 12) rfl (hI.1 _ (by decide)) es1248 (vp_in_nI (n := j1249) (by omega) (by decide)) dX12_isAllowed_21 ?_
        rw [nI_clamp (n := j1249) (by omega)]
        obtain ⟨v_1252, hv_1252, hfv_1252⟩ := p0_1248 j1249 (by omega)
        rw [hfv_1252]
        refine hp_callRi (va_runV (As := [.int (nI v_1251), .int (nI v_1252)]) (rest := []) ⟨hx, hb, hml, hown, hts⟩ (c_X12_mayFollow l D cy _ cs ad en hI v_1251 v_1252 (by omega) (by omega)) (kw_X12_mayFollow hts tw_1029 ⟨by decide, by decide⟩) (preV_of hh hK (hI.1 _ (by decide)) es1247 rfl) rfl rfl hl.1 rfl (lv_room (Nat.le_of_ble_eq_true rfl)) dX12_isAllowed_22 ⟨Nat.le_of_ble_eq_true rfl, Nat.le_of_ble_eq_true rfl⟩) hh hA (fun r_1253 H locs hw_1253 hh => ?_)
        rcases Decidable.em (rdF (en 2) (6 * v_1251 + v_1252) = 0) with hp_1253 | hp_1253
        · obtain rfl : r_1253 = 1 := Eq.trans hw_1253 (if_pos hp_1253)
          refine lv_if_ne (tgt := 30) hx hb dX12_isAllowed_25 (by decide) (fun _ => ?_) (fun c_0 => absurd c_0 (by decide))
          refine lv_iinc (v := (nI (j1249 + 1))) (lv' := [(2, .int (nI (j1249 + 1))), (0, .ref (ad 0)), (1, .int (nI n))]) hx hb dX12_isAllowed_30 hl (k := 0) rfl (nI_1 _) (by decide) rfl (fun ls hl => ?_)
          refine lv_goto (tgt := 2) hx hb dX12_isAllowed_33 (by decide) ?_
          exact ih_1249 ((j1249 + 1))  ls H locs (by omega) (by omega) (by omega) (fun i h1 h2 => (Nat.lt_or_ge i j1249).elim (fun h => i0_1249 i h1 h) (fun h => by have e : i = j1249 := (by omega); rw [e]; exact (by rw [show rdF (en 12) = f_1248 from by rw [es1248]; rfl, hfv_1251, hfv_1252, nI_clamp (n := v_1251) (by omega), nI_clamp (n := v_1252) (by omega)]; exact hp_1253))) (lv_sub hl [0, 1, 2] rfl) hh
        · obtain rfl : r_1253 = 0 := Eq.trans hw_1253 (if_neg hp_1253)
          refine lv_if_ne (tgt := 30) hx hb dX12_isAllowed_25 (by decide) (fun c_0 => absurd c_0 (by decide)) (fun _ => ?_)
          refine lv_iconst (v := 0) hx hb dX12_isAllowed_28 (by decide) ?_
          exact hp_iretR hx hb hr rfl hlocks hsz hh (Or.inr ⟨rfl, fun q => hp_1253 (by have h9 := q j1249 (by omega) (by omega); rw [show rdF (en 12) = f_1248 from by rw [es1248]; rfl, hfv_1251, hfv_1252, nI_clamp (n := v_1251) (by omega), nI_clamp (n := v_1252) (by omega)] at h9; exact h9)⟩) dX12_isAllowed_29
  exact loop_1249 (n + 1) 1  ls _ _ (Nat.le_refl _) (by omega) (by omega) (fun i h1 h2 => absurd h2 (by omega)) (lv_sub hl [0, 1, 2] rfl) hh
theorem kw_X12_isAllowed {R : Room} {s : State} {args : Array Value} {own : String} {idx : Nat} (hts : ∀ w ∈ TB, w.before args s = true) (hl : Cond.methodLink own idx yX12_isAllowed ∈ TB) (hR : 1 + 1 ≤ R.frames ∧ 8 + (3 + 11) + 40 * 1 ≤ R.locals) : CallW R s args own RX12 idx yX12_isAllowed cX12_isAllowed 3 (some .boolean) (Cond.code yX12_isAllowed cX12_isAllowed 3 (some .boolean) :: TB) (rmN 1) 0 0 1 := cwV 1 hts (TB_V hl tw_1083 ts_46 tw_9 tw_1084) rfl rfl rfl (by decide +kernel) hR
set_option maxHeartbeats 4000000 in
set_option maxRecDepth 100000 in
/-- timesOf -/
theorem c_X12_timesOf (l : Launch) (D : va_G) (cy : Nat → ClassId) (sz : Nat) (cs : List Nat) (ad : Nat → Nat) (en : Nat → va_E) (hI : RX cy cs ad en) (n : Nat) (hn1 : 1 ≤ n) (hn12 : n ≤ 12)   : Met l yX12_timesOf (Cond.code yX12_timesOf cX12_timesOf 5 (some .int) :: TB) (rmN 0) (va_Pc [.ref (ad 0), .int (nI n)] (Pre D cy cs ad en sz)) (va_Qi (S := Unit) (fun r _ => repP (rdF (en 12)) n r) (fun _ _ => True) (Nf sz)) 0 0 (Nf sz) := by
  refine Met.ofW (cc := cX12_timesOf) (maxL := 5) (ret := (some .int)) (by decide) rfl ?_
  intro p e s m args below meth c s₁ B hml hv
  obtain ⟨rfl, hsz, hP, hK, hD0⟩ := hv
  have hx := B.exec
  have hb := B.bytes
  have hr := B.returns
  have hts : ∀ w ∈ TB, w.before _ s = true := fun w h => atoms_spec (ws := _ :: TB) B.pre w (List.mem_cons_of_mem _ h)
  have hown : s.vm.findClass RX12 = some m.cls := findClass_of_methodNamed B.named
  have hlocks := B.notSynchronized
  have hh : Hp D (Nf sz) (fun _ => True) s.heap s.heap [] cs ad en := ⟨hP, hD0, va_S.rf⟩
  have hA : ∀ q : Nat, s.heap.size ≤ q → Nf sz q := fun q h => by rw [hsz] at h; exact h
  have hl := lv_entry ([.ref (ad 0), .int (nI n)]) (n := 5) (Nat.le_of_ble_eq_true rfl)
  rw [lg_entry_eq]
  generalize (lg_sl ([.ref (ad 0), .int (nI n)]) ++ List.replicate (5 - (lg_sl ([.ref (ad 0), .int (nI n)])).length) Slot.unset).toArray = ls at hl ⊢
  have hl : lv_has ls 5 [(0, .ref (ad 0)), (1, .int (nI n))] := hl
  obtain ⟨fa, hi, wd, mo, tb, dp, many, grt, lst, nou, rm, rb, pr, wo, es1254, hwd2, hwd3, hmo, htb, hwo⟩ := getr_M hI
  obtain ⟨f_1255, es1255, p0_1255⟩ := getr_ak hI
  refine lv_iconst (v := 1) hx hb dX12_timesOf_0 (by decide) ?_
  refine lv_istore_n (lv' := [(2, .int 1), (0, .ref (ad 0)), (1, .int (nI n))]) hx hb dX12_timesOf_1 rfl hl (by decide) rfl (fun ls hl => ?_)
  have hak : rdF (en 12) = f_1255 := by rw [es1255]; rfl
  have loop_1256 : ∀ (fu j1256 : Nat)   (ls : Array Slot) (H : Heap) (locs : List Loc), 1 ≤ j1256 → j1256 ≤ n → n < j1256 + fu →  (∀ y, 1 ≤ y → y < j1256 → ¬ (n % y = 0 ∧ perP f_1255 n y)) → lv_has ls 5 [(2, .int (nI j1256)), (0, .ref (ad 0)), (1, .int (nI n))] → Hp D (Nf sz) (fun _ => True) s.heap H locs cs ad en → W p l e (headSpec (Cond.code yX12_timesOf cX12_timesOf 5 (some .int) :: TB) (rmN 0)).room s m ([.ref (ad 0), .int (nI n)] : List Value).toArray below meth c H locs 0 0 (MQ below (va_Qi (S := Unit) (fun r _ => repP (rdF (en 12)) n r) (fun _ _ => True) (Nf sz)) ([.ref (ad 0), .int (nI n)] : List Value).toArray s 0 0 (Nf sz)) (F0 m 2 ls []) := by
    intro fu
    induction fu with
    | zero => intro j1256  ls H locs h0 h1 h2; exact absurd h2 (by omega)
    | succ fu ih_1256 =>
      intro j1256  ls H locs hj0_1256 hj_1256 hfu_1256 i0_1256 hl hh
      refine lv_iload_n hx hb dX12_timesOf_2 rfl (lv_at hl 0 rfl) ?_
      refine lv_iload_n hx hb dX12_timesOf_3 rfl (lv_at hl 2 rfl) ?_
      refine lv_icmp_ge (tgt := 77) hx hb dX12_timesOf_4 (by decide) (fun c_1257 => ?_) (fun c_1257 => ?_)
      · have n_1257 : n ≤ j1256 := n_le (a := n) (b := j1256) c_1257 (by omega) (by omega)
        refine lv_iconst (v := 1) hx hb dX12_timesOf_77 (by decide) ?_
        exact hp_iretR hx hb hr rfl hlocks hsz hh (by rw [hak]; exact Or.inr ⟨rfl, fun y h1 h2 => i0_1256 y h1 (by omega)⟩) dX12_timesOf_78
      · have n_1257 : j1256 < n := n_nle (a := n) (b := j1256) c_1257 (by omega) (by omega)
        refine lv_iload_n hx hb dX12_timesOf_7 rfl (lv_at hl 2 rfl) ?_
        refine lv_iload_n hx hb dX12_timesOf_8 rfl (lv_at hl 0 rfl) ?_
        refine lv_irem hx hb dX12_timesOf_9 (nI_ne0 (by omega) (by omega)) ?_
        rw [pk_rem (a := n) (d := j1256) (by omega) (by omega) (by omega)]
        have hq_1258 : (n % j1256) ≤ n := Nat.mod_le _ _
        refine lv_if_ne (tgt := 17) hx hb dX12_timesOf_10 (by decide) (fun c_1259 => ?_) (fun c_1259 => ?_)
        · have n_1259 : (n % j1256) ≠ 0 := n_neq (a := (n % j1256)) (b := 0) c_1259 (by omega) (by decide)
          refine lv_iconst (v := 0) hx hb dX12_timesOf_17 (by decide) ?_
          refine lv_istore_n (lv' := [(3, .int 0), (2, .int (nI j1256)), (0, .ref (ad 0)), (1, .int (nI n))]) hx hb dX12_timesOf_18 rfl hl (by decide) rfl (fun ls hl => ?_)
          refine lv_iload_n hx hb dX12_timesOf_19 rfl (lv_at hl 1 rfl) ?_
          refine lv_istore (lv' := [(4, .int (nI j1256)), (3, .int 0), (2, .int (nI j1256)), (0, .ref (ad 0)), (1, .int (nI n))]) hx hb dX12_timesOf_20 hl (by decide) rfl (fun ls hl => ?_)
          have loop_1260 : ∀ (fu j1260 : Nat) (lk1260 : Int32)  (ls : Array Slot) (H : Heap) (locs : List Loc), j1256 ≤ j1260 → j1260 ≤ n → n < j1260 + fu →  (bI lk1260 (n % j1256 = 0 ∧ ∀ y, j1256 ≤ y → y < j1260 → f_1255 y = f_1255 (y - j1256))) → lv_has ls 5 [(4, .int (nI j1260)), (3, .int lk1260), (2, .int (nI j1256)), (0, .ref (ad 0)), (1, .int (nI n))] → Hp D (Nf sz) (fun _ => True) s.heap H locs cs ad en → W p l e (headSpec (Cond.code yX12_timesOf cX12_timesOf 5 (some .int) :: TB) (rmN 0)).room s m ([.ref (ad 0), .int (nI n)] : List Value).toArray below meth c H locs 0 0 (MQ below (va_Qi (S := Unit) (fun r _ => repP (rdF (en 12)) n r) (fun _ _ => True) (Nf sz)) ([.ref (ad 0), .int (nI n)] : List Value).toArray s 0 0 (Nf sz)) (F0 m 22 ls []) := by
            intro fu
            induction fu with
            | zero => intro j1260 lk1260 ls H locs h0 h1 h2; exact absurd h2 (by omega)
            | succ fu ih_1260 =>
              intro j1260 lk1260 ls H locs hj0_1260 hj_1260 hfu_1260 i0_1260 hl hh
              refine lv_iload hx hb dX12_timesOf_22 (lv_at hl 0 rfl) ?_
              refine lv_iload_n hx hb dX12_timesOf_24 rfl (lv_at hl 4 rfl) ?_
              refine lv_icmp_ge (tgt := 63) hx hb dX12_timesOf_25 (by decide) (fun c_1261 => ?_) (fun c_1261 => ?_)
              · have n_1261 : n ≤ j1260 := n_le (a := n) (b := j1260) c_1261 (by omega) (by omega)
                refine lv_iload_n hx hb dX12_timesOf_63 rfl (lv_at hl 1 rfl) ?_
                refine lv_if_eq (tgt := 71) hx hb dX12_timesOf_64 (by decide) (fun c_1262 => ?_) (fun c_1262 => ?_)
                · refine lv_iinc (v := (nI (j1256 + 1))) (lv' := [(2, .int (nI (j1256 + 1))), (4, .int (nI j1260)), (3, .int lk1260), (0, .ref (ad 0)), (1, .int (nI n))]) hx hb dX12_timesOf_71 hl (k := 2) rfl (nI_1 _) (by decide) rfl (fun ls hl => ?_)
                  refine lv_goto (tgt := 2) hx hb dX12_timesOf_74 (by decide) ?_
                  exact ih_1256 ((j1256 + 1))  ls H locs (by omega) (by omega) (by omega) (fun y h1 h2 q => (Nat.lt_or_ge y j1256).elim (fun h => i0_1256 y h1 h q) (fun h => by have e : y = j1256 := (by omega); rw [e] at q; exact bI_f i0_1260 c_1262 ⟨q.1, fun y h1 h2 => q.2 y h1 (by omega)⟩)) (lv_sub hl [0, 3, 4] rfl) hh
                · refine lv_iload_n hx hb dX12_timesOf_67 rfl (lv_at hl 4 rfl) ?_
                  refine lv_iload_n hx hb dX12_timesOf_68 rfl (lv_at hl 2 rfl) ?_
                  refine lv_idiv hx hb dX12_timesOf_69 (nI_ne0 (by omega) (by omega)) ?_
                  rw [pk_div (a := n) (d := j1256) (by omega) (by omega) (by omega)]
                  have hq_1263 : (n / j1256) ≤ n := Nat.div_le_self _ _
                  exact hp_iretR hx hb hr rfl hlocks hsz hh (by rw [hak]; exact Or.inl ⟨j1256, by omega, by omega, (bI_t i0_1260 c_1262).1, fun y h1 h2 => (bI_t i0_1260 c_1262).2 y h1 (by omega), rfl, i0_1256⟩) dX12_timesOf_70
              · have n_1261 : j1260 < n := n_nle (a := n) (b := j1260) c_1261 (by omega) (by omega)
                refine lv_iload_n hx hb dX12_timesOf_28 rfl (lv_at hl 1 rfl) ?_
                refine lv_if_eq (tgt := 63) hx hb dX12_timesOf_29 (by decide) (fun c_1264 => ?_) (fun c_1264 => ?_)
                · refine lv_iload_n hx hb dX12_timesOf_63 rfl (lv_at hl 1 rfl) ?_
                  refine lv_if_eq (tgt := 71) hx hb dX12_timesOf_64 (by decide) (fun c_1265 => ?_) (fun c_1265 => ?_)
                  · refine lv_iinc (v := (nI (j1256 + 1))) (lv' := [(2, .int (nI (j1256 + 1))), (4, .int (nI j1260)), (3, .int lk1260), (0, .ref (ad 0)), (1, .int (nI n))]) hx hb dX12_timesOf_71 hl (k := 2) rfl (nI_1 _) (by decide) rfl (fun ls hl => ?_)
                    refine lv_goto (tgt := 2) hx hb dX12_timesOf_74 (by decide) ?_
                    exact ih_1256 ((j1256 + 1))  ls H locs (by omega) (by omega) (by omega) (fun y h1 h2 q => (Nat.lt_or_ge y j1256).elim (fun h => i0_1256 y h1 h q) (fun h => by have e : y = j1256 := (by omega); rw [e] at q; exact bI_f i0_1260 c_1265 ⟨q.1, fun y h1 h2 => q.2 y h1 (by omega)⟩)) (lv_sub hl [0, 3, 4] rfl) hh
                  · refine lv_iload_n hx hb dX12_timesOf_67 rfl (lv_at hl 4 rfl) ?_
                    refine lv_iload_n hx hb dX12_timesOf_68 rfl (lv_at hl 2 rfl) ?_
                    refine lv_idiv hx hb dX12_timesOf_69 (nI_ne0 (by omega) (by omega)) ?_
                    rw [pk_div (a := n) (d := j1256) (by omega) (by omega) (by omega)]
                    have hq_1266 : (n / j1256) ≤ n := Nat.div_le_self _ _
                    exact hp_iretR hx hb hr rfl hlocks hsz hh (absurd c_1264 c_1265) dX12_timesOf_70
                · refine lv_aload_n hx hb dX12_timesOf_32 rfl (lv_at hl 3 rfl) ?_
                  refine hp_get hx hb hts ix12 hown hK hh (q := 0) rfl (hI.1 _ (by decide)) es1254 rfl 21 (by decide) (hts _ tw_900) (fun _ h9 => h9) rfl dX12_timesOf_33 ?_
                  refine lv_iload hx hb dX12_timesOf_36 (lv_at hl 0 rfl) ?_
                  refine hp_iald hx hb hK hh (q := 12) rfl (hI.1 _ (by decide)) es1255 (vp_in_nI (n := j1260) (by omega) (by decide)) dX12_timesOf_38 ?_
                  rw [nI_clamp (n := j1260) (by omega)]
                  obtain ⟨v_1267, hv_1267, hfv_1267⟩ := p0_1255 j1260 (by omega)
                  rw [hfv_1267]
                  refine lv_aload_n hx hb dX12_timesOf_39 rfl (lv_at hl 3 rfl) ?_
                  refine hp_get hx hb hts ix12 hown hK hh (q := 0) rfl (hI.1 _ (by decide)) es1254 rfl 21 (by decide) (hts _ tw_900) (fun _ h9 => h9) rfl dX12_timesOf_40 ?_
                  refine lv_iload hx hb dX12_timesOf_43 (lv_at hl 0 rfl) ?_
                  refine lv_iload_n hx hb dX12_timesOf_45 rfl (lv_at hl 2 rfl) ?_
                  refine lv_isub hx hb dX12_timesOf_46 ?_
                  rw [pk_sub (a := j1260) (b := j1256) (by omega)]
                  refine hp_iald hx hb hK hh (q := 12) rfl (hI.1 _ (by decide)) es1255 (vp_in_nI (n := (j1260 - j1256)) (by omega) (by decide)) dX12_timesOf_47 ?_
                  rw [nI_clamp (n := (j1260 - j1256)) (by omega)]
                  obtain ⟨v_1268, hv_1268, hfv_1268⟩ := p0_1255 (j1260 - j1256) (by omega)
                  rw [hfv_1268]
                  refine lv_icmp_ne (tgt := 55) hx hb dX12_timesOf_48 (by decide) (fun c_1269 => ?_) (fun c_1269 => ?_)
                  · have n_1269 : v_1267 ≠ v_1268 := n_neq (a := v_1267) (b := v_1268) c_1269 (by omega) (by omega)
                    refine lv_iconst (v := 0) hx hb dX12_timesOf_55 (by decide) ?_
                    refine lv_istore_n (lv' := [(3, .int 0), (4, .int (nI j1260)), (2, .int (nI j1256)), (0, .ref (ad 0)), (1, .int (nI n))]) hx hb dX12_timesOf_56 rfl hl (by decide) rfl (fun ls hl => ?_)
                    refine lv_iinc (v := (nI (j1260 + 1))) (lv' := [(4, .int (nI (j1260 + 1))), (3, .int 0), (2, .int (nI j1256)), (0, .ref (ad 0)), (1, .int (nI n))]) hx hb dX12_timesOf_57 hl (k := 1) rfl (nI_1 _) (by decide) rfl (fun ls hl => ?_)
                    refine lv_goto (tgt := 22) hx hb dX12_timesOf_60 (by decide) ?_
                    exact ih_1260 ((j1260 + 1)) 0 ls H locs (by omega) (by omega) (by omega) (Or.inr ⟨rfl, fun q => n_1269 (n_eq (hfv_1267.symm.trans ((q.2 j1260 (by omega) (by omega)).trans hfv_1268)) (by omega) (by omega))⟩) (lv_sub hl [0, 1, 2, 3, 4] rfl) hh
                  · have n_1269 : v_1267 = v_1268 := n_eq (a := v_1267) (b := v_1268) c_1269 (by omega) (by omega)
                    refine lv_iconst (v := 1) hx hb dX12_timesOf_51 (by decide) ?_
                    refine lv_goto (tgt := 56) hx hb dX12_timesOf_52 (by decide) ?_
                    refine lv_istore_n (lv' := [(3, .int 1), (4, .int (nI j1260)), (2, .int (nI j1256)), (0, .ref (ad 0)), (1, .int (nI n))]) hx hb dX12_timesOf_56 rfl hl (by decide) rfl (fun ls hl => ?_)
                    refine lv_iinc (v := (nI (j1260 + 1))) (lv' := [(4, .int (nI (j1260 + 1))), (3, .int 1), (2, .int (nI j1256)), (0, .ref (ad 0)), (1, .int (nI n))]) hx hb dX12_timesOf_57 hl (k := 1) rfl (nI_1 _) (by decide) rfl (fun ls hl => ?_)
                    refine lv_goto (tgt := 22) hx hb dX12_timesOf_60 (by decide) ?_
                    exact ih_1260 ((j1260 + 1)) 1 ls H locs (by omega) (by omega) (by omega) (Or.inl ⟨rfl, (bI_t i0_1260 c_1264).1, fun y h1 h2 => (Nat.lt_or_ge y j1260).elim (fun h => (bI_t i0_1260 c_1264).2 y h1 h) (fun h => by have e : y = j1260 := (by omega); rw [e, hfv_1267, hfv_1268, n_1269])⟩) (lv_sub hl [0, 1, 2, 3, 4] rfl) hh
          exact loop_1260 (n + 1) j1256 0 ls _ _ (Nat.le_refl _) (by omega) (by omega) (Or.inr ⟨rfl, fun q => n_1259 q.1⟩) (lv_sub hl [0, 1, 2, 3, 4] rfl) hh
        · have n_1259 : (n % j1256) = 0 := n_eq (a := (n % j1256)) (b := 0) c_1259 (by omega) (by decide)
          refine lv_iconst (v := 1) hx hb dX12_timesOf_13 (by decide) ?_
          refine lv_goto (tgt := 18) hx hb dX12_timesOf_14 (by decide) ?_
          refine lv_istore_n (lv' := [(3, .int 1), (2, .int (nI j1256)), (0, .ref (ad 0)), (1, .int (nI n))]) hx hb dX12_timesOf_18 rfl hl (by decide) rfl (fun ls hl => ?_)
          refine lv_iload_n hx hb dX12_timesOf_19 rfl (lv_at hl 1 rfl) ?_
          refine lv_istore (lv' := [(4, .int (nI j1256)), (3, .int 1), (2, .int (nI j1256)), (0, .ref (ad 0)), (1, .int (nI n))]) hx hb dX12_timesOf_20 hl (by decide) rfl (fun ls hl => ?_)
          have loop_1270 : ∀ (fu j1270 : Nat) (lk1270 : Int32)  (ls : Array Slot) (H : Heap) (locs : List Loc), j1256 ≤ j1270 → j1270 ≤ n → n < j1270 + fu →  (bI lk1270 (n % j1256 = 0 ∧ ∀ y, j1256 ≤ y → y < j1270 → f_1255 y = f_1255 (y - j1256))) → lv_has ls 5 [(4, .int (nI j1270)), (3, .int lk1270), (2, .int (nI j1256)), (0, .ref (ad 0)), (1, .int (nI n))] → Hp D (Nf sz) (fun _ => True) s.heap H locs cs ad en → W p l e (headSpec (Cond.code yX12_timesOf cX12_timesOf 5 (some .int) :: TB) (rmN 0)).room s m ([.ref (ad 0), .int (nI n)] : List Value).toArray below meth c H locs 0 0 (MQ below (va_Qi (S := Unit) (fun r _ => repP (rdF (en 12)) n r) (fun _ _ => True) (Nf sz)) ([.ref (ad 0), .int (nI n)] : List Value).toArray s 0 0 (Nf sz)) (F0 m 22 ls []) := by
            intro fu
            induction fu with
            | zero => intro j1270 lk1270 ls H locs h0 h1 h2; exact absurd h2 (by omega)
            | succ fu ih_1270 =>
              intro j1270 lk1270 ls H locs hj0_1270 hj_1270 hfu_1270 i0_1270 hl hh
              refine lv_iload hx hb dX12_timesOf_22 (lv_at hl 0 rfl) ?_
              refine lv_iload_n hx hb dX12_timesOf_24 rfl (lv_at hl 4 rfl) ?_
              refine lv_icmp_ge (tgt := 63) hx hb dX12_timesOf_25 (by decide) (fun c_1271 => ?_) (fun c_1271 => ?_)
              · have n_1271 : n ≤ j1270 := n_le (a := n) (b := j1270) c_1271 (by omega) (by omega)
                refine lv_iload_n hx hb dX12_timesOf_63 rfl (lv_at hl 1 rfl) ?_
                refine lv_if_eq (tgt := 71) hx hb dX12_timesOf_64 (by decide) (fun c_1272 => ?_) (fun c_1272 => ?_)
                · refine lv_iinc (v := (nI (j1256 + 1))) (lv' := [(2, .int (nI (j1256 + 1))), (4, .int (nI j1270)), (3, .int lk1270), (0, .ref (ad 0)), (1, .int (nI n))]) hx hb dX12_timesOf_71 hl (k := 2) rfl (nI_1 _) (by decide) rfl (fun ls hl => ?_)
                  refine lv_goto (tgt := 2) hx hb dX12_timesOf_74 (by decide) ?_
                  exact ih_1256 ((j1256 + 1))  ls H locs (by omega) (by omega) (by omega) (fun y h1 h2 q => (Nat.lt_or_ge y j1256).elim (fun h => i0_1256 y h1 h q) (fun h => by have e : y = j1256 := (by omega); rw [e] at q; exact bI_f i0_1270 c_1272 ⟨q.1, fun y h1 h2 => q.2 y h1 (by omega)⟩)) (lv_sub hl [0, 3, 4] rfl) hh
                · refine lv_iload_n hx hb dX12_timesOf_67 rfl (lv_at hl 4 rfl) ?_
                  refine lv_iload_n hx hb dX12_timesOf_68 rfl (lv_at hl 2 rfl) ?_
                  refine lv_idiv hx hb dX12_timesOf_69 (nI_ne0 (by omega) (by omega)) ?_
                  rw [pk_div (a := n) (d := j1256) (by omega) (by omega) (by omega)]
                  have hq_1273 : (n / j1256) ≤ n := Nat.div_le_self _ _
                  exact hp_iretR hx hb hr rfl hlocks hsz hh (by rw [hak]; exact Or.inl ⟨j1256, by omega, by omega, (bI_t i0_1270 c_1272).1, fun y h1 h2 => (bI_t i0_1270 c_1272).2 y h1 (by omega), rfl, i0_1256⟩) dX12_timesOf_70
              · have n_1271 : j1270 < n := n_nle (a := n) (b := j1270) c_1271 (by omega) (by omega)
                refine lv_iload_n hx hb dX12_timesOf_28 rfl (lv_at hl 1 rfl) ?_
                refine lv_if_eq (tgt := 63) hx hb dX12_timesOf_29 (by decide) (fun c_1274 => ?_) (fun c_1274 => ?_)
                · refine lv_iload_n hx hb dX12_timesOf_63 rfl (lv_at hl 1 rfl) ?_
                  refine lv_if_eq (tgt := 71) hx hb dX12_timesOf_64 (by decide) (fun c_1275 => ?_) (fun c_1275 => ?_)
                  · refine lv_iinc (v := (nI (j1256 + 1))) (lv' := [(2, .int (nI (j1256 + 1))), (4, .int (nI j1270)), (3, .int lk1270), (0, .ref (ad 0)), (1, .int (nI n))]) hx hb dX12_timesOf_71 hl (k := 2) rfl (nI_1 _) (by decide) rfl (fun ls hl => ?_)
                    refine lv_goto (tgt := 2) hx hb dX12_timesOf_74 (by decide) ?_
                    exact ih_1256 ((j1256 + 1))  ls H locs (by omega) (by omega) (by omega) (fun y h1 h2 q => (Nat.lt_or_ge y j1256).elim (fun h => i0_1256 y h1 h q) (fun h => by have e : y = j1256 := (by omega); rw [e] at q; exact bI_f i0_1270 c_1275 ⟨q.1, fun y h1 h2 => q.2 y h1 (by omega)⟩)) (lv_sub hl [0, 3, 4] rfl) hh
                  · refine lv_iload_n hx hb dX12_timesOf_67 rfl (lv_at hl 4 rfl) ?_
                    refine lv_iload_n hx hb dX12_timesOf_68 rfl (lv_at hl 2 rfl) ?_
                    refine lv_idiv hx hb dX12_timesOf_69 (nI_ne0 (by omega) (by omega)) ?_
                    rw [pk_div (a := n) (d := j1256) (by omega) (by omega) (by omega)]
                    have hq_1276 : (n / j1256) ≤ n := Nat.div_le_self _ _
                    exact hp_iretR hx hb hr rfl hlocks hsz hh (absurd c_1274 c_1275) dX12_timesOf_70
                · refine lv_aload_n hx hb dX12_timesOf_32 rfl (lv_at hl 3 rfl) ?_
                  refine hp_get hx hb hts ix12 hown hK hh (q := 0) rfl (hI.1 _ (by decide)) es1254 rfl 21 (by decide) (hts _ tw_900) (fun _ h9 => h9) rfl dX12_timesOf_33 ?_
                  refine lv_iload hx hb dX12_timesOf_36 (lv_at hl 0 rfl) ?_
                  refine hp_iald hx hb hK hh (q := 12) rfl (hI.1 _ (by decide)) es1255 (vp_in_nI (n := j1270) (by omega) (by decide)) dX12_timesOf_38 ?_
                  rw [nI_clamp (n := j1270) (by omega)]
                  obtain ⟨v_1277, hv_1277, hfv_1277⟩ := p0_1255 j1270 (by omega)
                  rw [hfv_1277]
                  refine lv_aload_n hx hb dX12_timesOf_39 rfl (lv_at hl 3 rfl) ?_
                  refine hp_get hx hb hts ix12 hown hK hh (q := 0) rfl (hI.1 _ (by decide)) es1254 rfl 21 (by decide) (hts _ tw_900) (fun _ h9 => h9) rfl dX12_timesOf_40 ?_
                  refine lv_iload hx hb dX12_timesOf_43 (lv_at hl 0 rfl) ?_
                  refine lv_iload_n hx hb dX12_timesOf_45 rfl (lv_at hl 2 rfl) ?_
                  refine lv_isub hx hb dX12_timesOf_46 ?_
                  rw [pk_sub (a := j1270) (b := j1256) (by omega)]
                  refine hp_iald hx hb hK hh (q := 12) rfl (hI.1 _ (by decide)) es1255 (vp_in_nI (n := (j1270 - j1256)) (by omega) (by decide)) dX12_timesOf_47 ?_
                  rw [nI_clamp (n := (j1270 - j1256)) (by omega)]
                  obtain ⟨v_1278, hv_1278, hfv_1278⟩ := p0_1255 (j1270 - j1256) (by omega)
                  rw [hfv_1278]
                  refine lv_icmp_ne (tgt := 55) hx hb dX12_timesOf_48 (by decide) (fun c_1279 => ?_) (fun c_1279 => ?_)
                  · have n_1279 : v_1277 ≠ v_1278 := n_neq (a := v_1277) (b := v_1278) c_1279 (by omega) (by omega)
                    refine lv_iconst (v := 0) hx hb dX12_timesOf_55 (by decide) ?_
                    refine lv_istore_n (lv' := [(3, .int 0), (4, .int (nI j1270)), (2, .int (nI j1256)), (0, .ref (ad 0)), (1, .int (nI n))]) hx hb dX12_timesOf_56 rfl hl (by decide) rfl (fun ls hl => ?_)
                    refine lv_iinc (v := (nI (j1270 + 1))) (lv' := [(4, .int (nI (j1270 + 1))), (3, .int 0), (2, .int (nI j1256)), (0, .ref (ad 0)), (1, .int (nI n))]) hx hb dX12_timesOf_57 hl (k := 1) rfl (nI_1 _) (by decide) rfl (fun ls hl => ?_)
                    refine lv_goto (tgt := 22) hx hb dX12_timesOf_60 (by decide) ?_
                    exact ih_1270 ((j1270 + 1)) 0 ls H locs (by omega) (by omega) (by omega) (Or.inr ⟨rfl, fun q => n_1279 (n_eq (hfv_1277.symm.trans ((q.2 j1270 (by omega) (by omega)).trans hfv_1278)) (by omega) (by omega))⟩) (lv_sub hl [0, 1, 2, 3, 4] rfl) hh
                  · have n_1279 : v_1277 = v_1278 := n_eq (a := v_1277) (b := v_1278) c_1279 (by omega) (by omega)
                    refine lv_iconst (v := 1) hx hb dX12_timesOf_51 (by decide) ?_
                    refine lv_goto (tgt := 56) hx hb dX12_timesOf_52 (by decide) ?_
                    refine lv_istore_n (lv' := [(3, .int 1), (4, .int (nI j1270)), (2, .int (nI j1256)), (0, .ref (ad 0)), (1, .int (nI n))]) hx hb dX12_timesOf_56 rfl hl (by decide) rfl (fun ls hl => ?_)
                    refine lv_iinc (v := (nI (j1270 + 1))) (lv' := [(4, .int (nI (j1270 + 1))), (3, .int 1), (2, .int (nI j1256)), (0, .ref (ad 0)), (1, .int (nI n))]) hx hb dX12_timesOf_57 hl (k := 1) rfl (nI_1 _) (by decide) rfl (fun ls hl => ?_)
                    refine lv_goto (tgt := 22) hx hb dX12_timesOf_60 (by decide) ?_
                    exact ih_1270 ((j1270 + 1)) 1 ls H locs (by omega) (by omega) (by omega) (Or.inl ⟨rfl, (bI_t i0_1270 c_1274).1, fun y h1 h2 => (Nat.lt_or_ge y j1270).elim (fun h => (bI_t i0_1270 c_1274).2 y h1 h) (fun h => by have e : y = j1270 := (by omega); rw [e, hfv_1277, hfv_1278, n_1279])⟩) (lv_sub hl [0, 1, 2, 3, 4] rfl) hh
          exact loop_1270 (n + 1) j1256 1 ls _ _ (Nat.le_refl _) (by omega) (by omega) (Or.inl ⟨rfl, n_1259, fun y h1 h2 => absurd h2 (by omega)⟩) (lv_sub hl [0, 1, 2, 3, 4] rfl) hh
  exact loop_1256 (n + 1) 1  ls _ _ (Nat.le_refl _) (by omega) (by omega) (fun y h1 h2 => absurd h2 (by omega)) (lv_sub hl [0, 1, 2] rfl) hh
theorem kw_X12_timesOf {R : Room} {s : State} {args : Array Value} {own : String} {idx : Nat} (hts : ∀ w ∈ TB, w.before args s = true) (hl : Cond.methodLink own idx yX12_timesOf ∈ TB) (hR : 0 + 1 ≤ R.frames ∧ 8 + (5 + 11) + 40 * 0 ≤ R.locals) : CallW R s args own RX12 idx yX12_timesOf cX12_timesOf 5 (some .int) (Cond.code yX12_timesOf cX12_timesOf 5 (some .int) :: TB) (rmN 0) 0 0 1 := cwV 1 hts (TB_V hl tw_1087 ts_47 tw_9 tw_1088) rfl rfl rfl (by decide +kernel) hR
set_option maxHeartbeats 4000000 in
set_option maxRecDepth 100000 in
/-- isFirstTurn -/
theorem c_X12_isFirstTurn (l : Launch) (D : va_G) (cy : Nat → ClassId) (sz : Nat) (cs : List Nat) (ad : Nat → Nat) (en : Nat → va_E) (hI : RX cy cs ad en) (n : Nat) (hn1 : 1 ≤ n) (hn12 : n ≤ 12)   : Met l yX12_isFirstTurn (Cond.code yX12_isFirstTurn cX12_isFirstTurn 4 (some .boolean) :: TB) (rmN 0) (va_Pc [.ref (ad 0), .int (nI n)] (Pre D cy cs ad en sz)) (va_Qi (S := Unit) (fun r _ => bI r (ftP (rdF (en 12)) n)) (fun _ _ => True) (Nf sz)) 0 0 (Nf sz) := by
  refine Met.ofW (cc := cX12_isFirstTurn) (maxL := 4) (ret := (some .boolean)) (by decide) rfl ?_
  intro p e s m args below meth c s₁ B hml hv
  obtain ⟨rfl, hsz, hP, hK, hD0⟩ := hv
  have hx := B.exec
  have hb := B.bytes
  have hr := B.returns
  have hts : ∀ w ∈ TB, w.before _ s = true := fun w h => atoms_spec (ws := _ :: TB) B.pre w (List.mem_cons_of_mem _ h)
  have hown : s.vm.findClass RX12 = some m.cls := findClass_of_methodNamed B.named
  have hlocks := B.notSynchronized
  have hh : Hp D (Nf sz) (fun _ => True) s.heap s.heap [] cs ad en := ⟨hP, hD0, va_S.rf⟩
  have hA : ∀ q : Nat, s.heap.size ≤ q → Nf sz q := fun q h => by rw [hsz] at h; exact h
  have hl := lv_entry ([.ref (ad 0), .int (nI n)]) (n := 4) (Nat.le_of_ble_eq_true rfl)
  rw [lg_entry_eq]
  generalize (lg_sl ([.ref (ad 0), .int (nI n)]) ++ List.replicate (4 - (lg_sl ([.ref (ad 0), .int (nI n)])).length) Slot.unset).toArray = ls at hl ⊢
  have hl : lv_has ls 4 [(0, .ref (ad 0)), (1, .int (nI n))] := hl
  obtain ⟨fa, hi, wd, mo, tb, dp, many, grt, lst, nou, rm, rb, pr, wo, es1280, hwd2, hwd3, hmo, htb, hwo⟩ := getr_M hI
  obtain ⟨f_1281, es1281, p0_1281⟩ := getr_ak hI
  refine lv_iconst (v := 1) hx hb dX12_isFirstTurn_0 (by decide) ?_
  refine lv_istore_n (lv' := [(2, .int 1), (0, .ref (ad 0)), (1, .int (nI n))]) hx hb dX12_isFirstTurn_1 rfl hl (by decide) rfl (fun ls hl => ?_)
  have hak : rdF (en 12) = f_1281 := by rw [es1281]; rfl
  have loop_1282 : ∀ (fu j1282 : Nat)   (ls : Array Slot) (H : Heap) (locs : List Loc), 1 ≤ j1282 → j1282 ≤ n → n < j1282 + fu →  (∀ m, 1 ≤ m → m < j1282 → ¬ baP f_1281 n m) → lv_has ls 4 [(2, .int (nI j1282)), (0, .ref (ad 0)), (1, .int (nI n))] → Hp D (Nf sz) (fun _ => True) s.heap H locs cs ad en → W p l e (headSpec (Cond.code yX12_isFirstTurn cX12_isFirstTurn 4 (some .boolean) :: TB) (rmN 0)).room s m ([.ref (ad 0), .int (nI n)] : List Value).toArray below meth c H locs 0 0 (MQ below (va_Qi (S := Unit) (fun r _ => bI r (ftP (rdF (en 12)) n)) (fun _ _ => True) (Nf sz)) ([.ref (ad 0), .int (nI n)] : List Value).toArray s 0 0 (Nf sz)) (F0 m 2 ls []) := by
    intro fu
    induction fu with
    | zero => intro j1282  ls H locs h0 h1 h2; exact absurd h2 (by omega)
    | succ fu ih_1282 =>
      intro j1282  ls H locs hj0_1282 hj_1282 hfu_1282 i0_1282 hl hh
      refine lv_iload_n hx hb dX12_isFirstTurn_2 rfl (lv_at hl 0 rfl) ?_
      refine lv_iload_n hx hb dX12_isFirstTurn_3 rfl (lv_at hl 2 rfl) ?_
      refine lv_icmp_ge (tgt := 71) hx hb dX12_isFirstTurn_4 (by decide) (fun c_1283 => ?_) (fun c_1283 => ?_)
      · have n_1283 : n ≤ j1282 := n_le (a := n) (b := j1282) c_1283 (by omega) (by omega)
        refine lv_iconst (v := 1) hx hb dX12_isFirstTurn_71 (by decide) ?_
        exact hp_iretR hx hb hr rfl hlocks hsz hh (by rw [hak]; exact Or.inl ⟨rfl, fun m h1 h2 => i0_1282 m h1 (by omega)⟩) dX12_isFirstTurn_72
      · have n_1283 : j1282 < n := n_nle (a := n) (b := j1282) c_1283 (by omega) (by omega)
        refine lv_iconst (v := 0) hx hb dX12_isFirstTurn_7 (by decide) ?_
        refine lv_istore_n (lv' := [(3, .int 0), (2, .int (nI j1282)), (0, .ref (ad 0)), (1, .int (nI n))]) hx hb dX12_isFirstTurn_8 rfl hl (by decide) rfl (fun ls hl => ?_)
        have loop_1284 : ∀ (fu j1284 : Nat)   (ls : Array Slot) (H : Heap) (locs : List Loc), 0 ≤ j1284 → j1284 ≤ n → n < j1284 + fu →  (∀ y, y < j1284 → f_1281 y = f_1281 ((y + j1282) % n)) → lv_has ls 4 [(3, .int (nI j1284)), (2, .int (nI j1282)), (0, .ref (ad 0)), (1, .int (nI n))] → Hp D (Nf sz) (fun _ => True) s.heap H locs cs ad en → W p l e (headSpec (Cond.code yX12_isFirstTurn cX12_isFirstTurn 4 (some .boolean) :: TB) (rmN 0)).room s m ([.ref (ad 0), .int (nI n)] : List Value).toArray below meth c H locs 0 0 (MQ below (va_Qi (S := Unit) (fun r _ => bI r (ftP (rdF (en 12)) n)) (fun _ _ => True) (Nf sz)) ([.ref (ad 0), .int (nI n)] : List Value).toArray s 0 0 (Nf sz)) (F0 m 9 ls []) := by
          intro fu
          induction fu with
          | zero => intro j1284  ls H locs h0 h1 h2; exact absurd h2 (by omega)
          | succ fu ih_1284 =>
            intro j1284  ls H locs hj0_1284 hj_1284 hfu_1284 i0_1284 hl hh
            refine lv_iload_n hx hb dX12_isFirstTurn_9 rfl (lv_at hl 0 rfl) ?_
            refine lv_iload_n hx hb dX12_isFirstTurn_10 rfl (lv_at hl 3 rfl) ?_
            refine lv_icmp_ge (tgt := 39) hx hb dX12_isFirstTurn_11 (by decide) (fun c_1285 => ?_) (fun c_1285 => ?_)
            · have n_1285 : n ≤ j1284 := n_le (a := n) (b := j1284) c_1285 (by omega) (by omega)
              refine lv_iload_n hx hb dX12_isFirstTurn_39 rfl (lv_at hl 0 rfl) ?_
              refine lv_iload_n hx hb dX12_isFirstTurn_40 rfl (lv_at hl 3 rfl) ?_
              refine lv_icmp_ge (tgt := 65) hx hb dX12_isFirstTurn_41 (by decide) (fun c_1286 => ?_) (fun c_1286 => ?_)
              · have n_1286 : n ≤ j1284 := n_le (a := n) (b := j1284) c_1286 (by omega) (by omega)
                refine lv_iinc (v := (nI (j1282 + 1))) (lv' := [(2, .int (nI (j1282 + 1))), (3, .int (nI j1284)), (0, .ref (ad 0)), (1, .int (nI n))]) hx hb dX12_isFirstTurn_65 hl (k := 1) rfl (nI_1 _) (by decide) rfl (fun ls hl => ?_)
                refine lv_goto (tgt := 2) hx hb dX12_isFirstTurn_68 (by decide) ?_
                exact ih_1282 ((j1282 + 1))  ls H locs (by omega) (by omega) (by omega) (fun m h1 h2 q => (Nat.lt_or_ge m j1282).elim (fun h => i0_1282 m h1 h q) (fun h => by have e : m = j1282 := (by omega); rw [e] at q; obtain ⟨i, hi, he, hl⟩ := q; have h9 := i_lt hl; rw [← i0_1284 i (by omega)] at h9; omega)) (lv_sub hl [0, 2, 3] rfl) hh
              · have n_1286 : j1284 < n := n_nle (a := n) (b := j1284) c_1286 (by omega) (by omega)
                refine lv_aload_n hx hb dX12_isFirstTurn_44 rfl (lv_at hl 2 rfl) ?_
                refine hp_get hx hb hts ix12 hown hK hh (q := 0) rfl (hI.1 _ (by decide)) es1280 rfl 21 (by decide) (hts _ tw_900) (fun _ h9 => h9) rfl dX12_isFirstTurn_45 ?_
                refine lv_iload_n hx hb dX12_isFirstTurn_48 rfl (lv_at hl 0 rfl) ?_
                refine lv_iload_n hx hb dX12_isFirstTurn_49 rfl (lv_at hl 1 rfl) ?_
                refine lv_iadd hx hb dX12_isFirstTurn_50 ?_
                rw [nI_add j1284 j1282]
                refine lv_iload_n hx hb dX12_isFirstTurn_51 rfl (lv_at hl 3 rfl) ?_
                refine lv_irem hx hb dX12_isFirstTurn_52 (nI_ne0 (by omega) (by omega)) ?_
                rw [pk_rem (a := (j1284 + j1282)) (d := n) (by omega) (by omega) (by omega)]
                have hq_1287 : ((j1284 + j1282) % n) ≤ (j1284 + j1282) := Nat.mod_le _ _
                have hm_1288 : ((j1284 + j1282) % n) < n := Nat.mod_lt _ (by omega)
                refine hp_iald hx hb hK hh (q := 12) rfl (hI.1 _ (by decide)) es1281 (vp_in_nI (n := ((j1284 + j1282) % n)) (by omega) (by decide)) dX12_isFirstTurn_53 ?_
                rw [nI_clamp (n := ((j1284 + j1282) % n)) (by omega)]
                obtain ⟨v_1289, hv_1289, hfv_1289⟩ := p0_1281 ((j1284 + j1282) % n) (by omega)
                rw [hfv_1289]
                refine lv_aload_n hx hb dX12_isFirstTurn_54 rfl (lv_at hl 2 rfl) ?_
                refine hp_get hx hb hts ix12 hown hK hh (q := 0) rfl (hI.1 _ (by decide)) es1280 rfl 21 (by decide) (hts _ tw_900) (fun _ h9 => h9) rfl dX12_isFirstTurn_55 ?_
                refine lv_iload_n hx hb dX12_isFirstTurn_58 rfl (lv_at hl 0 rfl) ?_
                refine hp_iald hx hb hK hh (q := 12) rfl (hI.1 _ (by decide)) es1281 (vp_in_nI (n := j1284) (by omega) (by decide)) dX12_isFirstTurn_59 ?_
                rw [nI_clamp (n := j1284) (by omega)]
                obtain ⟨v_1290, hv_1290, hfv_1290⟩ := p0_1281 j1284 (by omega)
                rw [hfv_1290]
                refine lv_icmp_ge (tgt := 65) hx hb dX12_isFirstTurn_60 (by decide) (fun c_1291 => ?_) (fun c_1291 => ?_)
                · have n_1291 : v_1290 ≤ v_1289 := n_le (a := v_1290) (b := v_1289) c_1291 (by omega) (by omega)
                  refine lv_iinc (v := (nI (j1282 + 1))) (lv' := [(2, .int (nI (j1282 + 1))), (3, .int (nI j1284)), (0, .ref (ad 0)), (1, .int (nI n))]) hx hb dX12_isFirstTurn_65 hl (k := 1) rfl (nI_1 _) (by decide) rfl (fun ls hl => ?_)
                  refine lv_goto (tgt := 2) hx hb dX12_isFirstTurn_68 (by decide) ?_
                  exact ih_1282 ((j1282 + 1))  ls H locs (by omega) (by omega) (by omega) (fun m h1 h2 q => (Nat.lt_or_ge m j1282).elim (fun h => i0_1282 m h1 h q) (fun h => by have e : m = j1282 := (by omega); rw [e] at q; omega)) (lv_sub hl [0, 2, 3] rfl) hh
                · have n_1291 : v_1289 < v_1290 := n_nle (a := v_1290) (b := v_1289) c_1291 (by omega) (by omega)
                  refine lv_iconst (v := 0) hx hb dX12_isFirstTurn_63 (by decide) ?_
                  exact hp_iretR hx hb hr rfl hlocks hsz hh (absurd (show j1284 < n by omega) (by omega)) dX12_isFirstTurn_64
            · have n_1285 : j1284 < n := n_nle (a := n) (b := j1284) c_1285 (by omega) (by omega)
              refine lv_aload_n hx hb dX12_isFirstTurn_14 rfl (lv_at hl 2 rfl) ?_
              refine hp_get hx hb hts ix12 hown hK hh (q := 0) rfl (hI.1 _ (by decide)) es1280 rfl 21 (by decide) (hts _ tw_900) (fun _ h9 => h9) rfl dX12_isFirstTurn_15 ?_
              refine lv_iload_n hx hb dX12_isFirstTurn_18 rfl (lv_at hl 0 rfl) ?_
              refine lv_iload_n hx hb dX12_isFirstTurn_19 rfl (lv_at hl 1 rfl) ?_
              refine lv_iadd hx hb dX12_isFirstTurn_20 ?_
              rw [nI_add j1284 j1282]
              refine lv_iload_n hx hb dX12_isFirstTurn_21 rfl (lv_at hl 3 rfl) ?_
              refine lv_irem hx hb dX12_isFirstTurn_22 (nI_ne0 (by omega) (by omega)) ?_
              rw [pk_rem (a := (j1284 + j1282)) (d := n) (by omega) (by omega) (by omega)]
              have hq_1292 : ((j1284 + j1282) % n) ≤ (j1284 + j1282) := Nat.mod_le _ _
              have hm_1293 : ((j1284 + j1282) % n) < n := Nat.mod_lt _ (by omega)
              refine hp_iald hx hb hK hh (q := 12) rfl (hI.1 _ (by decide)) es1281 (vp_in_nI (n := ((j1284 + j1282) % n)) (by omega) (by decide)) dX12_isFirstTurn_23 ?_
              rw [nI_clamp (n := ((j1284 + j1282) % n)) (by omega)]
              obtain ⟨v_1294, hv_1294, hfv_1294⟩ := p0_1281 ((j1284 + j1282) % n) (by omega)
              rw [hfv_1294]
              refine lv_aload_n hx hb dX12_isFirstTurn_24 rfl (lv_at hl 2 rfl) ?_
              refine hp_get hx hb hts ix12 hown hK hh (q := 0) rfl (hI.1 _ (by decide)) es1280 rfl 21 (by decide) (hts _ tw_900) (fun _ h9 => h9) rfl dX12_isFirstTurn_25 ?_
              refine lv_iload_n hx hb dX12_isFirstTurn_28 rfl (lv_at hl 0 rfl) ?_
              refine hp_iald hx hb hK hh (q := 12) rfl (hI.1 _ (by decide)) es1281 (vp_in_nI (n := j1284) (by omega) (by decide)) dX12_isFirstTurn_29 ?_
              rw [nI_clamp (n := j1284) (by omega)]
              obtain ⟨v_1295, hv_1295, hfv_1295⟩ := p0_1281 j1284 (by omega)
              rw [hfv_1295]
              refine lv_icmp_ne (tgt := 39) hx hb dX12_isFirstTurn_30 (by decide) (fun c_1296 => ?_) (fun c_1296 => ?_)
              · have n_1296 : v_1294 ≠ v_1295 := n_neq (a := v_1294) (b := v_1295) c_1296 (by omega) (by omega)
                refine lv_iload_n hx hb dX12_isFirstTurn_39 rfl (lv_at hl 0 rfl) ?_
                refine lv_iload_n hx hb dX12_isFirstTurn_40 rfl (lv_at hl 3 rfl) ?_
                refine lv_icmp_ge (tgt := 65) hx hb dX12_isFirstTurn_41 (by decide) (fun c_1297 => ?_) (fun c_1297 => ?_)
                · have n_1297 : n ≤ j1284 := n_le (a := n) (b := j1284) c_1297 (by omega) (by omega)
                  refine lv_iinc (v := (nI (j1282 + 1))) (lv' := [(2, .int (nI (j1282 + 1))), (3, .int (nI j1284)), (0, .ref (ad 0)), (1, .int (nI n))]) hx hb dX12_isFirstTurn_65 hl (k := 1) rfl (nI_1 _) (by decide) rfl (fun ls hl => ?_)
                  refine lv_goto (tgt := 2) hx hb dX12_isFirstTurn_68 (by decide) ?_
                  exact ih_1282 ((j1282 + 1))  ls H locs (by omega) (by omega) (by omega) (fun m h1 h2 q => (Nat.lt_or_ge m j1282).elim (fun h => i0_1282 m h1 h q) (fun h => by have e : m = j1282 := (by omega); rw [e] at q; omega)) (lv_sub hl [0, 2, 3] rfl) hh
                · have n_1297 : j1284 < n := n_nle (a := n) (b := j1284) c_1297 (by omega) (by omega)
                  refine lv_aload_n hx hb dX12_isFirstTurn_44 rfl (lv_at hl 2 rfl) ?_
                  refine hp_get hx hb hts ix12 hown hK hh (q := 0) rfl (hI.1 _ (by decide)) es1280 rfl 21 (by decide) (hts _ tw_900) (fun _ h9 => h9) rfl dX12_isFirstTurn_45 ?_
                  refine lv_iload_n hx hb dX12_isFirstTurn_48 rfl (lv_at hl 0 rfl) ?_
                  refine lv_iload_n hx hb dX12_isFirstTurn_49 rfl (lv_at hl 1 rfl) ?_
                  refine lv_iadd hx hb dX12_isFirstTurn_50 ?_
                  rw [nI_add j1284 j1282]
                  refine lv_iload_n hx hb dX12_isFirstTurn_51 rfl (lv_at hl 3 rfl) ?_
                  refine lv_irem hx hb dX12_isFirstTurn_52 (nI_ne0 (by omega) (by omega)) ?_
                  rw [pk_rem (a := (j1284 + j1282)) (d := n) (by omega) (by omega) (by omega)]
                  have hq_1298 : ((j1284 + j1282) % n) ≤ (j1284 + j1282) := Nat.mod_le _ _
                  have hm_1299 : ((j1284 + j1282) % n) < n := Nat.mod_lt _ (by omega)
                  refine hp_iald hx hb hK hh (q := 12) rfl (hI.1 _ (by decide)) es1281 (vp_in_nI (n := ((j1284 + j1282) % n)) (by omega) (by decide)) dX12_isFirstTurn_53 ?_
                  rw [nI_clamp (n := ((j1284 + j1282) % n)) (by omega)]
                  rw [hfv_1294]
                  refine lv_aload_n hx hb dX12_isFirstTurn_54 rfl (lv_at hl 2 rfl) ?_
                  refine hp_get hx hb hts ix12 hown hK hh (q := 0) rfl (hI.1 _ (by decide)) es1280 rfl 21 (by decide) (hts _ tw_900) (fun _ h9 => h9) rfl dX12_isFirstTurn_55 ?_
                  refine lv_iload_n hx hb dX12_isFirstTurn_58 rfl (lv_at hl 0 rfl) ?_
                  refine hp_iald hx hb hK hh (q := 12) rfl (hI.1 _ (by decide)) es1281 (vp_in_nI (n := j1284) (by omega) (by decide)) dX12_isFirstTurn_59 ?_
                  rw [nI_clamp (n := j1284) (by omega)]
                  rw [hfv_1295]
                  refine lv_icmp_ge (tgt := 65) hx hb dX12_isFirstTurn_60 (by decide) (fun c_1300 => ?_) (fun c_1300 => ?_)
                  · have n_1300 : v_1295 ≤ v_1294 := n_le (a := v_1295) (b := v_1294) c_1300 (by omega) (by omega)
                    refine lv_iinc (v := (nI (j1282 + 1))) (lv' := [(2, .int (nI (j1282 + 1))), (3, .int (nI j1284)), (0, .ref (ad 0)), (1, .int (nI n))]) hx hb dX12_isFirstTurn_65 hl (k := 1) rfl (nI_1 _) (by decide) rfl (fun ls hl => ?_)
                    refine lv_goto (tgt := 2) hx hb dX12_isFirstTurn_68 (by decide) ?_
                    exact ih_1282 ((j1282 + 1))  ls H locs (by omega) (by omega) (by omega) (fun m h1 h2 q => (Nat.lt_or_ge m j1282).elim (fun h => i0_1282 m h1 h q) (fun h => by have e : m = j1282 := (by omega); rw [e] at q; obtain ⟨i, hi, he, hl⟩ := q; have h9 := i_lt hl; rcases Nat.lt_trichotomy i j1284 with h | h | h; (rw [← i0_1284 i h] at h9; omega); (rw [h, hfv_1294, hfv_1295, nI_toInt (n := v_1294) (by omega), nI_toInt (n := v_1295) (by omega)] at h9; omega); (have h8 := he j1284 h; rw [hfv_1294, hfv_1295] at h8; exact n_1296 (n_eq h8 (by omega) (by omega)).symm))) (lv_sub hl [0, 2, 3] rfl) hh
                  · have n_1300 : v_1294 < v_1295 := n_nle (a := v_1295) (b := v_1294) c_1300 (by omega) (by omega)
                    refine lv_iconst (v := 0) hx hb dX12_isFirstTurn_63 (by decide) ?_
                    exact hp_iretR hx hb hr rfl hlocks hsz hh (by rw [hak]; exact Or.inr ⟨rfl, fun q => q j1282 (by omega) (by omega) ⟨j1284, by omega, i0_1284, by rw [hfv_1294, hfv_1295]; exact nI_lt9 n_1300 (by omega)⟩⟩) dX12_isFirstTurn_64
              · have n_1296 : v_1294 = v_1295 := n_eq (a := v_1294) (b := v_1295) c_1296 (by omega) (by omega)
                refine lv_iinc (v := (nI (j1284 + 1))) (lv' := [(3, .int (nI (j1284 + 1))), (2, .int (nI j1282)), (0, .ref (ad 0)), (1, .int (nI n))]) hx hb dX12_isFirstTurn_33 hl (k := 0) rfl (nI_1 _) (by decide) rfl (fun ls hl => ?_)
                refine lv_goto (tgt := 9) hx hb dX12_isFirstTurn_36 (by decide) ?_
                exact ih_1284 ((j1284 + 1))  ls H locs (by omega) (by omega) (by omega) (fun y h2 => (Nat.lt_or_ge y j1284).elim (fun h => i0_1284 y h) (fun h => by have e : y = j1284 := (by omega); rw [e, hfv_1295, hfv_1294, n_1296])) (lv_sub hl [0, 1, 2, 3] rfl) hh
        exact loop_1284 (n + 1) 0  ls _ _ (Nat.le_refl _) (by omega) (by omega) (fun y h => absurd h (Nat.not_lt_zero y)) (lv_sub hl [0, 1, 2, 3] rfl) hh
  exact loop_1282 (n + 1) 1  ls _ _ (Nat.le_refl _) (by omega) (by omega) (fun m h1 h2 => absurd h2 (by omega)) (lv_sub hl [0, 1, 2] rfl) hh
theorem kw_X12_isFirstTurn {R : Room} {s : State} {args : Array Value} {own : String} {idx : Nat} (hts : ∀ w ∈ TB, w.before args s = true) (hl : Cond.methodLink own idx yX12_isFirstTurn ∈ TB) (hR : 0 + 1 ≤ R.frames ∧ 8 + (4 + 11) + 40 * 0 ≤ R.locals) : CallW R s args own RX12 idx yX12_isFirstTurn cX12_isFirstTurn 4 (some .boolean) (Cond.code yX12_isFirstTurn cX12_isFirstTurn 4 (some .boolean) :: TB) (rmN 0) 0 0 1 := cwV 1 hts (TB_V hl tw_1091 ts_48 tw_9 tw_1092) rfl rfl rfl (by decide +kernel) hR
set_option maxHeartbeats 4000000 in
set_option maxRecDepth 100000 in
/-- isRing -/
theorem c_X12_isRing (l : Launch) (D : va_G) (cy : Nat → ClassId) (sz : Nat) (cs : List Nat) (ad : Nat → Nat) (en : Nat → va_E) (hI : RX cy cs ad en) (n : Nat) (hn1 : 1 ≤ n) (hn12 : n ≤ 12)   : Met l yX12_isRing (Cond.code yX12_isRing cX12_isRing 2 (some .boolean) :: TB) (rmN 2) (va_Pc [.ref (ad 0), .int (nI n)] (Pre D cy cs ad en sz)) (va_Qi (S := Unit) (fun r _ => bI r (rgM (rdF (en 2)) (rdF (en 12)) n)) (fun _ _ => True) (Nf sz)) 0 0 (Nf sz) := by
  refine Met.ofW (cc := cX12_isRing) (maxL := 2) (ret := (some .boolean)) (by decide) rfl ?_
  intro p e s m args below meth c s₁ B hml hv
  obtain ⟨rfl, hsz, hP, hK, hD0⟩ := hv
  have hx := B.exec
  have hb := B.bytes
  have hr := B.returns
  have hts : ∀ w ∈ TB, w.before _ s = true := fun w h => atoms_spec (ws := _ :: TB) B.pre w (List.mem_cons_of_mem _ h)
  have hown : s.vm.findClass RX12 = some m.cls := findClass_of_methodNamed B.named
  have hlocks := B.notSynchronized
  have hh : Hp D (Nf sz) (fun _ => True) s.heap s.heap [] cs ad en := ⟨hP, hD0, va_S.rf⟩
  have hA : ∀ q : Nat, s.heap.size ≤ q → Nf sz q := fun q h => by rw [hsz] at h; exact h
  have hl := lv_entry ([.ref (ad 0), .int (nI n)]) (n := 2) (Nat.le_of_ble_eq_true rfl)
  rw [lg_entry_eq]
  generalize (lg_sl ([.ref (ad 0), .int (nI n)]) ++ List.replicate (2 - (lg_sl ([.ref (ad 0), .int (nI n)])).length) Slot.unset).toArray = ls at hl ⊢
  have hl : lv_has ls 2 [(0, .ref (ad 0)), (1, .int (nI n))] := hl
  obtain ⟨fa, hi, wd, mo, tb, dp, many, grt, lst, nou, rm, rb, pr, wo, es1301, hwd2, hwd3, hmo, htb, hwo⟩ := getr_M hI
  obtain ⟨f_1302, es1302, p0_1302⟩ := getr_ak hI
  refine lv_aload_n hx hb dX12_isRing_0 rfl (lv_at hl 0 rfl) ?_
  refine lv_iload_n hx hb dX12_isRing_1 rfl (lv_at hl 1 rfl) ?_
  refine hp_callRi (va_runV (As := [.int (nI n)]) (rest := []) ⟨hx, hb, hml, hown, hts⟩ (c_X12_isAllowed l D cy _ cs ad en hI n (by omega) (by omega)) (kw_X12_isAllowed hts tw_1081 ⟨by decide, by decide⟩) (preV_of hh hK (hI.1 _ (by decide)) es1301 rfl) rfl rfl hl.1 rfl (lv_room (Nat.le_of_ble_eq_true rfl)) dX12_isRing_2 ⟨Nat.le_of_ble_eq_true rfl, Nat.le_of_ble_eq_true rfl⟩) hh hA (fun r_1303 H locs hw_1303 hh => ?_)
  rcases hw_1303 with ⟨hb_1303, hy_1303⟩ | ⟨hb_1303, hy_1303⟩
  · obtain rfl : r_1303 = 1 := hb_1303
    refine lv_if_eq (tgt := 50) hx hb dX12_isRing_5 (by decide) (fun c_0 => absurd c_0 (by decide)) (fun _ => ?_)
    refine lv_aload_n hx hb dX12_isRing_8 rfl (lv_at hl 0 rfl) ?_
    refine lv_aload_n hx hb dX12_isRing_9 rfl (lv_at hl 0 rfl) ?_
    refine hp_get hx hb hts ix12 hown hK hh (q := 0) rfl (hI.1 _ (by decide)) es1301 rfl 21 (by decide) (hts _ tw_900) (fun _ h9 => h9) rfl dX12_isRing_10 ?_
    refine lv_iload_n hx hb dX12_isRing_13 rfl (lv_at hl 1 rfl) ?_
    refine lv_iconst (v := 1) hx hb dX12_isRing_14 (by decide) ?_
    refine lv_isub hx hb dX12_isRing_15 ?_
    rw [show (1 : Int32) = nI 1 from rfl, pk_sub (a := n) (b := 1) (by omega)]
    refine hp_iald hx hb hK hh (q := 12) rfl (hI.1 _ (by decide)) es1302 (vp_in_nI (n := (n - 1)) (by omega) (by decide)) dX12_isRing_16 ?_
    rw [nI_clamp (n := (n - 1)) (by omega)]
    obtain ⟨v_1304, hv_1304, hfv_1304⟩ := p0_1302 (n - 1) (by omega)
    rw [hfv_1304]
    refine lv_aload_n hx hb dX12_isRing_17 rfl (lv_at hl 0 rfl) ?_
    refine hp_get hx hb hts ix12 hown hK hh (q := 0) rfl (hI.1 _ (by decide)) es1301 rfl 21 (by decide) (hts _ tw_900) (fun _ h9 => h9) rfl dX12_isRing_18 ?_
    refine lv_iconst (v := 0) hx hb dX12_isRing_21 (by decide) ?_
    rw [show (0 : Int32) = nI 0 from rfl]
    refine hp_iald hx hb hK hh (q := 12) rfl (hI.1 _ (by decide)) es1302 (vp_in_nI (n := 0) (by decide) (by decide)) dX12_isRing_22 ?_
    rw [nI_clamp (n := 0) (by decide)]
    obtain ⟨v_1305, hv_1305, hfv_1305⟩ := p0_1302 0 (by decide)
    rw [hfv_1305]
    refine hp_callRi (va_runV (As := [.int (nI v_1304), .int (nI v_1305)]) (rest := []) ⟨hx, hb, hml, hown, hts⟩ (c_X12_mayFollow l D cy _ cs ad en hI v_1304 v_1305 (by omega) (by omega)) (kw_X12_mayFollow hts tw_1029 ⟨by decide, by decide⟩) (preV_of hh hK (hI.1 _ (by decide)) es1301 rfl) rfl rfl hl.1 rfl (lv_room (Nat.le_of_ble_eq_true rfl)) dX12_isRing_23 ⟨Nat.le_of_ble_eq_true rfl, Nat.le_of_ble_eq_true rfl⟩) hh hA (fun r_1306 H locs hw_1306 hh => ?_)
    rcases Decidable.em (rdF (en 2) (6 * v_1304 + v_1305) = 0) with hp_1306 | hp_1306
    · obtain rfl : r_1306 = 1 := Eq.trans hw_1306 (if_pos hp_1306)
      refine lv_if_eq (tgt := 50) hx hb dX12_isRing_26 (by decide) (fun c_0 => absurd c_0 (by decide)) (fun _ => ?_)
      refine lv_aload_n hx hb dX12_isRing_29 rfl (lv_at hl 0 rfl) ?_
      refine lv_iload_n hx hb dX12_isRing_30 rfl (lv_at hl 1 rfl) ?_
      refine hp_callRi (va_runV (As := [.int (nI n)]) (rest := []) ⟨hx, hb, hml, hown, hts⟩ (c_X12_timesOf l D cy _ cs ad en hI n (by omega) (by omega)) (kw_X12_timesOf hts tw_1085 ⟨by decide, by decide⟩) (preV_of hh hK (hI.1 _ (by decide)) es1301 rfl) rfl rfl hl.1 rfl (lv_room (Nat.le_of_ble_eq_true rfl)) dX12_isRing_31 ⟨Nat.le_of_ble_eq_true rfl, Nat.le_of_ble_eq_true rfl⟩) hh hA (fun r_1307 H locs hw_1307 hh => ?_)
      refine lv_iconst (v := 1) hx hb dX12_isRing_34 (by decide) ?_
      refine lv_icmp_ne (tgt := 50) hx hb dX12_isRing_35 (by decide) (fun c_1308 => ?_) (fun c_1308 => ?_)
      · refine lv_iconst (v := 0) hx hb dX12_isRing_50 (by decide) ?_
        have htu : tuM (rdF (en 2)) (rdF (en 12)) n ↔ rdF (en 2) (6 * v_1304 + v_1305) = 0 := by unfold tuM; rw [show rdF (en 12) = f_1302 from by rw [es1302]; rfl, hfv_1304, hfv_1305, nI_clamp (n := v_1304) (by omega), nI_clamp (n := v_1305) (by omega)]
        exact hp_iretR hx hb hr rfl hlocks hsz hh (Or.inr ⟨rfl, fun q => c_1308 ((rep_1 hn12 hw_1307).2 q.2.2.1)⟩) dX12_isRing_51
      · refine lv_aload_n hx hb dX12_isRing_38 rfl (lv_at hl 0 rfl) ?_
        refine lv_iload_n hx hb dX12_isRing_39 rfl (lv_at hl 1 rfl) ?_
        refine hp_callRi (va_runV (As := [.int (nI n)]) (rest := []) ⟨hx, hb, hml, hown, hts⟩ (c_X12_isFirstTurn l D cy _ cs ad en hI n (by omega) (by omega)) (kw_X12_isFirstTurn hts tw_1089 ⟨by decide, by decide⟩) (preV_of hh hK (hI.1 _ (by decide)) es1301 rfl) rfl rfl hl.1 rfl (lv_room (Nat.le_of_ble_eq_true rfl)) dX12_isRing_40 ⟨Nat.le_of_ble_eq_true rfl, Nat.le_of_ble_eq_true rfl⟩) hh hA (fun r_1309 H locs hw_1309 hh => ?_)
        rcases hw_1309 with ⟨hb_1309, hy_1309⟩ | ⟨hb_1309, hy_1309⟩
        · obtain rfl : r_1309 = 1 := hb_1309
          refine lv_if_eq (tgt := 50) hx hb dX12_isRing_43 (by decide) (fun c_0 => absurd c_0 (by decide)) (fun _ => ?_)
          refine lv_iconst (v := 1) hx hb dX12_isRing_46 (by decide) ?_
          refine lv_goto (tgt := 51) hx hb dX12_isRing_47 (by decide) ?_
          have htu : tuM (rdF (en 2)) (rdF (en 12)) n ↔ rdF (en 2) (6 * v_1304 + v_1305) = 0 := by unfold tuM; rw [show rdF (en 12) = f_1302 from by rw [es1302]; rfl, hfv_1304, hfv_1305, nI_clamp (n := v_1304) (by omega), nI_clamp (n := v_1305) (by omega)]
          exact hp_iretR hx hb hr rfl hlocks hsz hh (Or.inl ⟨rfl, hy_1303, htu.mpr hp_1306, (rep_1 hn12 hw_1307).1 c_1308, hy_1309⟩) dX12_isRing_51
        · obtain rfl : r_1309 = 0 := hb_1309
          refine lv_if_eq (tgt := 50) hx hb dX12_isRing_43 (by decide) (fun _ => ?_) (fun c_0 => absurd c_0 (by decide))
          refine lv_iconst (v := 0) hx hb dX12_isRing_50 (by decide) ?_
          have htu : tuM (rdF (en 2)) (rdF (en 12)) n ↔ rdF (en 2) (6 * v_1304 + v_1305) = 0 := by unfold tuM; rw [show rdF (en 12) = f_1302 from by rw [es1302]; rfl, hfv_1304, hfv_1305, nI_clamp (n := v_1304) (by omega), nI_clamp (n := v_1305) (by omega)]
          exact hp_iretR hx hb hr rfl hlocks hsz hh (Or.inr ⟨rfl, fun q => hy_1309 q.2.2.2⟩) dX12_isRing_51
    · obtain rfl : r_1306 = 0 := Eq.trans hw_1306 (if_neg hp_1306)
      refine lv_if_eq (tgt := 50) hx hb dX12_isRing_26 (by decide) (fun _ => ?_) (fun c_0 => absurd c_0 (by decide))
      refine lv_iconst (v := 0) hx hb dX12_isRing_50 (by decide) ?_
      have htu : tuM (rdF (en 2)) (rdF (en 12)) n ↔ rdF (en 2) (6 * v_1304 + v_1305) = 0 := by unfold tuM; rw [show rdF (en 12) = f_1302 from by rw [es1302]; rfl, hfv_1304, hfv_1305, nI_clamp (n := v_1304) (by omega), nI_clamp (n := v_1305) (by omega)]
      exact hp_iretR hx hb hr rfl hlocks hsz hh (Or.inr ⟨rfl, fun q => hp_1306 (htu.mp q.2.1)⟩) dX12_isRing_51
  · obtain rfl : r_1303 = 0 := hb_1303
    refine lv_if_eq (tgt := 50) hx hb dX12_isRing_5 (by decide) (fun _ => ?_) (fun c_0 => absurd c_0 (by decide))
    refine lv_iconst (v := 0) hx hb dX12_isRing_50 (by decide) ?_
    exact hp_iretR hx hb hr rfl hlocks hsz hh (Or.inr ⟨rfl, fun q => hy_1303 q.1⟩) dX12_isRing_51
theorem kw_X12_isRing {R : Room} {s : State} {args : Array Value} {own : String} {idx : Nat} (hts : ∀ w ∈ TB, w.before args s = true) (hl : Cond.methodLink own idx yX12_isRing ∈ TB) (hR : 2 + 1 ≤ R.frames ∧ 8 + (2 + 11) + 40 * 2 ≤ R.locals) : CallW R s args own RX12 idx yX12_isRing cX12_isRing 2 (some .boolean) (Cond.code yX12_isRing cX12_isRing 2 (some .boolean) :: TB) (rmN 2) 0 0 1 := cwV 1 hts (TB_V hl tw_1079 ts_45 tw_9 tw_1080) rfl rfl rfl (by decide +kernel) hR
