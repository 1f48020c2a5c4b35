set_option maxHeartbeats 4000000 in
set_option maxRecDepth 100000 in
/-- sheet -/
theorem c_X12_sheet (l : Launch) (D : va_G) (cy : Nat → ClassId) (sz : Nat) (cs : List Nat) (ad : Nat → Nat) (en : Nat → va_E) (hI : RX cy cs ad en) (k9 la9 n9 : Int32)   : Met l yX12_sheet (Cond.code yX12_sheet cX12_sheet 5 (some .int) :: TB) (rmN 1) (va_Pc [.ref (ad 0), .int k9, .int la9, .int n9] (Pre D cy cs ad en sz)) (va_Qi (S := Nat → va_E) (fun r en1 => RX cy cs ad en1 ∧ (∀ c, (c ≠ 0 ∧ c ≠ 3 ∧ c ≠ 4 ∧ c ≠ 5) → en1 c = en c) ∧ RSH k9 la9 n9 r en en1 ∧ KP en en1) (PostM D cs ad) (Af cs ad sz)) 0 0 (Af cs ad sz) := by
  refine Met.ofW (cc := cX12_sheet) (maxL := 5) (ret := (some .int)) (by decide) rfl ?_
  intro p e s m args below meth c s₁ B hml hv
  obtain ⟨rfl, hsz, hP, hK, hD0⟩ := hv
  have hx := B.exec
  have hb := B.bytes
  have hr := B.returns
  have hts : ∀ w ∈ TB, w.before _ s = true := fun w h => atoms_spec (ws := _ :: TB) B.pre w (List.mem_cons_of_mem _ h)
  have hown : s.vm.findClass RX12 = some m.cls := findClass_of_methodNamed B.named
  have hlocks := B.notSynchronized
  have hh : Hp D (Af cs ad sz) (Af cs ad sz) s.heap s.heap [] cs ad en := ⟨hP, Af_self hD0, va_S.rf⟩
  have hA : ∀ q : Nat, s.heap.size ≤ q → Af cs ad sz q := fun q h => Or.inr (by rw [hsz] at h; exact h)
  have hl := lv_entry ([.ref (ad 0), .int k9, .int la9, .int n9]) (n := 5) (Nat.le_of_ble_eq_true rfl)
  rw [lg_entry_eq]
  generalize (lg_sl ([.ref (ad 0), .int k9, .int la9, .int n9]) ++ List.replicate (5 - (lg_sl ([.ref (ad 0), .int k9, .int la9, .int n9])).length) Slot.unset).toArray = ls at hl ⊢
  have hl : lv_has ls 5 [(0, .ref (ad 0)), (1, .int k9), (2, .int la9), (3, .int n9)] := hl
  have hf0 : ∀ c, (c ≠ 0 ∧ c ≠ 3 ∧ c ≠ 4 ∧ c ≠ 5) → en c = en c := fun _ _ => rfl
  obtain ⟨fa, hi, wd, mo, tb, dp, many, grt, lst, nou, rm, rb, pr, wo, es1113, hwd2, hwd3, hmo, htb, hwo⟩ := getr_M hI
  obtain ⟨f_1114, es1114⟩ := getr_la hI
  obtain ⟨f_1115, es1115, p0_1115⟩ := getr_sl hI
  obtain ⟨f_1116, es1116⟩ := getr_ce hI
  refine lv_aload_n hx hb dX12_sheet_0 rfl (lv_at hl 0 rfl) ?_
  refine lv_iconst (v := 0) hx hb dX12_sheet_1 (by decide) ?_
  refine hp_put hx hb hts ix12 tyX12 tyX12_ok nmX12 hown hK hh (q := 0) rfl (hI.1 _ (by decide)) es1113 rfl 0 (by decide) (hts _ tw_879) (fun _ h9 => h9) rfl (ty := .int) (by decide +kernel) rfl rfl (Nat.le_of_ble_eq_true rfl) dX12_sheet_2 (fun H locs en_1117 hen_1117 hh => ?_)
  have es1114_1117 : en_1117 3 = .inl (cy 0, 4, .inl f_1114) := by rw [hen_1117, va_up_ne _ _ (by decide)]; exact es1114
  have es1115_1117 : en_1117 4 = .inl (cy 0, 4, .inl f_1115) := by rw [hen_1117, va_up_ne _ _ (by decide)]; exact es1115
  have es1116_1117 : en_1117 5 = .inl (cy 0, 160, .inl f_1116) := by rw [hen_1117, va_up_ne _ _ (by decide)]; exact es1116
  have es1113_1117 : en_1117 0 = .inr (11, [.int 0, .int hi, .int (nI wd), .int (nI mo), .int (nI tb), .ref (ad 1), .ref (ad 2), .ref (ad 3), .ref (ad 4), .ref (ad 5), .ref (ad 6), .ref (ad 7), .ref (ad 8), .ref (ad 9), .int dp, .long many, .long grt, .long lst, .long nou, .ref (ad 10), .ref (ad 11), .ref (ad 12), .int rm, .long rb, .ref (ad 13), .int pr, .ref (ad 14), .ref (ad 15), .ref (ad 16), .ref (ad 17), .int (nI wo), .ref (ad 18), .ref (ad 19)]) := by rw [hen_1117]; exact va_up_self _ _ _
  have hI_1117 : RX cy cs ad en_1117 := by rw [hen_1117]; exact upr_M hI ⟨0, hi, wd, mo, tb, dp, many, grt, lst, nou, rm, rb, pr, wo, rfl, hwd2, hwd3, hmo, htb, hwo⟩
  have hf_1117 : ∀ c, (c ≠ 0 ∧ c ≠ 3 ∧ c ≠ 4 ∧ c ≠ 5) → en_1117 c = en c := fun c hc => Eq.trans (show en_1117 c = en c from by rw [hen_1117, va_up_ne _ _ (by omega)]) (hf0 c hc)
  have hkc3_1117 : en_1117 3 = en 3 := (show en_1117 3 = en 3 from by rw [hen_1117, va_up_ne _ _ (by decide)]).trans rfl
  have hkc4_1117 : en_1117 4 = en 4 := (show en_1117 4 = en 4 from by rw [hen_1117, va_up_ne _ _ (by decide)]).trans rfl
  have hkc5_1117 : en_1117 5 = en 5 := (show en_1117 5 = en 5 from by rw [hen_1117, va_up_ne _ _ (by decide)]).trans rfl
  have hkp_1117 : KP en en_1117 := KP_fv (KP_rf en) es1113 es1113_1117 hi (nI wd) (nI mo) (nI tb) pr (nI wo) rfl rfl rfl rfl rfl rfl rfl rfl rfl rfl rfl rfl
  refine lv_iload_n hx hb dX12_sheet_5 rfl (lv_at hl 1 rfl) ?_
  refine lv_i2l hx hb dX12_sheet_6 rfl ?_
  refine lv_lconst (v := 0) hx hb dX12_sheet_7 (by decide) ?_
  refine lv_ldc2 hx hb hown (hts _ tw_984) dX12_sheet_8 ?_
  refine hp_callRi (va_runS (As := [.long k9.toInt64, .long 0, .long 3]) (rest := []) ⟨hx, hb, hml, hown, hts⟩ (c_X12_within l D cy _ cs ad en_1117 k9.toInt64 0 3) (kw_X12_within hts tw_985 ⟨by decide, by decide⟩) (preS_of hh hK) rfl rfl hl.1 rfl (lv_room (Nat.le_of_ble_eq_true rfl)) dX12_sheet_11 ⟨Nat.le_of_ble_eq_true rfl, Nat.le_of_ble_eq_true rfl⟩) hh hA (fun r_1118 H locs hw_1118 hh => ?_)
  rcases Decidable.em (wi k9 0 3) with hp_1118 | hp_1118
  · obtain rfl : r_1118 = 1 := Eq.trans hw_1118 (if_pos ((wj_32 (by decide) (by decide)).mpr hp_1118))
    obtain ⟨N_1118, rfl, hA_1118, hB_1118⟩ := wi_natB hp_1118 0 3 (by decide) (by decide)
    refine lv_if_ne (tgt := 19) hx hb dX12_sheet_14 (by decide) (fun _ => ?_) (fun c_0 => absurd c_0 (by decide))
    refine lv_iload_n hx hb dX12_sheet_19 rfl (lv_at hl 2 rfl) ?_
    refine lv_i2l hx hb dX12_sheet_20 rfl ?_
    refine lv_lconst (v := 0) hx hb dX12_sheet_21 (by decide) ?_
    refine lv_ldc2 hx hb hown (hts _ tw_983) dX12_sheet_22 ?_
    refine hp_callRi (va_runS (As := [.long la9.toInt64, .long 0, .long 2]) (rest := []) ⟨hx, hb, hml, hown, hts⟩ (c_X12_within l D cy _ cs ad en_1117 la9.toInt64 0 2) (kw_X12_within hts tw_985 ⟨by decide, by decide⟩) (preS_of hh hK) rfl rfl hl.1 rfl (lv_room (Nat.le_of_ble_eq_true rfl)) dX12_sheet_25 ⟨Nat.le_of_ble_eq_true rfl, Nat.le_of_ble_eq_true rfl⟩) hh hA (fun r_1119 H locs hw_1119 hh => ?_)
    rcases Decidable.em (wi la9 0 2) with hp_1119 | hp_1119
    · obtain rfl : r_1119 = 1 := Eq.trans hw_1119 (if_pos ((wj_32 (by decide) (by decide)).mpr hp_1119))
      obtain ⟨N_1119, rfl, hA_1119, hB_1119⟩ := wi_natB hp_1119 0 2 (by decide) (by decide)
      refine lv_if_eq (tgt := 37) hx hb dX12_sheet_28 (by decide) (fun c_0 => absurd c_0 (by decide)) (fun _ => ?_)
      refine lv_iload_n hx hb dX12_sheet_31 rfl (lv_at hl 3 rfl) ?_
      refine lv_bipush (v := 40) hx hb dX12_sheet_32 (by decide) ?_
      refine lv_icmp_le (tgt := 40) hx hb dX12_sheet_34 (by decide) (fun c_1120 => ?_) (fun c_1120 => ?_)
      · refine lv_iload_n hx hb dX12_sheet_40 rfl (lv_at hl 3 rfl) ?_
        refine lv_if_ge (tgt := 50) hx hb dX12_sheet_41 (by decide) (fun c_1121 => ?_) (fun c_1121 => ?_)
        · obtain ⟨N9, hN9, rfl⟩ := nat_of (Int32.not_lt.mpr c_1121)
          have hN40 : N9 ≤ 40 := n_le (a := N9) (b := 40) c_1120 hN9 (by decide)
          refine lv_aload_n hx hb dX12_sheet_50 rfl (lv_at hl 0 rfl) ?_
          refine hp_get hx hb hts ix12 hown hK hh (q := 0) rfl (hI.1 _ (by decide)) es1113_1117 rfl 7 (by decide) (hts _ tw_886) (fun _ h9 => h9) rfl dX12_sheet_51 ?_
          refine lv_iload_n hx hb dX12_sheet_54 rfl (lv_at hl 1 rfl) ?_
          refine lv_iload_n hx hb dX12_sheet_55 rfl (lv_at hl 2 rfl) ?_
          refine hp_iast hx hb hK hh (q := 3) rfl (hI.1 _ (by decide)) es1114_1117 (vp_in_nI (n := N_1118) (by omega) (by decide)) dX12_sheet_56 (fun H locs en_1122 hen_1122 hh => ?_)
          rw [nI_clamp (n := N_1118) (by omega)] at hen_1122
          have es1115_1122 : en_1122 4 = .inl (cy 0, 4, .inl f_1115) := by rw [hen_1122, va_up_ne _ _ (by decide)]; exact es1115_1117
          have es1116_1122 : en_1122 5 = .inl (cy 0, 160, .inl f_1116) := by rw [hen_1122, va_up_ne _ _ (by decide)]; exact es1116_1117
          have es1113_1122 : en_1122 0 = .inr (11, [.int 0, .int hi, .int (nI wd), .int (nI mo), .int (nI tb), .ref (ad 1), .ref (ad 2), .ref (ad 3), .ref (ad 4), .ref (ad 5), .ref (ad 6), .ref (ad 7), .ref (ad 8), .ref (ad 9), .int dp, .long many, .long grt, .long lst, .long nou, .ref (ad 10), .ref (ad 11), .ref (ad 12), .int rm, .long rb, .ref (ad 13), .int pr, .ref (ad 14), .ref (ad 15), .ref (ad 16), .ref (ad 17), .int (nI wo), .ref (ad 18), .ref (ad 19)]) := by rw [hen_1122, va_up_ne _ _ (by decide)]; exact es1113_1117
          have es1114_1122 : en_1122 3 = .inl (cy 0, 4, .inl (upd f_1114 N_1118 (nI N_1119))) := by rw [hen_1122]; exact va_up_self _ _ _
          have hI_1122 : RX cy cs ad en_1122 := by rw [hen_1122]; exact upr_la hI_1117 ⟨(upd f_1114 N_1118 (nI N_1119)), rfl⟩
          have hf_1122 : ∀ c, (c ≠ 0 ∧ c ≠ 3 ∧ c ≠ 4 ∧ c ≠ 5) → en_1122 c = en c := fun c hc => Eq.trans (show en_1122 c = en_1117 c from by rw [hen_1122, va_up_ne _ _ (by omega)]) (hf_1117 c hc)
          have hkc4_1122 : en_1122 4 = en 4 := (show en_1122 4 = en_1117 4 from by rw [hen_1122, va_up_ne _ _ (by decide)]).trans hkc4_1117
          have hkc5_1122 : en_1122 5 = en 5 := (show en_1122 5 = en_1117 5 from by rw [hen_1122, va_up_ne _ _ (by decide)]).trans hkc5_1117
          have hkp_1122 : KP en en_1122 := KP_same hkp_1117 (show en_1122 0 = en_1117 0 from by rw [hen_1122, va_up_ne _ _ (by decide)])
          refine lv_aload_n hx hb dX12_sheet_57 rfl (lv_at hl 0 rfl) ?_
          refine hp_get hx hb hts ix12 hown hK hh (q := 0) rfl (hI.1 _ (by decide)) es1113_1122 rfl 8 (by decide) (hts _ tw_887) (fun _ h9 => h9) rfl dX12_sheet_58 ?_
          refine lv_iload_n hx hb dX12_sheet_61 rfl (lv_at hl 1 rfl) ?_
          refine lv_iload_n hx hb dX12_sheet_62 rfl (lv_at hl 3 rfl) ?_
          refine hp_iast hx hb hK hh (q := 4) rfl (hI.1 _ (by decide)) es1115_1122 (vp_in_nI (n := N_1118) (by omega) (by decide)) dX12_sheet_63 (fun H locs en_1123 hen_1123 hh => ?_)
          rw [nI_clamp (n := N_1118) (by omega)] at hen_1123
          have es1116_1123 : en_1123 5 = .inl (cy 0, 160, .inl f_1116) := by rw [hen_1123, va_up_ne _ _ (by decide)]; exact es1116_1122
          have es1113_1123 : en_1123 0 = .inr (11, [.int 0, .int hi, .int (nI wd), .int (nI mo), .int (nI tb), .ref (ad 1), .ref (ad 2), .ref (ad 3), .ref (ad 4), .ref (ad 5), .ref (ad 6), .ref (ad 7), .ref (ad 8), .ref (ad 9), .int dp, .long many, .long grt, .long lst, .long nou, .ref (ad 10), .ref (ad 11), .ref (ad 12), .int rm, .long rb, .ref (ad 13), .int pr, .ref (ad 14), .ref (ad 15), .ref (ad 16), .ref (ad 17), .int (nI wo), .ref (ad 18), .ref (ad 19)]) := by rw [hen_1123, va_up_ne _ _ (by decide)]; exact es1113_1122
          have es1114_1123 : en_1123 3 = .inl (cy 0, 4, .inl (upd f_1114 N_1118 (nI N_1119))) := by rw [hen_1123, va_up_ne _ _ (by decide)]; exact es1114_1122
          have es1115_1123 : en_1123 4 = .inl (cy 0, 4, .inl (upd f_1115 N_1118 (nI N9))) := by rw [hen_1123]; exact va_up_self _ _ _
          have hI_1123 : RX cy cs ad en_1123 := by rw [hen_1123]; exact upr_sl hI_1122 ⟨(upd f_1115 N_1118 (nI N9)), rfl, (vals_updB p0_1115 (by omega))⟩
          have hf_1123 : ∀ c, (c ≠ 0 ∧ c ≠ 3 ∧ c ≠ 4 ∧ c ≠ 5) → en_1123 c = en c := fun c hc => Eq.trans (show en_1123 c = en_1122 c from by rw [hen_1123, va_up_ne _ _ (by omega)]) (hf_1122 c hc)
          have hkc5_1123 : en_1123 5 = en 5 := (show en_1123 5 = en_1122 5 from by rw [hen_1123, va_up_ne _ _ (by decide)]).trans hkc5_1122
          have hkp_1123 : KP en en_1123 := KP_same hkp_1122 (show en_1123 0 = en_1122 0 from by rw [hen_1123, va_up_ne _ _ (by decide)])
          refine lv_iconst (v := 0) hx hb dX12_sheet_64 (by decide) ?_
          refine lv_istore (lv' := [(4, .int 0), (0, .ref (ad 0)), (1, .int (nI N_1118)), (2, .int (nI N_1119)), (3, .int (nI N9))]) hx hb dX12_sheet_65 hl (by decide) rfl (fun ls hl => ?_)
          have loop_1124 : ∀ (fu j1124 : Nat)  (en_1124 : Nat → va_E) (ls : Array Slot) (H : Heap) (locs : List Loc), 0 ≤ j1124 → j1124 ≤ 40 → 40 < j1124 + fu → RX cy cs ad en_1124 → (∀ c, (c ≠ 0 ∧ c ≠ 3 ∧ c ≠ 4 ∧ c ≠ 5) → en_1124 c = en c) → (rdF (en_1124 3) = upd (rdF (en 3)) N_1118 (nI N_1119)) → (rdF (en_1124 4) = upd (rdF (en 4)) N_1118 (nI N9)) → (∀ i, rdF (en_1124 5) i = if 40 * N_1118 ≤ i ∧ i < 40 * N_1118 + j1124 then 0 else rdF (en 5) i) → (KP en en_1124) → lv_has ls 5 [(4, .int (nI j1124)), (0, .ref (ad 0)), (1, .int (nI N_1118)), (2, .int (nI N_1119)), (3, .int (nI N9))] → Hp D (Af cs ad sz) (Af cs ad sz) s.heap H locs cs ad en_1124 → W p l e (headSpec (Cond.code yX12_sheet cX12_sheet 5 (some .int) :: TB) (rmN 1)).room s m ([.ref (ad 0), .int (nI N_1118), .int (nI N_1119), .int (nI N9)] : List Value).toArray below meth c H locs 0 0 (MQ below (va_Qi (S := Nat → va_E) (fun r en1 => RX cy cs ad en1 ∧ (∀ c, (c ≠ 0 ∧ c ≠ 3 ∧ c ≠ 4 ∧ c ≠ 5) → en1 c = en c) ∧ RSH (nI N_1118) (nI N_1119) (nI N9) r en en1 ∧ KP en en1) (PostM D cs ad) (Af cs ad sz)) ([.ref (ad 0), .int (nI N_1118), .int (nI N_1119), .int (nI N9)] : List Value).toArray s 0 0 (Af cs ad sz)) (F0 m 67 ls []) := by
            intro fu
            induction fu with
            | zero => intro j1124  en_1124 ls H locs h0 h1 h2; exact absurd h2 (by omega)
            | succ fu ih_1124 =>
              intro j1124  en_1124 ls H locs hj0_1124 hj_1124 hfu_1124 hI_1124 hf_1124 i0_1124 i1_1124 i2_1124 i3_1124 hl hh
              refine lv_iload hx hb dX12_sheet_67 (lv_at hl 0 rfl) ?_
              refine lv_bipush (v := 40) hx hb dX12_sheet_69 (by decide) ?_
              refine lv_icmp_ge (tgt := 93) hx hb dX12_sheet_71 (by decide) (fun c_1125 => ?_) (fun c_1125 => ?_)
              · have n_1125 : 40 ≤ j1124 := n_le (a := 40) (b := j1124) c_1125 (by decide) (by omega)
                refine lv_iconst (v := 1) hx hb dX12_sheet_93 (by decide) ?_
                have h40 : (40 : Int32).toInt = 40 := by decide
                have h00 : (0 : Int32).toInt = 0 := by decide
                exact hp_iretM hx hb hr rfl hlocks hh (⟨hI_1124, hf_1124, ⟨(by have h8 := i_le c_1120; have h9 := i_le c_1121; unfold spSheet; rw [if_pos hp_1118, if_pos ⟨hp_1119, by omega⟩, if_neg (by omega)]), Or.inr ⟨rfl, N_1118, N9, rfl, rfl, by omega, hN40, i0_1124, i1_1124, by have e9 : j1124 = 40 := (by omega); rw [e9] at i2_1124; exact i2_1124⟩⟩, i3_1124⟩) dX12_sheet_94
              · have n_1125 : j1124 < 40 := n_nle (a := 40) (b := j1124) c_1125 (by decide) (by omega)
                refine lv_aload_n hx hb dX12_sheet_74 rfl (lv_at hl 1 rfl) ?_
                obtain ⟨fa_1126, hi_1126, wd_1126, mo_1126, tb_1126, dp_1126, many_1126, grt_1126, lst_1126, nou_1126, rm_1126, rb_1126, pr_1126, wo_1126, es1126, p0_1126, p1_1126, p2_1126, p3_1126, p4_1126⟩ := getr_M hI_1124
                have hq2_1127 : wd_1126 = wd := n_eq ((show nI wd_1126 = rdI (en_1124 0) 2 from by rw [es1126]; rfl).trans (i3_1124.2.1.trans (show rdI (en 0) 2 = nI wd from by rw [es1113]; rfl))) (by omega) (by omega)
                have hq3_1127 : mo_1126 = mo := n_eq ((show nI mo_1126 = rdI (en_1124 0) 3 from by rw [es1126]; rfl).trans (i3_1124.2.2.1.trans (show rdI (en 0) 3 = nI mo from by rw [es1113]; rfl))) (by omega) (by omega)
                have hq4_1127 : tb_1126 = tb := n_eq ((show nI tb_1126 = rdI (en_1124 0) 4 from by rw [es1126]; rfl).trans (i3_1124.2.2.2.1.trans (show rdI (en 0) 4 = nI tb from by rw [es1113]; rfl))) (by omega) (by omega)
                have hq30_1127 : wo_1126 = wo := n_eq ((show nI wo_1126 = rdI (en_1124 0) 30 from by rw [es1126]; rfl).trans (i3_1124.2.2.2.2.2.trans (show rdI (en 0) 30 = nI wo from by rw [es1113]; rfl))) (by omega) (by omega)
                rw [hq2_1127, hq3_1127, hq4_1127, hq30_1127] at es1126
                refine hp_get hx hb hts ix12 hown hK hh (q := 0) rfl (hI.1 _ (by decide)) es1126 rfl 9 (by decide) (hts _ tw_888) (fun _ h9 => h9) rfl dX12_sheet_75 ?_
                refine lv_bipush (v := 40) hx hb dX12_sheet_78 (by decide) ?_
                refine lv_iload_n hx hb dX12_sheet_80 rfl (lv_at hl 2 rfl) ?_
                refine lv_imul hx hb dX12_sheet_81 ?_
                rw [show (40 : Int32) = nI 40 from rfl, pk_mul 40 N_1118]
                refine lv_iload hx hb dX12_sheet_82 (lv_at hl 0 rfl) ?_
                refine lv_iadd hx hb dX12_sheet_84 ?_
                rw [nI_add (40 * N_1118) j1124]
                refine lv_iconst (v := 0) hx hb dX12_sheet_85 (by decide) ?_
                obtain ⟨f_1128, es1128⟩ := getr_ce hI_1124
                refine hp_iast hx hb hK hh (q := 5) rfl (hI.1 _ (by decide)) es1128 (vp_in_nI (n := ((40 * N_1118) + j1124)) (by omega) (by decide)) dX12_sheet_86 (fun H locs en_1129 hen_1129 hh => ?_)
                rw [nI_clamp (n := ((40 * N_1118) + j1124)) (by omega)] at hen_1129
                have es1126_1129 : en_1129 0 = .inr (11, [.int fa_1126, .int hi_1126, .int (nI wd), .int (nI mo), .int (nI tb), .ref (ad 1), .ref (ad 2), .ref (ad 3), .ref (ad 4), .ref (ad 5), .ref (ad 6), .ref (ad 7), .ref (ad 8), .ref (ad 9), .int dp_1126, .long many_1126, .long grt_1126, .long lst_1126, .long nou_1126, .ref (ad 10), .ref (ad 11), .ref (ad 12), .int rm_1126, .long rb_1126, .ref (ad 13), .int pr_1126, .ref (ad 14), .ref (ad 15), .ref (ad 16), .ref (ad 17), .int (nI wo), .ref (ad 18), .ref (ad 19)]) := by rw [hen_1129, va_up_ne _ _ (by decide)]; exact es1126
                have es1128_1129 : en_1129 5 = .inl (cy 0, 160, .inl (upd f_1128 ((40 * N_1118) + j1124) 0)) := by rw [hen_1129]; exact va_up_self _ _ _
                have hI_1129 : RX cy cs ad en_1129 := by rw [hen_1129]; exact upr_ce hI_1124 ⟨(upd f_1128 ((40 * N_1118) + j1124) 0), rfl⟩
                have hf_1129 : ∀ c, (c ≠ 0 ∧ c ≠ 3 ∧ c ≠ 4 ∧ c ≠ 5) → en_1129 c = en c := fun c hc => Eq.trans (show en_1129 c = en_1124 c from by rw [hen_1129, va_up_ne _ _ (by omega)]) (hf_1124 c hc)
                have hkp_1129 : KP en en_1129 := KP_same i3_1124 (show en_1129 0 = en_1124 0 from by rw [hen_1129, va_up_ne _ _ (by decide)])
                refine lv_iinc (v := (nI (j1124 + 1))) (lv' := [(4, .int (nI (j1124 + 1))), (0, .ref (ad 0)), (1, .int (nI N_1118)), (2, .int (nI N_1119)), (3, .int (nI N9))]) hx hb dX12_sheet_87 hl (k := 0) rfl (nI_1 _) (by decide) rfl (fun ls hl => ?_)
                refine lv_goto (tgt := 67) hx hb dX12_sheet_90 (by decide) ?_
                exact ih_1124 ((j1124 + 1))  en_1129 ls H locs (by omega) (by omega) (by omega) hI_1129 hf_1129 (by rw [hen_1129, va_up_ne _ _ (by decide)]; exact i0_1124) (by rw [hen_1129, va_up_ne _ _ (by decide)]; exact i1_1124) (fun i => by rw [es1128_1129]; exact z_40 (fun i => (show f_1128 i = rdF (en_1124 5) i from by rw [es1128]; rfl).trans (i2_1124 i)) i) (hkp_1129) (lv_sub hl [0, 1, 2, 3, 4] rfl) hh
          exact loop_1124 (40 + 1) 0  en_1123 ls _ _ (Nat.le_refl _) (by omega) (by omega) hI_1123 hf_1123 (by rw [es1114_1123, es1114]; rfl) (by rw [es1115_1123, es1115]; rfl) (fun i => by rw [hkc5_1123, if_neg (by omega)]) (hkp_1123) (lv_sub hl [0, 1, 2, 3, 4] rfl) hh
        · refine lv_aload_n hx hb dX12_sheet_44 rfl (lv_at hl 0 rfl) ?_
          refine lv_iconst (v := 4) hx hb dX12_sheet_45 (by decide) ?_
          refine hp_callMi (va_runV (As := [.int 4]) (rest := []) ⟨hx, hb, hml, hown, hts⟩ (c_X12_fails l D cy _ cs ad en_1117 (hI.1 _ (by decide)) 0 hi wd mo tb dp many grt lst nou rm rb pr wo 4 es1113_1117) (kw_X12_fails hts tw_997 ⟨by decide, by decide⟩) (preV_of hh hK (hI.1 _ (by decide)) es1113_1117 rfl) rfl rfl hl.1 rfl (lv_room (Nat.le_of_ble_eq_true rfl)) dX12_sheet_46 ⟨Nat.le_of_ble_eq_true rfl, Nat.le_of_ble_eq_true rfl⟩) hh hA (fun r_1130 H locs en_1130 hw_1130 hh => ?_)
          obtain ⟨hr_1130, hen_1130⟩ := hw_1130
          have es1114_1130 : en_1130 3 = .inl (cy 0, 4, .inl f_1114) := by rw [hen_1130, va_up_ne _ _ (by decide)]; exact es1114_1117
          have es1115_1130 : en_1130 4 = .inl (cy 0, 4, .inl f_1115) := by rw [hen_1130, va_up_ne _ _ (by decide)]; exact es1115_1117
          have es1116_1130 : en_1130 5 = .inl (cy 0, 160, .inl f_1116) := by rw [hen_1130, va_up_ne _ _ (by decide)]; exact es1116_1117
          have es1113_1130 : en_1130 0 = .inr (11, [.int 4, .int hi, .int (nI wd), .int (nI mo), .int (nI tb), .ref (ad 1), .ref (ad 2), .ref (ad 3), .ref (ad 4), .ref (ad 5), .ref (ad 6), .ref (ad 7), .ref (ad 8), .ref (ad 9), .int dp, .long many, .long grt, .long lst, .long nou, .ref (ad 10), .ref (ad 11), .ref (ad 12), .int rm, .long rb, .ref (ad 13), .int pr, .ref (ad 14), .ref (ad 15), .ref (ad 16), .ref (ad 17), .int (nI wo), .ref (ad 18), .ref (ad 19)]) := by rw [hen_1130]; exact va_up_self _ _ _
          have hI_1130 : RX cy cs ad en_1130 := by rw [hen_1130]; exact upr_M hI_1117 ⟨4, hi, wd, mo, tb, dp, many, grt, lst, nou, rm, rb, pr, wo, rfl, hwd2, hwd3, hmo, htb, hwo⟩
          have hf_1130 : ∀ c, (c ≠ 0 ∧ c ≠ 3 ∧ c ≠ 4 ∧ c ≠ 5) → en_1130 c = en c := fun c hc => Eq.trans (show en_1130 c = en_1117 c from by rw [hen_1130, va_up_ne _ _ (by omega)]) (hf_1117 c hc)
          have hkc3_1130 : en_1130 3 = en 3 := (show en_1130 3 = en_1117 3 from by rw [hen_1130, va_up_ne _ _ (by decide)]).trans hkc3_1117
          have hkc4_1130 : en_1130 4 = en 4 := (show en_1130 4 = en_1117 4 from by rw [hen_1130, va_up_ne _ _ (by decide)]).trans hkc4_1117
          have hkc5_1130 : en_1130 5 = en 5 := (show en_1130 5 = en_1117 5 from by rw [hen_1130, va_up_ne _ _ (by decide)]).trans hkc5_1117
          have hkp_1130 : KP en en_1130 := KP_fv hkp_1117 es1113_1117 es1113_1130 hi (nI wd) (nI mo) (nI tb) pr (nI wo) rfl rfl rfl rfl rfl rfl rfl rfl rfl rfl rfl rfl
          obtain rfl : r_1130 = (-14) := hr_1130.trans (by decide)
          have h40 : (40 : Int32).toInt = 40 := by decide
          have h00 : (0 : Int32).toInt = 0 := by decide
          exact hp_iretM hx hb hr rfl hlocks hh (⟨hI_1130, hf_1130, ⟨(by have h8 := i_le c_1120; have h9 := i_nle c_1121; unfold spSheet; rw [if_pos hp_1118, if_pos ⟨hp_1119, by omega⟩, if_pos (by omega)]), Or.inl ⟨by decide, hkc3_1130, hkc4_1130, hkc5_1130⟩⟩, hkp_1130⟩) dX12_sheet_49
      · refine lv_bipush (v := (-2)) hx hb dX12_sheet_37 (by decide) ?_
        have h40 : (40 : Int32).toInt = 40 := by decide
        have h00 : (0 : Int32).toInt = 0 := by decide
        exact hp_iretM hx hb hr rfl hlocks hh (⟨hI_1117, hf_1117, ⟨(by have h9 := i_nle c_1120; unfold spSheet; rw [if_pos hp_1118, if_neg (fun q => absurd q.2 (by omega))]), Or.inl ⟨by decide, hkc3_1117, hkc4_1117, hkc5_1117⟩⟩, hkp_1117⟩) dX12_sheet_39
    · obtain rfl : r_1119 = 0 := Eq.trans hw_1119 (if_neg (fun q => hp_1119 ((wj_32 (by decide) (by decide)).mp q)))
      refine lv_if_eq (tgt := 37) hx hb dX12_sheet_28 (by decide) (fun _ => ?_) (fun c_0 => absurd c_0 (by decide))
      refine lv_bipush (v := (-2)) hx hb dX12_sheet_37 (by decide) ?_
      have h40 : (40 : Int32).toInt = 40 := by decide
      have h00 : (0 : Int32).toInt = 0 := by decide
      exact hp_iretM hx hb hr rfl hlocks hh (⟨hI_1117, hf_1117, ⟨(by unfold spSheet; rw [if_pos hp_1118, if_neg (fun q => hp_1119 q.1)]), Or.inl ⟨by decide, hkc3_1117, hkc4_1117, hkc5_1117⟩⟩, hkp_1117⟩) dX12_sheet_39
  · obtain rfl : r_1118 = 0 := Eq.trans hw_1118 (if_neg (fun q => hp_1118 ((wj_32 (by decide) (by decide)).mp q)))
    refine lv_if_ne (tgt := 19) hx hb dX12_sheet_14 (by decide) (fun c_0 => absurd c_0 (by decide)) (fun _ => ?_)
    refine lv_iconst (v := (-1)) hx hb dX12_sheet_17 (by decide) ?_
    have h40 : (40 : Int32).toInt = 40 := by decide
    have h00 : (0 : Int32).toInt = 0 := by decide
    exact hp_iretM hx hb hr rfl hlocks hh (⟨hI_1117, hf_1117, ⟨(by unfold spSheet; rw [if_neg hp_1118]), Or.inl ⟨by decide, hkc3_1117, hkc4_1117, hkc5_1117⟩⟩, hkp_1117⟩) dX12_sheet_18
theorem kw_X12_sheet {R : Room} {s : State} {args : Array Value} {own : String} {idx : Nat} (hts : ∀ w ∈ TB, w.before args s = true) (hl : Cond.methodLink own idx yX12_sheet ∈ TB) (hR : 1 + 1 ≤ R.frames ∧ 8 + (5 + 11) + 40 * 1 ≤ R.locals) : CallW R s args own RX12 idx yX12_sheet cX12_sheet 5 (some .int) (Cond.code yX12_sheet cX12_sheet 5 (some .int) :: TB) (rmN 1) 0 0 3 := cwV 3 hts (TB_V hl tw_1200 tw_1201 tw_9 tw_1202) rfl rfl rfl (by decide +kernel) hR
set_option maxHeartbeats 4000000 in
set_option maxRecDepth 100000 in
/-- lose -/
theorem c_X12_lose (l : Launch) (D : va_G) (cy : Nat → ClassId) (sz : Nat) (cs : List Nat) (ad : Nat → Nat) (en : Nat → va_E) (hI : RX cy cs ad en) (k9 : Int32)   : Met l yX12_lose (Cond.code yX12_lose cX12_lose 3 (some .int) :: TB) (rmN 1) (va_Pc [.ref (ad 0), .int k9] (Pre D cy cs ad en sz)) (va_Qi (S := Nat → va_E) (fun r en1 => RX cy cs ad en1 ∧ (∀ c, (c ≠ 3) → en1 c = en c) ∧ RLO k9 r en en1) (PostM D cs ad) (Af cs ad sz)) 0 0 (Af cs ad sz) := by
  refine Met.ofW (cc := cX12_lose) (maxL := 3) (ret := (some .int)) (by decide) rfl ?_
  intro p e s m args below meth c s₁ B hml hv
  obtain ⟨rfl, hsz, hP, hK, hD0⟩ := hv
  have hx := B.exec
  have hb := B.bytes
  have hr := B.returns
  have hts : ∀ w ∈ TB, w.before _ s = true := fun w h => atoms_spec (ws := _ :: TB) B.pre w (List.mem_cons_of_mem _ h)
  have hown : s.vm.findClass RX12 = some m.cls := findClass_of_methodNamed B.named
  have hlocks := B.notSynchronized
  have hh : Hp D (Af cs ad sz) (Af cs ad sz) s.heap s.heap [] cs ad en := ⟨hP, Af_self hD0, va_S.rf⟩
  have hA : ∀ q : Nat, s.heap.size ≤ q → Af cs ad sz q := fun q h => Or.inr (by rw [hsz] at h; exact h)
  have hl := lv_entry ([.ref (ad 0), .int k9]) (n := 3) (Nat.le_of_ble_eq_true rfl)
  rw [lg_entry_eq]
  generalize (lg_sl ([.ref (ad 0), .int k9]) ++ List.replicate (3 - (lg_sl ([.ref (ad 0), .int k9])).length) Slot.unset).toArray = ls at hl ⊢
  have hl : lv_has ls 3 [(0, .ref (ad 0)), (1, .int k9)] := hl
  have hf0 : ∀ c, (c ≠ 3) → en c = en c := fun _ _ => rfl
  obtain ⟨fa, hi, wd, mo, tb, dp, many, grt, lst, nou, rm, rb, pr, wo, es1131, hwd2, hwd3, hmo, htb, hwo⟩ := getr_M hI
  obtain ⟨f_1132, es1132⟩ := getr_la hI
  refine lv_iload_n hx hb dX12_lose_0 rfl (lv_at hl 1 rfl) ?_
  refine lv_i2l hx hb dX12_lose_1 rfl ?_
  refine lv_lconst (v := 0) hx hb dX12_lose_2 (by decide) ?_
  refine lv_ldc2 hx hb hown (hts _ tw_984) dX12_lose_3 ?_
  refine hp_callRi (va_runS (As := [.long k9.toInt64, .long 0, .long 3]) (rest := []) ⟨hx, hb, hml, hown, hts⟩ (c_X12_within l D cy _ cs ad en k9.toInt64 0 3) (kw_X12_within hts tw_985 ⟨by decide, by decide⟩) (preS_of hh hK) rfl rfl hl.1 rfl (lv_room (Nat.le_of_ble_eq_true rfl)) dX12_lose_6 ⟨Nat.le_of_ble_eq_true rfl, Nat.le_of_ble_eq_true rfl⟩) hh hA (fun r_1133 H locs hw_1133 hh => ?_)
  rcases Decidable.em (wi k9 0 3) with hp_1133 | hp_1133
  · obtain rfl : r_1133 = 1 := Eq.trans hw_1133 (if_pos ((wj_32 (by decide) (by decide)).mpr hp_1133))
    obtain ⟨N_1133, rfl, hA_1133, hB_1133⟩ := wi_natB hp_1133 0 3 (by decide) (by decide)
    refine lv_if_ne (tgt := 14) hx hb dX12_lose_9 (by decide) (fun _ => ?_) (fun c_0 => absurd c_0 (by decide))
    refine lv_aload_n hx hb dX12_lose_14 rfl (lv_at hl 0 rfl) ?_
    refine hp_get hx hb hts ix12 hown hK hh (q := 0) rfl (hI.1 _ (by decide)) es1131 rfl 7 (by decide) (hts _ tw_886) (fun _ h9 => h9) rfl dX12_lose_15 ?_
    refine lv_iload_n hx hb dX12_lose_18 rfl (lv_at hl 1 rfl) ?_
    refine hp_iald hx hb hK hh (q := 3) rfl (hI.1 _ (by decide)) es1132 (vp_in_nI (n := N_1133) (by omega) (by decide)) dX12_lose_19 ?_
    rw [nI_clamp (n := N_1133) (by omega)]
    refine lv_bipush (v := (-9)) hx hb dX12_lose_20 (by decide) ?_
    refine lv_icmp_ne (tgt := 29) hx hb dX12_lose_22 (by decide) (fun c_1134 => ?_) (fun c_1134 => ?_)
    · refine lv_iconst (v := 1) hx hb dX12_lose_29 (by decide) ?_
      refine lv_istore_n (lv' := [(2, .int 1), (0, .ref (ad 0)), (1, .int (nI N_1133))]) hx hb dX12_lose_30 rfl hl (by decide) rfl (fun ls hl => ?_)
      refine lv_aload_n hx hb dX12_lose_31 rfl (lv_at hl 1 rfl) ?_
      refine hp_get hx hb hts ix12 hown hK hh (q := 0) rfl (hI.1 _ (by decide)) es1131 rfl 7 (by decide) (hts _ tw_886) (fun _ h9 => h9) rfl dX12_lose_32 ?_
      refine lv_iload_n hx hb dX12_lose_35 rfl (lv_at hl 2 rfl) ?_
      refine lv_bipush (v := (-9)) hx hb dX12_lose_36 (by decide) ?_
      refine hp_iast hx hb hK hh (q := 3) rfl (hI.1 _ (by decide)) es1132 (vp_in_nI (n := N_1133) (by omega) (by decide)) dX12_lose_38 (fun H locs en_1135 hen_1135 hh => ?_)
      rw [nI_clamp (n := N_1133) (by omega)] at hen_1135
      have es1131_1135 : en_1135 0 = .inr (11, [.int fa, .int hi, .int (nI wd), .int (nI mo), .int (nI tb), .ref (ad 1), .ref (ad 2), .ref (ad 3), .ref (ad 4), .ref (ad 5), .ref (ad 6), .ref (ad 7), .ref (ad 8), .ref (ad 9), .int dp, .long many, .long grt, .long lst, .long nou, .ref (ad 10), .ref (ad 11), .ref (ad 12), .int rm, .long rb, .ref (ad 13), .int pr, .ref (ad 14), .ref (ad 15), .ref (ad 16), .ref (ad 17), .int (nI wo), .ref (ad 18), .ref (ad 19)]) := by rw [hen_1135, va_up_ne _ _ (by decide)]; exact es1131
      have es1132_1135 : en_1135 3 = .inl (cy 0, 4, .inl (upd f_1132 N_1133 (-9))) := by rw [hen_1135]; exact va_up_self _ _ _
      have hI_1135 : RX cy cs ad en_1135 := by rw [hen_1135]; exact upr_la hI ⟨(upd f_1132 N_1133 (-9)), rfl⟩
      have hf_1135 : ∀ c, (c ≠ 3) → en_1135 c = en c := fun c hc => Eq.trans (show en_1135 c = en c from by rw [hen_1135, va_up_ne _ _ (by omega)]) (hf0 c hc)
      refine lv_iload_n hx hb dX12_lose_39 rfl (lv_at hl 0 rfl) ?_
      exact hp_iretM hx hb hr rfl hlocks hh (⟨hI_1135, hf_1135, Or.inr ⟨N_1133, rfl, by omega, Or.inr ⟨fun q => c_1134 ((show rdF (en 3) N_1133 = f_1132 N_1133 from by rw [es1132]; rfl).symm.trans q), rfl⟩, (by rw [es1132_1135, es1132]; rfl)⟩⟩) dX12_lose_40
    · refine lv_iconst (v := 0) hx hb dX12_lose_25 (by decide) ?_
      refine lv_goto (tgt := 30) hx hb dX12_lose_26 (by decide) ?_
      refine lv_istore_n (lv' := [(2, .int 0), (0, .ref (ad 0)), (1, .int (nI N_1133))]) hx hb dX12_lose_30 rfl hl (by decide) rfl (fun ls hl => ?_)
      refine lv_aload_n hx hb dX12_lose_31 rfl (lv_at hl 1 rfl) ?_
      refine hp_get hx hb hts ix12 hown hK hh (q := 0) rfl (hI.1 _ (by decide)) es1131 rfl 7 (by decide) (hts _ tw_886) (fun _ h9 => h9) rfl dX12_lose_32 ?_
      refine lv_iload_n hx hb dX12_lose_35 rfl (lv_at hl 2 rfl) ?_
      refine lv_bipush (v := (-9)) hx hb dX12_lose_36 (by decide) ?_
      refine hp_iast hx hb hK hh (q := 3) rfl (hI.1 _ (by decide)) es1132 (vp_in_nI (n := N_1133) (by omega) (by decide)) dX12_lose_38 (fun H locs en_1136 hen_1136 hh => ?_)
      rw [nI_clamp (n := N_1133) (by omega)] at hen_1136
      have es1131_1136 : en_1136 0 = .inr (11, [.int fa, .int hi, .int (nI wd), .int (nI mo), .int (nI tb), .ref (ad 1), .ref (ad 2), .ref (ad 3), .ref (ad 4), .ref (ad 5), .ref (ad 6), .ref (ad 7), .ref (ad 8), .ref (ad 9), .int dp, .long many, .long grt, .long lst, .long nou, .ref (ad 10), .ref (ad 11), .ref (ad 12), .int rm, .long rb, .ref (ad 13), .int pr, .ref (ad 14), .ref (ad 15), .ref (ad 16), .ref (ad 17), .int (nI wo), .ref (ad 18), .ref (ad 19)]) := by rw [hen_1136, va_up_ne _ _ (by decide)]; exact es1131
      have es1132_1136 : en_1136 3 = .inl (cy 0, 4, .inl (upd f_1132 N_1133 (-9))) := by rw [hen_1136]; exact va_up_self _ _ _
      have hI_1136 : RX cy cs ad en_1136 := by rw [hen_1136]; exact upr_la hI ⟨(upd f_1132 N_1133 (-9)), rfl⟩
      have hf_1136 : ∀ c, (c ≠ 3) → en_1136 c = en c := fun c hc => Eq.trans (show en_1136 c = en c from by rw [hen_1136, va_up_ne _ _ (by omega)]) (hf0 c hc)
      refine lv_iload_n hx hb dX12_lose_39 rfl (lv_at hl 0 rfl) ?_
      exact hp_iretM hx hb hr rfl hlocks hh (⟨hI_1136, hf_1136, Or.inr ⟨N_1133, rfl, by omega, Or.inl ⟨(show rdF (en 3) N_1133 = f_1132 N_1133 from by rw [es1132]; rfl).trans c_1134, rfl⟩, (by rw [es1132_1136, es1132]; rfl)⟩⟩) dX12_lose_40
  · obtain rfl : r_1133 = 0 := Eq.trans hw_1133 (if_neg (fun q => hp_1133 ((wj_32 (by decide) (by decide)).mp q)))
    refine lv_if_ne (tgt := 14) hx hb dX12_lose_9 (by decide) (fun c_0 => absurd c_0 (by decide)) (fun _ => ?_)
    refine lv_iconst (v := (-1)) hx hb dX12_lose_12 (by decide) ?_
    exact hp_iretM hx hb hr rfl hlocks hh (⟨hI, hf0, Or.inl ⟨hp_1133, rfl, rfl⟩⟩) dX12_lose_13
theorem kw_X12_lose {R : Room} {s : State} {args : Array Value} {own : String} {idx : Nat} (hts : ∀ w ∈ TB, w.before args s = true) (hl : Cond.methodLink own idx yX12_lose ∈ TB) (hR : 1 + 1 ≤ R.frames ∧ 8 + (3 + 11) + 40 * 1 ≤ R.locals) : CallW R s args own RX12 idx yX12_lose cX12_lose 3 (some .int) (Cond.code yX12_lose cX12_lose 3 (some .int) :: TB) (rmN 1) 0 0 1 := cwV 1 hts (TB_V hl tw_1204 tw_1205 tw_9 tw_1206) rfl rfl rfl (by decide +kernel) hR
set_option maxHeartbeats 4000000 in
set_option maxRecDepth 100000 in
/-- put -/
theorem c_X12_put (l : Launch) (D : va_G) (cy : Nat → ClassId) (sz : Nat) (cs : List Nat) (ad : Nat → Nat) (en : Nat → va_E) (hI : RX cy cs ad en) (k9 i9 v9 : Int32)   : Met l yX12_put (Cond.code yX12_put cX12_put 4 (some .int) :: TB) (rmN 1) (va_Pc [.ref (ad 0), .int k9, .int i9, .int v9] (Pre D cy cs ad en sz)) (va_Qi (S := Nat → va_E) (fun r en1 => RX cy cs ad en1 ∧ (∀ c, (c ≠ 0 ∧ c ≠ 5) → en1 c = en c) ∧ RPU k9 i9 v9 r en en1 ∧ KP en en1) (PostM D cs ad) (Af cs ad sz)) 0 0 (Af cs ad sz) := by
  refine Met.ofW (cc := cX12_put) (maxL := 4) (ret := (some .int)) (by decide) rfl ?_
  intro p e s m args below meth c s₁ B hml hv
  obtain ⟨rfl, hsz, hP, hK, hD0⟩ := hv
  have hx := B.exec
  have hb := B.bytes
  have hr := B.returns
  have hts : ∀ w ∈ TB, w.before _ s = true := fun w h => atoms_spec (ws := _ :: TB) B.pre w (List.mem_cons_of_mem _ h)
  have hown : s.vm.findClass RX12 = some m.cls := findClass_of_methodNamed B.named
  have hlocks := B.notSynchronized
  have hh : Hp D (Af cs ad sz) (Af cs ad sz) s.heap s.heap [] cs ad en := ⟨hP, Af_self hD0, va_S.rf⟩
  have hA : ∀ q : Nat, s.heap.size ≤ q → Af cs ad sz q := fun q h => Or.inr (by rw [hsz] at h; exact h)
  have hl := lv_entry ([.ref (ad 0), .int k9, .int i9, .int v9]) (n := 4) (Nat.le_of_ble_eq_true rfl)
  rw [lg_entry_eq]
  generalize (lg_sl ([.ref (ad 0), .int k9, .int i9, .int v9]) ++ List.replicate (4 - (lg_sl ([.ref (ad 0), .int k9, .int i9, .int v9])).length) Slot.unset).toArray = ls at hl ⊢
  have hl : lv_has ls 4 [(0, .ref (ad 0)), (1, .int k9), (2, .int i9), (3, .int v9)] := hl
  have hf0 : ∀ c, (c ≠ 0 ∧ c ≠ 5) → en c = en c := fun _ _ => rfl
  obtain ⟨fa, hi, wd, mo, tb, dp, many, grt, lst, nou, rm, rb, pr, wo, es1137, hwd2, hwd3, hmo, htb, hwo⟩ := getr_M hI
  obtain ⟨f_1138, es1138⟩ := getr_la hI
  obtain ⟨f_1139, es1139, p0_1139⟩ := getr_sl hI
  obtain ⟨f_1140, es1140⟩ := getr_ce hI
  refine lv_aload_n hx hb dX12_put_0 rfl (lv_at hl 0 rfl) ?_
  refine lv_iconst (v := 0) hx hb dX12_put_1 (by decide) ?_
  refine hp_put hx hb hts ix12 tyX12 tyX12_ok nmX12 hown hK hh (q := 0) rfl (hI.1 _ (by decide)) es1137 rfl 0 (by decide) (hts _ tw_879) (fun _ h9 => h9) rfl (ty := .int) (by decide +kernel) rfl rfl (Nat.le_of_ble_eq_true rfl) dX12_put_2 (fun H locs en_1141 hen_1141 hh => ?_)
  have es1138_1141 : en_1141 3 = .inl (cy 0, 4, .inl f_1138) := by rw [hen_1141, va_up_ne _ _ (by decide)]; exact es1138
  have es1139_1141 : en_1141 4 = .inl (cy 0, 4, .inl f_1139) := by rw [hen_1141, va_up_ne _ _ (by decide)]; exact es1139
  have es1140_1141 : en_1141 5 = .inl (cy 0, 160, .inl f_1140) := by rw [hen_1141, va_up_ne _ _ (by decide)]; exact es1140
  have es1137_1141 : en_1141 0 = .inr (11, [.int 0, .int hi, .int (nI wd), .int (nI mo), .int (nI tb), .ref (ad 1), .ref (ad 2), .ref (ad 3), .ref (ad 4), .ref (ad 5), .ref (ad 6), .ref (ad 7), .ref (ad 8), .ref (ad 9), .int dp, .long many, .long grt, .long lst, .long nou, .ref (ad 10), .ref (ad 11), .ref (ad 12), .int rm, .long rb, .ref (ad 13), .int pr, .ref (ad 14), .ref (ad 15), .ref (ad 16), .ref (ad 17), .int (nI wo), .ref (ad 18), .ref (ad 19)]) := by rw [hen_1141]; exact va_up_self _ _ _
  have hI_1141 : RX cy cs ad en_1141 := by rw [hen_1141]; exact upr_M hI ⟨0, hi, wd, mo, tb, dp, many, grt, lst, nou, rm, rb, pr, wo, rfl, hwd2, hwd3, hmo, htb, hwo⟩
  have hf_1141 : ∀ c, (c ≠ 0 ∧ c ≠ 5) → en_1141 c = en c := fun c hc => Eq.trans (show en_1141 c = en c from by rw [hen_1141, va_up_ne _ _ (by omega)]) (hf0 c hc)
  have hkc5_1141 : en_1141 5 = en 5 := (show en_1141 5 = en 5 from by rw [hen_1141, va_up_ne _ _ (by decide)]).trans rfl
  have hkp_1141 : KP en en_1141 := KP_fv (KP_rf en) es1137 es1137_1141 hi (nI wd) (nI mo) (nI tb) pr (nI wo) rfl rfl rfl rfl rfl rfl rfl rfl rfl rfl rfl rfl
  refine lv_iload_n hx hb dX12_put_5 rfl (lv_at hl 1 rfl) ?_
  refine lv_i2l hx hb dX12_put_6 rfl ?_
  refine lv_lconst (v := 0) hx hb dX12_put_7 (by decide) ?_
  refine lv_ldc2 hx hb hown (hts _ tw_984) dX12_put_8 ?_
  refine hp_callRi (va_runS (As := [.long k9.toInt64, .long 0, .long 3]) (rest := []) ⟨hx, hb, hml, hown, hts⟩ (c_X12_within l D cy _ cs ad en_1141 k9.toInt64 0 3) (kw_X12_within hts tw_985 ⟨by decide, by decide⟩) (preS_of hh hK) rfl rfl hl.1 rfl (lv_room (Nat.le_of_ble_eq_true rfl)) dX12_put_11 ⟨Nat.le_of_ble_eq_true rfl, Nat.le_of_ble_eq_true rfl⟩) hh hA (fun r_1142 H locs hw_1142 hh => ?_)
  rcases Decidable.em (wi k9 0 3) with hp_1142 | hp_1142
  · obtain rfl : r_1142 = 1 := Eq.trans hw_1142 (if_pos ((wj_32 (by decide) (by decide)).mpr hp_1142))
    obtain ⟨N_1142, rfl, hA_1142, hB_1142⟩ := wi_natB hp_1142 0 3 (by decide) (by decide)
    refine lv_if_ne (tgt := 19) hx hb dX12_put_14 (by decide) (fun _ => ?_) (fun c_0 => absurd c_0 (by decide))
    refine lv_aload_n hx hb dX12_put_19 rfl (lv_at hl 0 rfl) ?_
    refine hp_get hx hb hts ix12 hown hK hh (q := 0) rfl (hI.1 _ (by decide)) es1137_1141 rfl 7 (by decide) (hts _ tw_886) (fun _ h9 => h9) rfl dX12_put_20 ?_
    refine lv_iload_n hx hb dX12_put_23 rfl (lv_at hl 1 rfl) ?_
    refine hp_iald hx hb hK hh (q := 3) rfl (hI.1 _ (by decide)) es1138_1141 (vp_in_nI (n := N_1142) (by omega) (by decide)) dX12_put_24 ?_
    rw [nI_clamp (n := N_1142) (by omega)]
    refine lv_bipush (v := (-9)) hx hb dX12_put_25 (by decide) ?_
    refine lv_icmp_ne (tgt := 36) hx hb dX12_put_27 (by decide) (fun c_1143 => ?_) (fun c_1143 => ?_)
    · refine lv_iload_n hx hb dX12_put_36 rfl (lv_at hl 2 rfl) ?_
      refine lv_i2l hx hb dX12_put_37 rfl ?_
      refine lv_lconst (v := 0) hx hb dX12_put_38 (by decide) ?_
      refine lv_aload_n hx hb dX12_put_39 rfl (lv_at hl 0 rfl) ?_
      refine hp_get hx hb hts ix12 hown hK hh (q := 0) rfl (hI.1 _ (by decide)) es1137_1141 rfl 8 (by decide) (hts _ tw_887) (fun _ h9 => h9) rfl dX12_put_40 ?_
      refine lv_iload_n hx hb dX12_put_43 rfl (lv_at hl 1 rfl) ?_
      refine hp_iald hx hb hK hh (q := 4) rfl (hI.1 _ (by decide)) es1139_1141 (vp_in_nI (n := N_1142) (by omega) (by decide)) dX12_put_44 ?_
      rw [nI_clamp (n := N_1142) (by omega)]
      obtain ⟨v_1144, hv_1144, hfv_1144⟩ := p0_1139 N_1142 (by omega)
      rw [hfv_1144]
      refine lv_i2l hx hb dX12_put_45 rfl ?_
      refine lv_lconst (v := 1) hx hb dX12_put_46 (by decide) ?_
      refine lv_lsub hx hb dX12_put_47 ?_
      refine hp_callRi (va_runS (As := [.long i9.toInt64, .long 0, .long ((nI v_1144).toInt64 - 1)]) (rest := []) ⟨hx, hb, hml, hown, hts⟩ (c_X12_within l D cy _ cs ad en_1141 i9.toInt64 0 ((nI v_1144).toInt64 - 1)) (kw_X12_within hts tw_985 ⟨by decide, by decide⟩) (preS_of hh hK) rfl rfl hl.1 rfl (lv_room (Nat.le_of_ble_eq_true rfl)) dX12_put_48 ⟨Nat.le_of_ble_eq_true rfl, Nat.le_of_ble_eq_true rfl⟩) hh hA (fun r_1145 H locs hw_1145 hh => ?_)
      rcases Decidable.em (0 ≤ i9.toInt ∧ i9.toInt < (v_1144 : Int)) with hp_1145 | hp_1145
      · obtain rfl : r_1145 = 1 := Eq.trans hw_1145 (if_pos ((wj_m1 (by omega)).mpr hp_1145))
        obtain ⟨N_1145, rfl, hB_1145⟩ := has_nat hp_1145
        refine lv_if_ne (tgt := 60) hx hb dX12_put_51 (by decide) (fun _ => ?_) (fun c_0 => absurd c_0 (by decide))
        refine lv_aload_n hx hb dX12_put_60 rfl (lv_at hl 0 rfl) ?_
        refine hp_get hx hb hts ix12 hown hK hh (q := 0) rfl (hI.1 _ (by decide)) es1137_1141 rfl 9 (by decide) (hts _ tw_888) (fun _ h9 => h9) rfl dX12_put_61 ?_
        refine lv_bipush (v := 40) hx hb dX12_put_64 (by decide) ?_
        refine lv_iload_n hx hb dX12_put_66 rfl (lv_at hl 1 rfl) ?_
        refine lv_imul hx hb dX12_put_67 ?_
        rw [show (40 : Int32) = nI 40 from rfl, pk_mul 40 N_1142]
        refine lv_iload_n hx hb dX12_put_68 rfl (lv_at hl 2 rfl) ?_
        refine lv_iadd hx hb dX12_put_69 ?_
        rw [nI_add (40 * N_1142) N_1145]
        refine lv_aload_n hx hb dX12_put_70 rfl (lv_at hl 0 rfl) ?_
        refine hp_get hx hb hts ix12 hown hK hh (q := 0) rfl (hI.1 _ (by decide)) es1137_1141 rfl 7 (by decide) (hts _ tw_886) (fun _ h9 => h9) rfl dX12_put_71 ?_
        refine lv_iload_n hx hb dX12_put_74 rfl (lv_at hl 1 rfl) ?_
        refine hp_iald hx hb hK hh (q := 3) rfl (hI.1 _ (by decide)) es1138_1141 (vp_in_nI (n := N_1142) (by omega) (by decide)) dX12_put_75 ?_
        rw [nI_clamp (n := N_1142) (by omega)]
        refine lv_if_ne (tgt := 84) hx hb dX12_put_76 (by decide) (fun c_1146 => ?_) (fun c_1146 => ?_)
        · refine lv_aload_n hx hb dX12_put_84 rfl (lv_at hl 0 rfl) ?_
          refine hp_get hx hb hts ix12 hown hK hh (q := 0) rfl (hI.1 _ (by decide)) es1137_1141 rfl 7 (by decide) (hts _ tw_886) (fun _ h9 => h9) rfl dX12_put_85 ?_
          refine lv_iload_n hx hb dX12_put_88 rfl (lv_at hl 1 rfl) ?_
          refine hp_iald hx hb hK hh (q := 3) rfl (hI.1 _ (by decide)) es1138_1141 (vp_in_nI (n := N_1142) (by omega) (by decide)) dX12_put_89 ?_
          rw [nI_clamp (n := N_1142) (by omega)]
          refine lv_iconst (v := 1) hx hb dX12_put_90 (by decide) ?_
          refine lv_icmp_ne (tgt := 99) hx hb dX12_put_91 (by decide) (fun c_1147 => ?_) (fun c_1147 => ?_)
          · refine lv_iload_n hx hb dX12_put_99 rfl (lv_at hl 3 rfl) ?_
            refine hp_iast hx hb hK hh (q := 5) rfl (hI.1 _ (by decide)) es1140_1141 (vp_in_nI (n := ((40 * N_1142) + N_1145)) (by omega) (by decide)) dX12_put_100 (fun H locs en_1148 hen_1148 hh => ?_)
            rw [nI_clamp (n := ((40 * N_1142) + N_1145)) (by omega)] at hen_1148
            have es1138_1148 : en_1148 3 = .inl (cy 0, 4, .inl f_1138) := by rw [hen_1148, va_up_ne _ _ (by decide)]; exact es1138_1141
            have es1139_1148 : en_1148 4 = .inl (cy 0, 4, .inl f_1139) := by rw [hen_1148, va_up_ne _ _ (by decide)]; exact es1139_1141
            have es1137_1148 : en_1148 0 = .inr (11, [.int 0, .int hi, .int (nI wd), .int (nI mo), .int (nI tb), .ref (ad 1), .ref (ad 2), .ref (ad 3), .ref (ad 4), .ref (ad 5), .ref (ad 6), .ref (ad 7), .ref (ad 8), .ref (ad 9), .int dp, .long many, .long grt, .long lst, .long nou, .ref (ad 10), .ref (ad 11), .ref (ad 12), .int rm, .long rb, .ref (ad 13), .int pr, .ref (ad 14), .ref (ad 15), .ref (ad 16), .ref (ad 17), .int (nI wo), .ref (ad 18), .ref (ad 19)]) := by rw [hen_1148, va_up_ne _ _ (by decide)]; exact es1137_1141
            have es1140_1148 : en_1148 5 = .inl (cy 0, 160, .inl (upd f_1140 ((40 * N_1142) + N_1145) v9)) := by rw [hen_1148]; exact va_up_self _ _ _
            have hI_1148 : RX cy cs ad en_1148 := by rw [hen_1148]; exact upr_ce hI_1141 ⟨(upd f_1140 ((40 * N_1142) + N_1145) v9), rfl⟩
            have hf_1148 : ∀ c, (c ≠ 0 ∧ c ≠ 5) → en_1148 c = en c := fun c hc => Eq.trans (show en_1148 c = en_1141 c from by rw [hen_1148, va_up_ne _ _ (by omega)]) (hf_1141 c hc)
            have hkp_1148 : KP en en_1148 := KP_same hkp_1141 (show en_1148 0 = en_1141 0 from by rw [hen_1148, va_up_ne _ _ (by decide)])
            refine lv_iconst (v := 1) hx hb dX12_put_101 (by decide) ?_
            exact hp_iretM hx hb hr rfl hlocks hh (⟨hI_1148, hf_1148, ⟨(by (try rw [nI_clamp (n := N_1142) (by omega)]); rw [show rdF (en 3) = f_1138 from by rw [es1138]; rfl, show rdF (en 4) = f_1139 from by rw [es1139]; rfl]; unfold putR; rw [if_pos hp_1142, if_neg c_1143, hfv_1144, nI_toInt (n := v_1144) (by omega), if_pos hp_1145]), Or.inr ⟨rfl, N_1142, N_1145, rfl, rfl, by omega, by omega, (by rw [es1140_1148, show rdF (en 5) = f_1140 from by rw [es1140]; rfl, show rdF (en 3) = f_1138 from by rw [es1138]; rfl]; unfold narV; rw [if_neg c_1146, if_neg c_1147]; rfl)⟩⟩, hkp_1148⟩) dX12_put_102
          · refine lv_iload_n hx hb dX12_put_94 rfl (lv_at hl 3 rfl) ?_
            refine lv_i2s hx hb dX12_put_95 rfl ?_
            refine lv_goto (tgt := 100) hx hb dX12_put_96 (by decide) ?_
            refine hp_iast hx hb hK hh (q := 5) rfl (hI.1 _ (by decide)) es1140_1141 (vp_in_nI (n := ((40 * N_1142) + N_1145)) (by omega) (by decide)) dX12_put_100 (fun H locs en_1149 hen_1149 hh => ?_)
            rw [nI_clamp (n := ((40 * N_1142) + N_1145)) (by omega)] at hen_1149
            have es1138_1149 : en_1149 3 = .inl (cy 0, 4, .inl f_1138) := by rw [hen_1149, va_up_ne _ _ (by decide)]; exact es1138_1141
            have es1139_1149 : en_1149 4 = .inl (cy 0, 4, .inl f_1139) := by rw [hen_1149, va_up_ne _ _ (by decide)]; exact es1139_1141
            have es1137_1149 : en_1149 0 = .inr (11, [.int 0, .int hi, .int (nI wd), .int (nI mo), .int (nI tb), .ref (ad 1), .ref (ad 2), .ref (ad 3), .ref (ad 4), .ref (ad 5), .ref (ad 6), .ref (ad 7), .ref (ad 8), .ref (ad 9), .int dp, .long many, .long grt, .long lst, .long nou, .ref (ad 10), .ref (ad 11), .ref (ad 12), .int rm, .long rb, .ref (ad 13), .int pr, .ref (ad 14), .ref (ad 15), .ref (ad 16), .ref (ad 17), .int (nI wo), .ref (ad 18), .ref (ad 19)]) := by rw [hen_1149, va_up_ne _ _ (by decide)]; exact es1137_1141
            have es1140_1149 : en_1149 5 = .inl (cy 0, 160, .inl (upd f_1140 ((40 * N_1142) + N_1145) v9.toInt16.toInt32)) := by rw [hen_1149]; exact va_up_self _ _ _
            have hI_1149 : RX cy cs ad en_1149 := by rw [hen_1149]; exact upr_ce hI_1141 ⟨(upd f_1140 ((40 * N_1142) + N_1145) v9.toInt16.toInt32), rfl⟩
            have hf_1149 : ∀ c, (c ≠ 0 ∧ c ≠ 5) → en_1149 c = en c := fun c hc => Eq.trans (show en_1149 c = en_1141 c from by rw [hen_1149, va_up_ne _ _ (by omega)]) (hf_1141 c hc)
            have hkp_1149 : KP en en_1149 := KP_same hkp_1141 (show en_1149 0 = en_1141 0 from by rw [hen_1149, va_up_ne _ _ (by decide)])
            refine lv_iconst (v := 1) hx hb dX12_put_101 (by decide) ?_
            exact hp_iretM hx hb hr rfl hlocks hh (⟨hI_1149, hf_1149, ⟨(by (try rw [nI_clamp (n := N_1142) (by omega)]); rw [show rdF (en 3) = f_1138 from by rw [es1138]; rfl, show rdF (en 4) = f_1139 from by rw [es1139]; rfl]; unfold putR; rw [if_pos hp_1142, if_neg c_1143, hfv_1144, nI_toInt (n := v_1144) (by omega), if_pos hp_1145]), Or.inr ⟨rfl, N_1142, N_1145, rfl, rfl, by omega, by omega, (by rw [es1140_1149, show rdF (en 5) = f_1140 from by rw [es1140]; rfl, show rdF (en 3) = f_1138 from by rw [es1138]; rfl]; unfold narV; rw [if_neg c_1146, if_pos c_1147]; rfl)⟩⟩, hkp_1149⟩) dX12_put_102
        · refine lv_iload_n hx hb dX12_put_79 rfl (lv_at hl 3 rfl) ?_
          refine lv_i2b hx hb dX12_put_80 rfl ?_
          refine lv_goto (tgt := 100) hx hb dX12_put_81 (by decide) ?_
          refine hp_iast hx hb hK hh (q := 5) rfl (hI.1 _ (by decide)) es1140_1141 (vp_in_nI (n := ((40 * N_1142) + N_1145)) (by omega) (by decide)) dX12_put_100 (fun H locs en_1150 hen_1150 hh => ?_)
          rw [nI_clamp (n := ((40 * N_1142) + N_1145)) (by omega)] at hen_1150
          have es1138_1150 : en_1150 3 = .inl (cy 0, 4, .inl f_1138) := by rw [hen_1150, va_up_ne _ _ (by decide)]; exact es1138_1141
          have es1139_1150 : en_1150 4 = .inl (cy 0, 4, .inl f_1139) := by rw [hen_1150, va_up_ne _ _ (by decide)]; exact es1139_1141
          have es1137_1150 : en_1150 0 = .inr (11, [.int 0, .int hi, .int (nI wd), .int (nI mo), .int (nI tb), .ref (ad 1), .ref (ad 2), .ref (ad 3), .ref (ad 4), .ref (ad 5), .ref (ad 6), .ref (ad 7), .ref (ad 8), .ref (ad 9), .int dp, .long many, .long grt, .long lst, .long nou, .ref (ad 10), .ref (ad 11), .ref (ad 12), .int rm, .long rb, .ref (ad 13), .int pr, .ref (ad 14), .ref (ad 15), .ref (ad 16), .ref (ad 17), .int (nI wo), .ref (ad 18), .ref (ad 19)]) := by rw [hen_1150, va_up_ne _ _ (by decide)]; exact es1137_1141
          have es1140_1150 : en_1150 5 = .inl (cy 0, 160, .inl (upd f_1140 ((40 * N_1142) + N_1145) v9.toInt8.toInt32)) := by rw [hen_1150]; exact va_up_self _ _ _
          have hI_1150 : RX cy cs ad en_1150 := by rw [hen_1150]; exact upr_ce hI_1141 ⟨(upd f_1140 ((40 * N_1142) + N_1145) v9.toInt8.toInt32), rfl⟩
          have hf_1150 : ∀ c, (c ≠ 0 ∧ c ≠ 5) → en_1150 c = en c := fun c hc => Eq.trans (show en_1150 c = en_1141 c from by rw [hen_1150, va_up_ne _ _ (by omega)]) (hf_1141 c hc)
          have hkp_1150 : KP en en_1150 := KP_same hkp_1141 (show en_1150 0 = en_1141 0 from by rw [hen_1150, va_up_ne _ _ (by decide)])
          refine lv_iconst (v := 1) hx hb dX12_put_101 (by decide) ?_
          exact hp_iretM hx hb hr rfl hlocks hh (⟨hI_1150, hf_1150, ⟨(by (try rw [nI_clamp (n := N_1142) (by omega)]); rw [show rdF (en 3) = f_1138 from by rw [es1138]; rfl, show rdF (en 4) = f_1139 from by rw [es1139]; rfl]; unfold putR; rw [if_pos hp_1142, if_neg c_1143, hfv_1144, nI_toInt (n := v_1144) (by omega), if_pos hp_1145]), Or.inr ⟨rfl, N_1142, N_1145, rfl, rfl, by omega, by omega, (by rw [es1140_1150, show rdF (en 5) = f_1140 from by rw [es1140]; rfl, show rdF (en 3) = f_1138 from by rw [es1138]; rfl]; unfold narV; rw [if_pos c_1146]; rfl)⟩⟩, hkp_1150⟩) dX12_put_102
      · obtain rfl : r_1145 = 0 := Eq.trans hw_1145 (if_neg (fun q => hp_1145 ((wj_m1 (by omega)).mp q)))
        refine lv_if_ne (tgt := 60) hx hb dX12_put_51 (by decide) (fun c_0 => absurd c_0 (by decide)) (fun _ => ?_)
        refine lv_aload_n hx hb dX12_put_54 rfl (lv_at hl 0 rfl) ?_
        refine lv_iconst (v := 3) hx hb dX12_put_55 (by decide) ?_
        refine hp_callMi (va_runV (As := [.int 3]) (rest := []) ⟨hx, hb, hml, hown, hts⟩ (c_X12_fails l D cy _ cs ad en_1141 (hI.1 _ (by decide)) 0 hi wd mo tb dp many grt lst nou rm rb pr wo 3 es1137_1141) (kw_X12_fails hts tw_997 ⟨by decide, by decide⟩) (preV_of hh hK (hI.1 _ (by decide)) es1137_1141 rfl) rfl rfl hl.1 rfl (lv_room (Nat.le_of_ble_eq_true rfl)) dX12_put_56 ⟨Nat.le_of_ble_eq_true rfl, Nat.le_of_ble_eq_true rfl⟩) hh hA (fun r_1151 H locs en_1151 hw_1151 hh => ?_)
        obtain ⟨hr_1151, hen_1151⟩ := hw_1151
        have es1138_1151 : en_1151 3 = .inl (cy 0, 4, .inl f_1138) := by rw [hen_1151, va_up_ne _ _ (by decide)]; exact es1138_1141
        have es1139_1151 : en_1151 4 = .inl (cy 0, 4, .inl f_1139) := by rw [hen_1151, va_up_ne _ _ (by decide)]; exact es1139_1141
        have es1140_1151 : en_1151 5 = .inl (cy 0, 160, .inl f_1140) := by rw [hen_1151, va_up_ne _ _ (by decide)]; exact es1140_1141
        have es1137_1151 : en_1151 0 = .inr (11, [.int 3, .int hi, .int (nI wd), .int (nI mo), .int (nI tb), .ref (ad 1), .ref (ad 2), .ref (ad 3), .ref (ad 4), .ref (ad 5), .ref (ad 6), .ref (ad 7), .ref (ad 8), .ref (ad 9), .int dp, .long many, .long grt, .long lst, .long nou, .ref (ad 10), .ref (ad 11), .ref (ad 12), .int rm, .long rb, .ref (ad 13), .int pr, .ref (ad 14), .ref (ad 15), .ref (ad 16), .ref (ad 17), .int (nI wo), .ref (ad 18), .ref (ad 19)]) := by rw [hen_1151]; exact va_up_self _ _ _
        have hI_1151 : RX cy cs ad en_1151 := by rw [hen_1151]; exact upr_M hI_1141 ⟨3, hi, wd, mo, tb, dp, many, grt, lst, nou, rm, rb, pr, wo, rfl, hwd2, hwd3, hmo, htb, hwo⟩
        have hf_1151 : ∀ c, (c ≠ 0 ∧ c ≠ 5) → en_1151 c = en c := fun c hc => Eq.trans (show en_1151 c = en_1141 c from by rw [hen_1151, va_up_ne _ _ (by omega)]) (hf_1141 c hc)
        have hkc5_1151 : en_1151 5 = en 5 := (show en_1151 5 = en_1141 5 from by rw [hen_1151, va_up_ne _ _ (by decide)]).trans hkc5_1141
        have hkp_1151 : KP en en_1151 := KP_fv hkp_1141 es1137_1141 es1137_1151 hi (nI wd) (nI mo) (nI tb) pr (nI wo) rfl rfl rfl rfl rfl rfl rfl rfl rfl rfl rfl rfl
        obtain rfl : r_1151 = (-13) := hr_1151.trans (by decide)
        exact hp_iretM hx hb hr rfl hlocks hh (⟨hI_1151, hf_1151, ⟨(by (try rw [nI_clamp (n := N_1142) (by omega)]); rw [show rdF (en 3) = f_1138 from by rw [es1138]; rfl, show rdF (en 4) = f_1139 from by rw [es1139]; rfl]; unfold putR; rw [if_pos hp_1142, if_neg c_1143, hfv_1144, nI_toInt (n := v_1144) (by omega), if_neg hp_1145]), Or.inl ⟨by decide, hkc5_1151⟩⟩, hkp_1151⟩) dX12_put_59
    · refine lv_aload_n hx hb dX12_put_30 rfl (lv_at hl 0 rfl) ?_
      refine lv_iconst (v := 1) hx hb dX12_put_31 (by decide) ?_
      refine hp_callMi (va_runV (As := [.int 1]) (rest := []) ⟨hx, hb, hml, hown, hts⟩ (c_X12_fails l D cy _ cs ad en_1141 (hI.1 _ (by decide)) 0 hi wd mo tb dp many grt lst nou rm rb pr wo 1 es1137_1141) (kw_X12_fails hts tw_997 ⟨by decide, by decide⟩) (preV_of hh hK (hI.1 _ (by decide)) es1137_1141 rfl) rfl rfl hl.1 rfl (lv_room (Nat.le_of_ble_eq_true rfl)) dX12_put_32 ⟨Nat.le_of_ble_eq_true rfl, Nat.le_of_ble_eq_true rfl⟩) hh hA (fun r_1152 H locs en_1152 hw_1152 hh => ?_)
      obtain ⟨hr_1152, hen_1152⟩ := hw_1152
      have es1138_1152 : en_1152 3 = .inl (cy 0, 4, .inl f_1138) := by rw [hen_1152, va_up_ne _ _ (by decide)]; exact es1138_1141
      have es1139_1152 : en_1152 4 = .inl (cy 0, 4, .inl f_1139) := by rw [hen_1152, va_up_ne _ _ (by decide)]; exact es1139_1141
      have es1140_1152 : en_1152 5 = .inl (cy 0, 160, .inl f_1140) := by rw [hen_1152, va_up_ne _ _ (by decide)]; exact es1140_1141
      have es1137_1152 : en_1152 0 = .inr (11, [.int 1, .int hi, .int (nI wd), .int (nI mo), .int (nI tb), .ref (ad 1), .ref (ad 2), .ref (ad 3), .ref (ad 4), .ref (ad 5), .ref (ad 6), .ref (ad 7), .ref (ad 8), .ref (ad 9), .int dp, .long many, .long grt, .long lst, .long nou, .ref (ad 10), .ref (ad 11), .ref (ad 12), .int rm, .long rb, .ref (ad 13), .int pr, .ref (ad 14), .ref (ad 15), .ref (ad 16), .ref (ad 17), .int (nI wo), .ref (ad 18), .ref (ad 19)]) := by rw [hen_1152]; exact va_up_self _ _ _
      have hI_1152 : RX cy cs ad en_1152 := by rw [hen_1152]; exact upr_M hI_1141 ⟨1, hi, wd, mo, tb, dp, many, grt, lst, nou, rm, rb, pr, wo, rfl, hwd2, hwd3, hmo, htb, hwo⟩
      have hf_1152 : ∀ c, (c ≠ 0 ∧ c ≠ 5) → en_1152 c = en c := fun c hc => Eq.trans (show en_1152 c = en_1141 c from by rw [hen_1152, va_up_ne _ _ (by omega)]) (hf_1141 c hc)
      have hkc5_1152 : en_1152 5 = en 5 := (show en_1152 5 = en_1141 5 from by rw [hen_1152, va_up_ne _ _ (by decide)]).trans hkc5_1141
      have hkp_1152 : KP en en_1152 := KP_fv hkp_1141 es1137_1141 es1137_1152 hi (nI wd) (nI mo) (nI tb) pr (nI wo) rfl rfl rfl rfl rfl rfl rfl rfl rfl rfl rfl rfl
      obtain rfl : r_1152 = (-11) := hr_1152.trans (by decide)
      exact hp_iretM hx hb hr rfl hlocks hh (⟨hI_1152, hf_1152, ⟨(by (try rw [nI_clamp (n := N_1142) (by omega)]); rw [show rdF (en 3) = f_1138 from by rw [es1138]; rfl, show rdF (en 4) = f_1139 from by rw [es1139]; rfl]; unfold putR; rw [if_pos hp_1142, if_pos c_1143]), Or.inl ⟨by decide, hkc5_1152⟩⟩, hkp_1152⟩) dX12_put_35
  · obtain rfl : r_1142 = 0 := Eq.trans hw_1142 (if_neg (fun q => hp_1142 ((wj_32 (by decide) (by decide)).mp q)))
    refine lv_if_ne (tgt := 19) hx hb dX12_put_14 (by decide) (fun c_0 => absurd c_0 (by decide)) (fun _ => ?_)
    refine lv_iconst (v := (-1)) hx hb dX12_put_17 (by decide) ?_
    exact hp_iretM hx hb hr rfl hlocks hh (⟨hI_1141, hf_1141, ⟨(by unfold putR; rw [if_neg hp_1142]), Or.inl ⟨by decide, hkc5_1141⟩⟩, hkp_1141⟩) dX12_put_18
theorem kw_X12_put {R : Room} {s : State} {args : Array Value} {own : String} {idx : Nat} (hts : ∀ w ∈ TB, w.before args s = true) (hl : Cond.methodLink own idx yX12_put ∈ TB) (hR : 1 + 1 ≤ R.frames ∧ 8 + (4 + 11) + 40 * 1 ≤ R.locals) : CallW R s args own RX12 idx yX12_put cX12_put 4 (some .int) (Cond.code yX12_put cX12_put 4 (some .int) :: TB) (rmN 1) 0 0 3 := cwV 3 hts (TB_V hl tw_1208 tw_1209 tw_9 tw_1210) rfl rfl rfl (by decide +kernel) hR
set_option maxHeartbeats 4000000 in
set_option maxRecDepth 100000 in
/-- at -/
theorem c_X12_at (l : Launch) (D : va_G) (cy : Nat → ClassId) (sz : Nat) (cs : List Nat) (ad : Nat → Nat) (en : Nat → va_E) (hI : RX cy cs ad en) (k9 i9 la9 : Int32)   : Met l yX12_at (Cond.code yX12_at cX12_at 4 (some .long) :: TB) (rmN 1) (va_Pc [.ref (ad 0), .int k9, .int i9, .int la9] (Pre D cy cs ad en sz)) (va_Ql (S := Nat → va_E) (fun r en1 => RX cy cs ad en1 ∧ (∀ c, (c ≠ 0) → en1 c = en c) ∧ RAT k9 i9 la9 r en ∧ KP en en1) (PostM D cs ad) (Af cs ad sz)) 0 0 (Af cs ad sz) := by
  refine Met.ofW (cc := cX12_at) (maxL := 4) (ret := (some .long)) (by decide) rfl ?_
  intro p e s m args below meth c s₁ B hml hv
  obtain ⟨rfl, hsz, hP, hK, hD0⟩ := hv
  have hx := B.exec
  have hb := B.bytes
  have hr := B.returns
  have hts : ∀ w ∈ TB, w.before _ s = true := fun w h => atoms_spec (ws := _ :: TB) B.pre w (List.mem_cons_of_mem _ h)
  have hown : s.vm.findClass RX12 = some m.cls := findClass_of_methodNamed B.named
  have hlocks := B.notSynchronized
  have hh : Hp D (Af cs ad sz) (Af cs ad sz) s.heap s.heap [] cs ad en := ⟨hP, Af_self hD0, va_S.rf⟩
  have hA : ∀ q : Nat, s.heap.size ≤ q → Af cs ad sz q := fun q h => Or.inr (by rw [hsz] at h; exact h)
  have hl := lv_entry ([.ref (ad 0), .int k9, .int i9, .int la9]) (n := 4) (Nat.le_of_ble_eq_true rfl)
  rw [lg_entry_eq]
  generalize (lg_sl ([.ref (ad 0), .int k9, .int i9, .int la9]) ++ List.replicate (4 - (lg_sl ([.ref (ad 0), .int k9, .int i9, .int la9])).length) Slot.unset).toArray = ls at hl ⊢
  have hl : lv_has ls 4 [(0, .ref (ad 0)), (1, .int k9), (2, .int i9), (3, .int la9)] := hl
  have hf0 : ∀ c, (c ≠ 0) → en c = en c := fun _ _ => rfl
  obtain ⟨fa, hi, wd, mo, tb, dp, many, grt, lst, nou, rm, rb, pr, wo, es1153, hwd2, hwd3, hmo, htb, hwo⟩ := getr_M hI
  obtain ⟨f_1154, es1154⟩ := getr_la hI
  obtain ⟨f_1155, es1155, p0_1155⟩ := getr_sl hI
  obtain ⟨f_1156, es1156⟩ := getr_ce hI
  refine lv_aload_n hx hb dX12_at_0 rfl (lv_at hl 0 rfl) ?_
  refine lv_iconst (v := 0) hx hb dX12_at_1 (by decide) ?_
  refine hp_put hx hb hts ix12 tyX12 tyX12_ok nmX12 hown hK hh (q := 0) rfl (hI.1 _ (by decide)) es1153 rfl 0 (by decide) (hts _ tw_879) (fun _ h9 => h9) rfl (ty := .int) (by decide +kernel) rfl rfl (Nat.le_of_ble_eq_true rfl) dX12_at_2 (fun H locs en_1157 hen_1157 hh => ?_)
  have es1154_1157 : en_1157 3 = .inl (cy 0, 4, .inl f_1154) := by rw [hen_1157, va_up_ne _ _ (by decide)]; exact es1154
  have es1155_1157 : en_1157 4 = .inl (cy 0, 4, .inl f_1155) := by rw [hen_1157, va_up_ne _ _ (by decide)]; exact es1155
  have es1156_1157 : en_1157 5 = .inl (cy 0, 160, .inl f_1156) := by rw [hen_1157, va_up_ne _ _ (by decide)]; exact es1156
  have es1153_1157 : en_1157 0 = .inr (11, [.int 0, .int hi, .int (nI wd), .int (nI mo), .int (nI tb), .ref (ad 1), .ref (ad 2), .ref (ad 3), .ref (ad 4), .ref (ad 5), .ref (ad 6), .ref (ad 7), .ref (ad 8), .ref (ad 9), .int dp, .long many, .long grt, .long lst, .long nou, .ref (ad 10), .ref (ad 11), .ref (ad 12), .int rm, .long rb, .ref (ad 13), .int pr, .ref (ad 14), .ref (ad 15), .ref (ad 16), .ref (ad 17), .int (nI wo), .ref (ad 18), .ref (ad 19)]) := by rw [hen_1157]; exact va_up_self _ _ _
  have hI_1157 : RX cy cs ad en_1157 := by rw [hen_1157]; exact upr_M hI ⟨0, hi, wd, mo, tb, dp, many, grt, lst, nou, rm, rb, pr, wo, rfl, hwd2, hwd3, hmo, htb, hwo⟩
  have hf_1157 : ∀ c, (c ≠ 0) → en_1157 c = en c := fun c hc => Eq.trans (show en_1157 c = en c from by rw [hen_1157, va_up_ne _ _ (by omega)]) (hf0 c hc)
  have hkp_1157 : KP en en_1157 := KP_fv (KP_rf en) es1153 es1153_1157 hi (nI wd) (nI mo) (nI tb) pr (nI wo) rfl rfl rfl rfl rfl rfl rfl rfl rfl rfl rfl rfl
  refine lv_iload_n hx hb dX12_at_5 rfl (lv_at hl 1 rfl) ?_
  refine lv_i2l hx hb dX12_at_6 rfl ?_
  refine lv_lconst (v := 0) hx hb dX12_at_7 (by decide) ?_
  refine lv_ldc2 hx hb hown (hts _ tw_984) dX12_at_8 ?_
  refine hp_callRi (va_runS (As := [.long k9.toInt64, .long 0, .long 3]) (rest := []) ⟨hx, hb, hml, hown, hts⟩ (c_X12_within l D cy _ cs ad en_1157 k9.toInt64 0 3) (kw_X12_within hts tw_985 ⟨by decide, by decide⟩) (preS_of hh hK) rfl rfl hl.1 rfl (lv_room (Nat.le_of_ble_eq_true rfl)) dX12_at_11 ⟨Nat.le_of_ble_eq_true rfl, Nat.le_of_ble_eq_true rfl⟩) hh hA (fun r_1158 H locs hw_1158 hh => ?_)
  rcases Decidable.em (wi k9 0 3) with hp_1158 | hp_1158
  · obtain rfl : r_1158 = 1 := Eq.trans hw_1158 (if_pos ((wj_32 (by decide) (by decide)).mpr hp_1158))
    obtain ⟨N_1158, rfl, hA_1158, hB_1158⟩ := wi_natB hp_1158 0 3 (by decide) (by decide)
    refine lv_if_eq (tgt := 29) hx hb dX12_at_14 (by decide) (fun c_0 => absurd c_0 (by decide)) (fun _ => ?_)
    refine lv_iload_n hx hb dX12_at_17 rfl (lv_at hl 3 rfl) ?_
    refine lv_i2l hx hb dX12_at_18 rfl ?_
    refine lv_lconst (v := 0) hx hb dX12_at_19 (by decide) ?_
    refine lv_ldc2 hx hb hown (hts _ tw_983) dX12_at_20 ?_
    refine hp_callRi (va_runS (As := [.long la9.toInt64, .long 0, .long 2]) (rest := []) ⟨hx, hb, hml, hown, hts⟩ (c_X12_within l D cy _ cs ad en_1157 la9.toInt64 0 2) (kw_X12_within hts tw_985 ⟨by decide, by decide⟩) (preS_of hh hK) rfl rfl hl.1 rfl (lv_room (Nat.le_of_ble_eq_true rfl)) dX12_at_23 ⟨Nat.le_of_ble_eq_true rfl, Nat.le_of_ble_eq_true rfl⟩) hh hA (fun r_1159 H locs hw_1159 hh => ?_)
    rcases Decidable.em (wi la9 0 2) with hp_1159 | hp_1159
    · obtain rfl : r_1159 = 1 := Eq.trans hw_1159 (if_pos ((wj_32 (by decide) (by decide)).mpr hp_1159))
      obtain ⟨N_1159, rfl, hA_1159, hB_1159⟩ := wi_natB hp_1159 0 2 (by decide) (by decide)
      refine lv_if_ne (tgt := 33) hx hb dX12_at_26 (by decide) (fun _ => ?_) (fun c_0 => absurd c_0 (by decide))
      refine lv_aload_n hx hb dX12_at_33 rfl (lv_at hl 0 rfl) ?_
      refine hp_get hx hb hts ix12 hown hK hh (q := 0) rfl (hI.1 _ (by decide)) es1153_1157 rfl 7 (by decide) (hts _ tw_886) (fun _ h9 => h9) rfl dX12_at_34 ?_
      refine lv_iload_n hx hb dX12_at_37 rfl (lv_at hl 1 rfl) ?_
      refine hp_iald hx hb hK hh (q := 3) rfl (hI.1 _ (by decide)) es1154_1157 (vp_in_nI (n := N_1158) (by omega) (by decide)) dX12_at_38 ?_
      rw [nI_clamp (n := N_1158) (by omega)]
      refine lv_bipush (v := (-9)) hx hb dX12_at_39 (by decide) ?_
      refine lv_icmp_eq (tgt := 60) hx hb dX12_at_41 (by decide) (fun c_1160 => ?_) (fun c_1160 => ?_)
      · refine lv_aload_n hx hb dX12_at_60 rfl (lv_at hl 0 rfl) ?_
        refine hp_get hx hb hts ix12 hown hK hh (q := 0) rfl (hI.1 _ (by decide)) es1153_1157 rfl 7 (by decide) (hts _ tw_886) (fun _ h9 => h9) rfl dX12_at_61 ?_
        refine lv_iload_n hx hb dX12_at_64 rfl (lv_at hl 1 rfl) ?_
        refine hp_iald hx hb hK hh (q := 3) rfl (hI.1 _ (by decide)) es1154_1157 (vp_in_nI (n := N_1158) (by omega) (by decide)) dX12_at_65 ?_
        rw [nI_clamp (n := N_1158) (by omega)]
        refine lv_bipush (v := (-9)) hx hb dX12_at_66 (by decide) ?_
        refine lv_icmp_ne (tgt := 77) hx hb dX12_at_68 (by decide) (fun c_0 => absurd (c_1160) c_0) (fun _ => ?_)
        refine lv_aload_n hx hb dX12_at_71 rfl (lv_at hl 0 rfl) ?_
        refine lv_iconst (v := 1) hx hb dX12_at_72 (by decide) ?_
        refine hp_callMl (va_runV (As := [.int 1]) (rest := []) ⟨hx, hb, hml, hown, hts⟩ (c_X12_lost l D cy _ cs ad en_1157 (hI.1 _ (by decide)) 0 hi wd mo tb dp many grt lst nou rm rb pr wo 1 es1153_1157) (kw_X12_lost hts tw_1215 ⟨by decide, by decide⟩) (preV_of hh hK (hI.1 _ (by decide)) es1153_1157 rfl) rfl rfl hl.1 rfl (lv_room (Nat.le_of_ble_eq_true rfl)) dX12_at_73 ⟨Nat.le_of_ble_eq_true rfl, Nat.le_of_ble_eq_true rfl⟩) hh hA (fun r_1161 H locs en_1161 hw_1161 hh => ?_)
        obtain ⟨hr_1161, hen_1161⟩ := hw_1161
        have es1154_1161 : en_1161 3 = .inl (cy 0, 4, .inl f_1154) := by rw [hen_1161, va_up_ne _ _ (by decide)]; exact es1154_1157
        have es1155_1161 : en_1161 4 = .inl (cy 0, 4, .inl f_1155) := by rw [hen_1161, va_up_ne _ _ (by decide)]; exact es1155_1157
        have es1156_1161 : en_1161 5 = .inl (cy 0, 160, .inl f_1156) := by rw [hen_1161, va_up_ne _ _ (by decide)]; exact es1156_1157
        have es1153_1161 : en_1161 0 = .inr (11, [.int 1, .int hi, .int (nI wd), .int (nI mo), .int (nI tb), .ref (ad 1), .ref (ad 2), .ref (ad 3), .ref (ad 4), .ref (ad 5), .ref (ad 6), .ref (ad 7), .ref (ad 8), .ref (ad 9), .int dp, .long many, .long grt, .long lst, .long nou, .ref (ad 10), .ref (ad 11), .ref (ad 12), .int rm, .long rb, .ref (ad 13), .int pr, .ref (ad 14), .ref (ad 15), .ref (ad 16), .ref (ad 17), .int (nI wo), .ref (ad 18), .ref (ad 19)]) := by rw [hen_1161]; exact va_up_self _ _ _
        have hI_1161 : RX cy cs ad en_1161 := by rw [hen_1161]; exact upr_M hI_1157 ⟨1, hi, wd, mo, tb, dp, many, grt, lst, nou, rm, rb, pr, wo, rfl, hwd2, hwd3, hmo, htb, hwo⟩
        have hf_1161 : ∀ c, (c ≠ 0) → en_1161 c = en c := fun c hc => Eq.trans (show en_1161 c = en_1157 c from by rw [hen_1161, va_up_ne _ _ (by omega)]) (hf_1157 c hc)
        have hkp_1161 : KP en en_1161 := KP_fv hkp_1157 es1153_1157 es1153_1161 hi (nI wd) (nI mo) (nI tb) pr (nI wo) rfl rfl rfl rfl rfl rfl rfl rfl rfl rfl rfl rfl
        obtain rfl : r_1161 = (-9223372036854775808) := hr_1161
        exact hp_lretM hx hb hr hlocks hh (⟨hI_1161, hf_1161, (by unfold RAT; (try rw [nI_clamp (n := N_1158) (by omega)]); rw [show rdF (en 3) = f_1154 from by rw [es1154]; rfl, show rdF (en 4) = f_1155 from by rw [es1155]; rfl]; unfold atR; rw [if_pos ⟨hp_1158, hp_1159⟩, if_neg (fun q => q.1 c_1160), if_pos c_1160]), hkp_1161⟩) dX12_at_76
      · refine lv_aload_n hx hb dX12_at_44 rfl (lv_at hl 0 rfl) ?_
        refine hp_get hx hb hts ix12 hown hK hh (q := 0) rfl (hI.1 _ (by decide)) es1153_1157 rfl 7 (by decide) (hts _ tw_886) (fun _ h9 => h9) rfl dX12_at_45 ?_
        refine lv_iload_n hx hb dX12_at_48 rfl (lv_at hl 1 rfl) ?_
        refine hp_iald hx hb hK hh (q := 3) rfl (hI.1 _ (by decide)) es1154_1157 (vp_in_nI (n := N_1158) (by omega) (by decide)) dX12_at_49 ?_
        rw [nI_clamp (n := N_1158) (by omega)]
        refine lv_iload_n hx hb dX12_at_50 rfl (lv_at hl 3 rfl) ?_
        refine lv_icmp_eq (tgt := 60) hx hb dX12_at_51 (by decide) (fun c_1162 => ?_) (fun c_1162 => ?_)
        · refine lv_aload_n hx hb dX12_at_60 rfl (lv_at hl 0 rfl) ?_
          refine hp_get hx hb hts ix12 hown hK hh (q := 0) rfl (hI.1 _ (by decide)) es1153_1157 rfl 7 (by decide) (hts _ tw_886) (fun _ h9 => h9) rfl dX12_at_61 ?_
          refine lv_iload_n hx hb dX12_at_64 rfl (lv_at hl 1 rfl) ?_
          refine hp_iald hx hb hK hh (q := 3) rfl (hI.1 _ (by decide)) es1154_1157 (vp_in_nI (n := N_1158) (by omega) (by decide)) dX12_at_65 ?_
          rw [nI_clamp (n := N_1158) (by omega)]
          refine lv_bipush (v := (-9)) hx hb dX12_at_66 (by decide) ?_
          refine lv_icmp_ne (tgt := 77) hx hb dX12_at_68 (by decide) (fun _ => ?_) (fun c_0 => absurd c_0 (c_1160))
          refine lv_iload_n hx hb dX12_at_77 rfl (lv_at hl 2 rfl) ?_
          refine lv_i2l hx hb dX12_at_78 rfl ?_
          refine lv_lconst (v := 0) hx hb dX12_at_79 (by decide) ?_
          refine lv_aload_n hx hb dX12_at_80 rfl (lv_at hl 0 rfl) ?_
          refine hp_get hx hb hts ix12 hown hK hh (q := 0) rfl (hI.1 _ (by decide)) es1153_1157 rfl 8 (by decide) (hts _ tw_887) (fun _ h9 => h9) rfl dX12_at_81 ?_
          refine lv_iload_n hx hb dX12_at_84 rfl (lv_at hl 1 rfl) ?_
          refine hp_iald hx hb hK hh (q := 4) rfl (hI.1 _ (by decide)) es1155_1157 (vp_in_nI (n := N_1158) (by omega) (by decide)) dX12_at_85 ?_
          rw [nI_clamp (n := N_1158) (by omega)]
          obtain ⟨v_1163, hv_1163, hfv_1163⟩ := p0_1155 N_1158 (by omega)
          rw [hfv_1163]
          refine lv_i2l hx hb dX12_at_86 rfl ?_
          refine lv_lconst (v := 1) hx hb dX12_at_87 (by decide) ?_
          refine lv_lsub hx hb dX12_at_88 ?_
          refine hp_callRi (va_runS (As := [.long i9.toInt64, .long 0, .long ((nI v_1163).toInt64 - 1)]) (rest := []) ⟨hx, hb, hml, hown, hts⟩ (c_X12_within l D cy _ cs ad en_1157 i9.toInt64 0 ((nI v_1163).toInt64 - 1)) (kw_X12_within hts tw_985 ⟨by decide, by decide⟩) (preS_of hh hK) rfl rfl hl.1 rfl (lv_room (Nat.le_of_ble_eq_true rfl)) dX12_at_89 ⟨Nat.le_of_ble_eq_true rfl, Nat.le_of_ble_eq_true rfl⟩) hh hA (fun r_1164 H locs hw_1164 hh => ?_)
          rcases Decidable.em (0 ≤ i9.toInt ∧ i9.toInt < (v_1163 : Int)) with hp_1164 | hp_1164
          · obtain rfl : r_1164 = 1 := Eq.trans hw_1164 (if_pos ((wj_m1 (by omega)).mpr hp_1164))
            obtain ⟨N_1164, rfl, hB_1164⟩ := has_nat hp_1164
            refine lv_if_ne (tgt := 101) hx hb dX12_at_92 (by decide) (fun _ => ?_) (fun c_0 => absurd c_0 (by decide))
            refine lv_aload_n hx hb dX12_at_101 rfl (lv_at hl 0 rfl) ?_
            refine hp_get hx hb hts ix12 hown hK hh (q := 0) rfl (hI.1 _ (by decide)) es1153_1157 rfl 9 (by decide) (hts _ tw_888) (fun _ h9 => h9) rfl dX12_at_102 ?_
            refine lv_bipush (v := 40) hx hb dX12_at_105 (by decide) ?_
            refine lv_iload_n hx hb dX12_at_107 rfl (lv_at hl 1 rfl) ?_
            refine lv_imul hx hb dX12_at_108 ?_
            rw [show (40 : Int32) = nI 40 from rfl, pk_mul 40 N_1158]
            refine lv_iload_n hx hb dX12_at_109 rfl (lv_at hl 2 rfl) ?_
            refine lv_iadd hx hb dX12_at_110 ?_
            rw [nI_add (40 * N_1158) N_1164]
            refine hp_iald hx hb hK hh (q := 5) rfl (hI.1 _ (by decide)) es1156_1157 (vp_in_nI (n := ((40 * N_1158) + N_1164)) (by omega) (by decide)) dX12_at_111 ?_
            rw [nI_clamp (n := ((40 * N_1158) + N_1164)) (by omega)]
            refine lv_i2l hx hb dX12_at_112 rfl ?_
            exact hp_lretM hx hb hr hlocks hh (⟨hI_1157, hf_1157, (by unfold RAT; (try rw [nI_clamp (n := N_1158) (by omega)]); rw [show rdF (en 3) = f_1154 from by rw [es1154]; rfl, show rdF (en 4) = f_1155 from by rw [es1155]; rfl]; unfold atR; rw [if_pos ⟨hp_1158, hp_1159⟩, if_neg (fun q => q.2 c_1162), if_neg c_1160, hfv_1163, nI_toInt (n := v_1163) (by omega), if_pos hp_1164, nI_clamp (n := N_1164) (by omega), show rdF (en 5) = f_1156 from by rw [es1156]; rfl]), hkp_1157⟩) dX12_at_113
          · obtain rfl : r_1164 = 0 := Eq.trans hw_1164 (if_neg (fun q => hp_1164 ((wj_m1 (by omega)).mp q)))
            refine lv_if_ne (tgt := 101) hx hb dX12_at_92 (by decide) (fun c_0 => absurd c_0 (by decide)) (fun _ => ?_)
            refine lv_aload_n hx hb dX12_at_95 rfl (lv_at hl 0 rfl) ?_
            refine lv_iconst (v := 3) hx hb dX12_at_96 (by decide) ?_
            refine hp_callMl (va_runV (As := [.int 3]) (rest := []) ⟨hx, hb, hml, hown, hts⟩ (c_X12_lost l D cy _ cs ad en_1157 (hI.1 _ (by decide)) 0 hi wd mo tb dp many grt lst nou rm rb pr wo 3 es1153_1157) (kw_X12_lost hts tw_1215 ⟨by decide, by decide⟩) (preV_of hh hK (hI.1 _ (by decide)) es1153_1157 rfl) rfl rfl hl.1 rfl (lv_room (Nat.le_of_ble_eq_true rfl)) dX12_at_97 ⟨Nat.le_of_ble_eq_true rfl, Nat.le_of_ble_eq_true rfl⟩) hh hA (fun r_1165 H locs en_1165 hw_1165 hh => ?_)
            obtain ⟨hr_1165, hen_1165⟩ := hw_1165
            have es1154_1165 : en_1165 3 = .inl (cy 0, 4, .inl f_1154) := by rw [hen_1165, va_up_ne _ _ (by decide)]; exact es1154_1157
            have es1155_1165 : en_1165 4 = .inl (cy 0, 4, .inl f_1155) := by rw [hen_1165, va_up_ne _ _ (by decide)]; exact es1155_1157
            have es1156_1165 : en_1165 5 = .inl (cy 0, 160, .inl f_1156) := by rw [hen_1165, va_up_ne _ _ (by decide)]; exact es1156_1157
            have es1153_1165 : en_1165 0 = .inr (11, [.int 3, .int hi, .int (nI wd), .int (nI mo), .int (nI tb), .ref (ad 1), .ref (ad 2), .ref (ad 3), .ref (ad 4), .ref (ad 5), .ref (ad 6), .ref (ad 7), .ref (ad 8), .ref (ad 9), .int dp, .long many, .long grt, .long lst, .long nou, .ref (ad 10), .ref (ad 11), .ref (ad 12), .int rm, .long rb, .ref (ad 13), .int pr, .ref (ad 14), .ref (ad 15), .ref (ad 16), .ref (ad 17), .int (nI wo), .ref (ad 18), .ref (ad 19)]) := by rw [hen_1165]; exact va_up_self _ _ _
            have hI_1165 : RX cy cs ad en_1165 := by rw [hen_1165]; exact upr_M hI_1157 ⟨3, hi, wd, mo, tb, dp, many, grt, lst, nou, rm, rb, pr, wo, rfl, hwd2, hwd3, hmo, htb, hwo⟩
            have hf_1165 : ∀ c, (c ≠ 0) → en_1165 c = en c := fun c hc => Eq.trans (show en_1165 c = en_1157 c from by rw [hen_1165, va_up_ne _ _ (by omega)]) (hf_1157 c hc)
            have hkp_1165 : KP en en_1165 := KP_fv hkp_1157 es1153_1157 es1153_1165 hi (nI wd) (nI mo) (nI tb) pr (nI wo) rfl rfl rfl rfl rfl rfl rfl rfl rfl rfl rfl rfl
            obtain rfl : r_1165 = (-9223372036854775808) := hr_1165
            exact hp_lretM hx hb hr hlocks hh (⟨hI_1165, hf_1165, (by unfold RAT; (try rw [nI_clamp (n := N_1158) (by omega)]); rw [show rdF (en 3) = f_1154 from by rw [es1154]; rfl, show rdF (en 4) = f_1155 from by rw [es1155]; rfl]; unfold atR; rw [if_pos ⟨hp_1158, hp_1159⟩, if_neg (fun q => q.2 c_1162), if_neg c_1160, hfv_1163, nI_toInt (n := v_1163) (by omega), if_neg hp_1164]), hkp_1165⟩) dX12_at_100
        · refine lv_aload_n hx hb dX12_at_54 rfl (lv_at hl 0 rfl) ?_
          refine lv_iconst (v := 2) hx hb dX12_at_55 (by decide) ?_
          refine hp_callMl (va_runV (As := [.int 2]) (rest := []) ⟨hx, hb, hml, hown, hts⟩ (c_X12_lost l D cy _ cs ad en_1157 (hI.1 _ (by decide)) 0 hi wd mo tb dp many grt lst nou rm rb pr wo 2 es1153_1157) (kw_X12_lost hts tw_1215 ⟨by decide, by decide⟩) (preV_of hh hK (hI.1 _ (by decide)) es1153_1157 rfl) rfl rfl hl.1 rfl (lv_room (Nat.le_of_ble_eq_true rfl)) dX12_at_56 ⟨Nat.le_of_ble_eq_true rfl, Nat.le_of_ble_eq_true rfl⟩) hh hA (fun r_1166 H locs en_1166 hw_1166 hh => ?_)
          obtain ⟨hr_1166, hen_1166⟩ := hw_1166
          have es1154_1166 : en_1166 3 = .inl (cy 0, 4, .inl f_1154) := by rw [hen_1166, va_up_ne _ _ (by decide)]; exact es1154_1157
          have es1155_1166 : en_1166 4 = .inl (cy 0, 4, .inl f_1155) := by rw [hen_1166, va_up_ne _ _ (by decide)]; exact es1155_1157
          have es1156_1166 : en_1166 5 = .inl (cy 0, 160, .inl f_1156) := by rw [hen_1166, va_up_ne _ _ (by decide)]; exact es1156_1157
          have es1153_1166 : en_1166 0 = .inr (11, [.int 2, .int hi, .int (nI wd), .int (nI mo), .int (nI tb), .ref (ad 1), .ref (ad 2), .ref (ad 3), .ref (ad 4), .ref (ad 5), .ref (ad 6), .ref (ad 7), .ref (ad 8), .ref (ad 9), .int dp, .long many, .long grt, .long lst, .long nou, .ref (ad 10), .ref (ad 11), .ref (ad 12), .int rm, .long rb, .ref (ad 13), .int pr, .ref (ad 14), .ref (ad 15), .ref (ad 16), .ref (ad 17), .int (nI wo), .ref (ad 18), .ref (ad 19)]) := by rw [hen_1166]; exact va_up_self _ _ _
          have hI_1166 : RX cy cs ad en_1166 := by rw [hen_1166]; exact upr_M hI_1157 ⟨2, hi, wd, mo, tb, dp, many, grt, lst, nou, rm, rb, pr, wo, rfl, hwd2, hwd3, hmo, htb, hwo⟩
          have hf_1166 : ∀ c, (c ≠ 0) → en_1166 c = en c := fun c hc => Eq.trans (show en_1166 c = en_1157 c from by rw [hen_1166, va_up_ne _ _ (by omega)]) (hf_1157 c hc)
          have hkp_1166 : KP en en_1166 := KP_fv hkp_1157 es1153_1157 es1153_1166 hi (nI wd) (nI mo) (nI tb) pr (nI wo) rfl rfl rfl rfl rfl rfl rfl rfl rfl rfl rfl rfl
          obtain rfl : r_1166 = (-9223372036854775808) := hr_1166
          exact hp_lretM hx hb hr hlocks hh (⟨hI_1166, hf_1166, (by unfold RAT; (try rw [nI_clamp (n := N_1158) (by omega)]); rw [show rdF (en 3) = f_1154 from by rw [es1154]; rfl, show rdF (en 4) = f_1155 from by rw [es1155]; rfl]; unfold atR; rw [if_pos ⟨hp_1158, hp_1159⟩, if_pos ⟨c_1160, c_1162⟩]), hkp_1166⟩) dX12_at_59
    · obtain rfl : r_1159 = 0 := Eq.trans hw_1159 (if_neg (fun q => hp_1159 ((wj_32 (by decide) (by decide)).mp q)))
      refine lv_if_ne (tgt := 33) hx hb dX12_at_26 (by decide) (fun c_0 => absurd c_0 (by decide)) (fun _ => ?_)
      refine lv_ldc2 hx hb hown (hts _ tw_1015) dX12_at_29 ?_
      exact hp_lretM hx hb hr hlocks hh (⟨hI_1157, hf_1157, (by unfold RAT atR; rw [if_neg (fun q => hp_1159 q.2)]), hkp_1157⟩) dX12_at_32
  · obtain rfl : r_1158 = 0 := Eq.trans hw_1158 (if_neg (fun q => hp_1158 ((wj_32 (by decide) (by decide)).mp q)))
    refine lv_if_eq (tgt := 29) hx hb dX12_at_14 (by decide) (fun _ => ?_) (fun c_0 => absurd c_0 (by decide))
    refine lv_ldc2 hx hb hown (hts _ tw_1015) dX12_at_29 ?_
    exact hp_lretM hx hb hr hlocks hh (⟨hI_1157, hf_1157, (by unfold RAT atR; rw [if_neg (fun q => hp_1158 q.1)]), hkp_1157⟩) dX12_at_32
theorem kw_X12_at {R : Room} {s : State} {args : Array Value} {own : String} {idx : Nat} (hts : ∀ w ∈ TB, w.before args s = true) (hl : Cond.methodLink own idx yX12_at ∈ TB) (hR : 1 + 1 ≤ R.frames ∧ 8 + (4 + 11) + 40 * 1 ≤ R.locals) : CallW R s args own RX12 idx yX12_at cX12_at 4 (some .long) (Cond.code yX12_at cX12_at 4 (some .long) :: TB) (rmN 1) 0 0 3 := cwV 3 hts (TB_V hl tw_1212 tw_1213 tw_9 tw_1214) rfl rfl rfl (by decide +kernel) hR
set_option maxHeartbeats 4000000 in
set_option maxRecDepth 100000 in
/-- kindOf -/
theorem c_X12_kindOf (l : Launch) (D : va_G) (cy : Nat → ClassId) (sz : Nat) (cs : List Nat) (ad : Nat → Nat) (en : Nat → va_E) (hI : RX cy cs ad en) (t : Nat) (ht6 : t < 6)   : Met l yX12_kindOf (Cond.code yX12_kindOf cX12_kindOf 9 (some .int) :: TB) (rmN 0) (va_Pc [.ref (ad 0), .int (nI t)] (Pre D cy cs ad en sz)) (va_Qi (S := Unit) (fun r _ => RKD (fun i => rdF (en 1) (9 * t + i)) (rdI (en 0) 2).toNatClampNeg r) (fun _ _ => True) (Nf sz)) 0 0 (Nf sz) := by
  refine Met.ofW (cc := cX12_kindOf) (maxL := 9) (ret := (some .int)) (by decide) rfl ?_
  intro p e s m args below meth c s₁ B hml hv
  obtain ⟨rfl, hsz, hP, hK, hD0⟩ := hv
  have hx := B.exec
  have hb := B.bytes
  have hr := B.returns
  have hts : ∀ w ∈ TB, w.before _ s = true := fun w h => atoms_spec (ws := _ :: TB) B.pre w (List.mem_cons_of_mem _ h)
  have hown : s.vm.findClass RX12 = some m.cls := findClass_of_methodNamed B.named
  have hlocks := B.notSynchronized
  have hh : Hp D (Nf sz) (fun _ => True) s.heap s.heap [] cs ad en := ⟨hP, hD0, va_S.rf⟩
  have hA : ∀ q : Nat, s.heap.size ≤ q → Nf sz q := fun q h => by rw [hsz] at h; exact h
  have hl := lv_entry ([.ref (ad 0), .int (nI t)]) (n := 9) (Nat.le_of_ble_eq_true rfl)
  rw [lg_entry_eq]
  generalize (lg_sl ([.ref (ad 0), .int (nI t)]) ++ List.replicate (9 - (lg_sl ([.ref (ad 0), .int (nI t)])).length) Slot.unset).toArray = ls at hl ⊢
  have hl : lv_has ls 9 [(0, .ref (ad 0)), (1, .int (nI t))] := hl
  obtain ⟨fa, hi, wd, mo, tb, dp, many, grt, lst, nou, rm, rb, pr, wo, es1167, hwd2, hwd3, hmo, htb, hwo⟩ := getr_M hI
  obtain ⟨f_1168, es1168⟩ := getr_E hI
  refine lv_iconst (v := 1) hx hb dX12_kindOf_0 (by decide) ?_
  refine lv_istore_n (lv' := [(2, .int 1), (0, .ref (ad 0)), (1, .int (nI t))]) hx hb dX12_kindOf_1 rfl hl (by decide) rfl (fun ls hl => ?_)
  refine lv_iconst (v := 1) hx hb dX12_kindOf_2 (by decide) ?_
  refine lv_istore_n (lv' := [(3, .int 1), (2, .int 1), (0, .ref (ad 0)), (1, .int (nI t))]) hx hb dX12_kindOf_3 rfl hl (by decide) rfl (fun ls hl => ?_)
  refine lv_iconst (v := 0) hx hb dX12_kindOf_4 (by decide) ?_
  refine lv_istore (lv' := [(4, .int 0), (3, .int 1), (2, .int 1), (0, .ref (ad 0)), (1, .int (nI t))]) hx hb dX12_kindOf_5 hl (by decide) rfl (fun ls hl => ?_)
  have loop_1169 : ∀ (fu j1169 : Nat) (ev1169 : Int32) (sh1169 : Int32)  (ls : Array Slot) (H : Heap) (locs : List Loc), 0 ≤ j1169 → j1169 ≤ wd → wd < j1169 + fu →  (bI ev1169 (evU (fun i => rdF (en 1) (9 * t + i)) wd j1169 0) ∧ bI sh1169 (zoU (fun i => rdF (en 1) (9 * t + i)) wd j1169 0 ∧ suU (fun i => rdF (en 1) (9 * t + i)) wd j1169)) → lv_has ls 9 [(4, .int (nI j1169)), (3, .int sh1169), (2, .int ev1169), (0, .ref (ad 0)), (1, .int (nI t))] → Hp D (Nf sz) (fun _ => True) s.heap H locs cs ad en → W p l e (headSpec (Cond.code yX12_kindOf cX12_kindOf 9 (some .int) :: TB) (rmN 0)).room s m ([.ref (ad 0), .int (nI t)] : List Value).toArray below meth c H locs 0 0 (MQ below (va_Qi (S := Unit) (fun r _ => RKD (fun i => rdF (en 1) (9 * t + i)) (rdI (en 0) 2).toNatClampNeg r) (fun _ _ => True) (Nf sz)) ([.ref (ad 0), .int (nI t)] : List Value).toArray s 0 0 (Nf sz)) (F0 m 7 ls []) := by
    intro fu
    induction fu with
    | zero => intro j1169 ev1169 sh1169 ls H locs h0 h1 h2; exact absurd h2 (by omega)
    | succ fu ih_1169 =>
      intro j1169 ev1169 sh1169 ls H locs hj0_1169 hj_1169 hfu_1169 i0_1169 hl hh
      refine lv_iload hx hb dX12_kindOf_7 (lv_at hl 0 rfl) ?_
      refine lv_aload_n hx hb dX12_kindOf_9 rfl (lv_at hl 3 rfl) ?_
      refine hp_get hx hb hts ix12 hown hK hh (q := 0) rfl (hI.1 _ (by decide)) es1167 rfl 2 (by decide) (hts _ tw_881) (fun _ h9 => h9) rfl dX12_kindOf_10 ?_
      refine lv_icmp_ge (tgt := 152) hx hb dX12_kindOf_13 (by decide) (fun c_1170 => ?_) (fun c_1170 => ?_)
      · have n_1170 : wd ≤ j1169 := n_le (a := wd) (b := j1169) c_1170 (by omega) (by omega)
        refine lv_iload_n hx hb dX12_kindOf_152 rfl (lv_at hl 1 rfl) ?_
        refine lv_if_eq (tgt := 160) hx hb dX12_kindOf_153 (by decide) (fun c_1171 => ?_) (fun c_1171 => ?_)
        · refine lv_iload_n hx hb dX12_kindOf_160 rfl (lv_at hl 2 rfl) ?_
          refine lv_if_eq (tgt := 168) hx hb dX12_kindOf_161 (by decide) (fun c_1172 => ?_) (fun c_1172 => ?_)
          · refine lv_iconst (v := 0) hx hb dX12_kindOf_168 (by decide) ?_
            exact hp_iretR hx hb hr rfl hlocks hsz hh ((by rw [show rdI (en 0) 2 = nI wd from by rw [es1167]; rfl, nI_clamp (n := wd) (by omega)]; have e9 : j1169 = wd := (by omega); rw [e9] at i0_1169; exact Or.inr (Or.inr ⟨rfl, bI_f i0_1169.2 c_1171, bI_f i0_1169.1 c_1172⟩))) dX12_kindOf_169
          · refine lv_iconst (v := 1) hx hb dX12_kindOf_164 (by decide) ?_
            refine lv_goto (tgt := 169) hx hb dX12_kindOf_165 (by decide) ?_
            exact hp_iretR hx hb hr rfl hlocks hsz hh ((by rw [show rdI (en 0) 2 = nI wd from by rw [es1167]; rfl, nI_clamp (n := wd) (by omega)]; have e9 : j1169 = wd := (by omega); rw [e9] at i0_1169; exact Or.inr (Or.inl ⟨rfl, bI_f i0_1169.2 c_1171, bI_t i0_1169.1 c_1172⟩))) dX12_kindOf_169
        · refine lv_iconst (v := 2) hx hb dX12_kindOf_156 (by decide) ?_
          refine lv_goto (tgt := 169) hx hb dX12_kindOf_157 (by decide) ?_
          exact hp_iretR hx hb hr rfl hlocks hsz hh ((by rw [show rdI (en 0) 2 = nI wd from by rw [es1167]; rfl, nI_clamp (n := wd) (by omega)]; have e9 : j1169 = wd := (by omega); rw [e9] at i0_1169; exact Or.inl ⟨rfl, bI_t i0_1169.2 c_1171⟩)) dX12_kindOf_169
      · have n_1170 : j1169 < wd := n_nle (a := wd) (b := j1169) c_1170 (by omega) (by omega)
        refine lv_iconst (v := 0) hx hb dX12_kindOf_16 (by decide) ?_
        refine lv_istore (lv' := [(5, .int 0), (4, .int (nI j1169)), (3, .int sh1169), (2, .int ev1169), (0, .ref (ad 0)), (1, .int (nI t))]) hx hb dX12_kindOf_17 hl (by decide) rfl (fun ls hl => ?_)
        refine lv_iconst (v := 0) hx hb dX12_kindOf_19 (by decide) ?_
        refine lv_istore (lv' := [(6, .int 0), (5, .int 0), (4, .int (nI j1169)), (3, .int sh1169), (2, .int ev1169), (0, .ref (ad 0)), (1, .int (nI t))]) hx hb dX12_kindOf_20 hl (by decide) rfl (fun ls hl => ?_)
        refine lv_iconst (v := 0) hx hb dX12_kindOf_22 (by decide) ?_
        refine lv_istore (lv' := [(7, .int 0), (6, .int 0), (5, .int 0), (4, .int (nI j1169)), (3, .int sh1169), (2, .int ev1169), (0, .ref (ad 0)), (1, .int (nI t))]) hx hb dX12_kindOf_23 hl (by decide) rfl (fun ls hl => ?_)
        have loop_1173 : ∀ (fu j1173 : Nat) (ev1173 : Int32) (sh1173 : Int32) (ir1173 : Int32) (ic1173 : Int32)  (ls : Array Slot) (H : Heap) (locs : List Loc), 0 ≤ j1173 → j1173 ≤ wd → wd < j1173 + fu →  (bI ev1173 (evU (fun i => rdF (en 1) (9 * t + i)) wd j1169 j1173) ∧ bI sh1173 (zoU (fun i => rdF (en 1) (9 * t + i)) wd j1169 j1173 ∧ suU (fun i => rdF (en 1) (9 * t + i)) wd j1169) ∧ ir1173 = sumI (fun z => rdF (en 1) (9 * t + (wd * j1169 + z))) j1173 ∧ ic1173 = sumI (fun z => rdF (en 1) (9 * t + (wd * z + j1169))) j1173) → lv_has ls 9 [(7, .int (nI j1173)), (6, .int ic1173), (5, .int ir1173), (4, .int (nI j1169)), (3, .int sh1173), (2, .int ev1173), (0, .ref (ad 0)), (1, .int (nI t))] → Hp D (Nf sz) (fun _ => True) s.heap H locs cs ad en → W p l e (headSpec (Cond.code yX12_kindOf cX12_kindOf 9 (some .int) :: TB) (rmN 0)).room s m ([.ref (ad 0), .int (nI t)] : List Value).toArray below meth c H locs 0 0 (MQ below (va_Qi (S := Unit) (fun r _ => RKD (fun i => rdF (en 1) (9 * t + i)) (rdI (en 0) 2).toNatClampNeg r) (fun _ _ => True) (Nf sz)) ([.ref (ad 0), .int (nI t)] : List Value).toArray s 0 0 (Nf sz)) (F0 m 25 ls []) := by
          intro fu
          induction fu with
          | zero => intro j1173 ev1173 sh1173 ir1173 ic1173 ls H locs h0 h1 h2; exact absurd h2 (by omega)
          | succ fu ih_1173 =>
            intro j1173 ev1173 sh1173 ir1173 ic1173 ls H locs hj0_1173 hj_1173 hfu_1173 i0_1173 hl hh
            refine lv_iload hx hb dX12_kindOf_25 (lv_at hl 0 rfl) ?_
            refine lv_aload_n hx hb dX12_kindOf_27 rfl (lv_at hl 6 rfl) ?_
            refine hp_get hx hb hts ix12 hown hK hh (q := 0) rfl (hI.1 _ (by decide)) es1167 rfl 2 (by decide) (hts _ tw_881) (fun _ h9 => h9) rfl dX12_kindOf_28 ?_
            refine lv_icmp_ge (tgt := 126) hx hb dX12_kindOf_31 (by decide) (fun c_1174 => ?_) (fun c_1174 => ?_)
            · have n_1174 : wd ≤ j1173 := n_le (a := wd) (b := j1173) c_1174 (by omega) (by omega)
              refine lv_iload_n hx hb dX12_kindOf_126 rfl (lv_at hl 4 rfl) ?_
              refine lv_iload hx hb dX12_kindOf_127 (lv_at hl 2 rfl) ?_
              refine lv_iconst (v := 1) hx hb dX12_kindOf_129 (by decide) ?_
              refine lv_icmp_ne (tgt := 143) hx hb dX12_kindOf_130 (by decide) (fun c_1175 => ?_) (fun c_1175 => ?_)
              · refine lv_iconst (v := 0) hx hb dX12_kindOf_143 (by decide) ?_
                refine lv_iand hx hb dX12_kindOf_144 ?_
                refine lv_istore_n (lv' := [(3, .int (sh1173 &&& 0)), (7, .int (nI j1173)), (6, .int ic1173), (5, .int ir1173), (4, .int (nI j1169)), (2, .int ev1173), (0, .ref (ad 0)), (1, .int (nI t))]) hx hb dX12_kindOf_145 rfl hl (by decide) rfl (fun ls hl => ?_)
                refine lv_iinc (v := (nI (j1169 + 1))) (lv' := [(4, .int (nI (j1169 + 1))), (3, .int (sh1173 &&& 0)), (7, .int (nI j1173)), (6, .int ic1173), (5, .int ir1173), (2, .int ev1173), (0, .ref (ad 0)), (1, .int (nI t))]) hx hb dX12_kindOf_146 hl (k := 4) rfl (nI_1 _) (by decide) rfl (fun ls hl => ?_)
                refine lv_goto (tgt := 7) hx hb dX12_kindOf_149 (by decide) ?_
                exact ih_1169 ((j1169 + 1)) ev1173 (sh1173 &&& 0) ls H locs (by omega) (by omega) (by omega) ((by have e9 : j1173 = wd := (by omega); rw [e9] at i0_1173; exact ⟨evU_o i0_1173.1, shU_o0 i0_1173.2.1 i0_1173.2.2.1 i0_1173.2.2.2 (fun q => c_1175 q.1)⟩)) (lv_sub hl [0, 1, 5, 6, 7] rfl) hh
              · refine lv_iload hx hb dX12_kindOf_133 (lv_at hl 1 rfl) ?_
                refine lv_iconst (v := 1) hx hb dX12_kindOf_135 (by decide) ?_
                refine lv_icmp_ne (tgt := 143) hx hb dX12_kindOf_136 (by decide) (fun c_1176 => ?_) (fun c_1176 => ?_)
                · refine lv_iconst (v := 0) hx hb dX12_kindOf_143 (by decide) ?_
                  refine lv_iand hx hb dX12_kindOf_144 ?_
                  refine lv_istore_n (lv' := [(3, .int (sh1173 &&& 0)), (7, .int (nI j1173)), (6, .int ic1173), (5, .int ir1173), (4, .int (nI j1169)), (2, .int ev1173), (0, .ref (ad 0)), (1, .int (nI t))]) hx hb dX12_kindOf_145 rfl hl (by decide) rfl (fun ls hl => ?_)
                  refine lv_iinc (v := (nI (j1169 + 1))) (lv' := [(4, .int (nI (j1169 + 1))), (3, .int (sh1173 &&& 0)), (7, .int (nI j1173)), (6, .int ic1173), (5, .int ir1173), (2, .int ev1173), (0, .ref (ad 0)), (1, .int (nI t))]) hx hb dX12_kindOf_146 hl (k := 4) rfl (nI_1 _) (by decide) rfl (fun ls hl => ?_)
                  refine lv_goto (tgt := 7) hx hb dX12_kindOf_149 (by decide) ?_
                  exact ih_1169 ((j1169 + 1)) ev1173 (sh1173 &&& 0) ls H locs (by omega) (by omega) (by omega) ((by have e9 : j1173 = wd := (by omega); rw [e9] at i0_1173; exact ⟨evU_o i0_1173.1, shU_o0 i0_1173.2.1 i0_1173.2.2.1 i0_1173.2.2.2 (fun q => c_1176 q.2)⟩)) (lv_sub hl [0, 1, 5, 6, 7] rfl) hh
                · refine lv_iconst (v := 1) hx hb dX12_kindOf_139 (by decide) ?_
                  refine lv_goto (tgt := 144) hx hb dX12_kindOf_140 (by decide) ?_
                  refine lv_iand hx hb dX12_kindOf_144 ?_
                  refine lv_istore_n (lv' := [(3, .int (sh1173 &&& 1)), (7, .int (nI j1173)), (6, .int ic1173), (5, .int ir1173), (4, .int (nI j1169)), (2, .int ev1173), (0, .ref (ad 0)), (1, .int (nI t))]) hx hb dX12_kindOf_145 rfl hl (by decide) rfl (fun ls hl => ?_)
                  refine lv_iinc (v := (nI (j1169 + 1))) (lv' := [(4, .int (nI (j1169 + 1))), (3, .int (sh1173 &&& 1)), (7, .int (nI j1173)), (6, .int ic1173), (5, .int ir1173), (2, .int ev1173), (0, .ref (ad 0)), (1, .int (nI t))]) hx hb dX12_kindOf_146 hl (k := 4) rfl (nI_1 _) (by decide) rfl (fun ls hl => ?_)
                  refine lv_goto (tgt := 7) hx hb dX12_kindOf_149 (by decide) ?_
                  exact ih_1169 ((j1169 + 1)) ev1173 (sh1173 &&& 1) ls H locs (by omega) (by omega) (by omega) ((by have e9 : j1173 = wd := (by omega); rw [e9] at i0_1173; exact ⟨evU_o i0_1173.1, shU_o1 i0_1173.2.1 i0_1173.2.2.1 i0_1173.2.2.2 c_1175 c_1176⟩)) (lv_sub hl [0, 1, 5, 6, 7] rfl) hh
            · have n_1174 : j1173 < wd := n_nle (a := wd) (b := j1173) c_1174 (by omega) (by omega)
              refine lv_aload_n hx hb dX12_kindOf_34 rfl (lv_at hl 6 rfl) ?_
              refine hp_get hx hb hts ix12 hown hK hh (q := 0) rfl (hI.1 _ (by decide)) es1167 rfl 5 (by decide) (hts _ tw_884) (fun _ h9 => h9) rfl dX12_kindOf_35 ?_
              refine lv_bipush (v := 9) hx hb dX12_kindOf_38 (by decide) ?_
              refine lv_iload_n hx hb dX12_kindOf_40 rfl (lv_at hl 7 rfl) ?_
              refine lv_imul hx hb dX12_kindOf_41 ?_
              rw [show (9 : Int32) = nI 9 from rfl, pk_mul 9 t]
              refine lv_aload_n hx hb dX12_kindOf_42 rfl (lv_at hl 6 rfl) ?_
              refine hp_get hx hb hts ix12 hown hK hh (q := 0) rfl (hI.1 _ (by decide)) es1167 rfl 2 (by decide) (hts _ tw_881) (fun _ h9 => h9) rfl dX12_kindOf_43 ?_
              refine lv_iload hx hb dX12_kindOf_46 (lv_at hl 3 rfl) ?_
              refine lv_imul hx hb dX12_kindOf_48 ?_
              rw [pk_mul wd j1169]
              refine lv_iadd hx hb dX12_kindOf_49 ?_
              rw [nI_add (9 * t) (wd * j1169)]
              refine lv_iload hx hb dX12_kindOf_50 (lv_at hl 0 rfl) ?_
              refine lv_iadd hx hb dX12_kindOf_52 ?_
              rw [nI_add ((9 * t) + (wd * j1169)) j1173]
              have hi_1177 : wd * j1169 + j1173 < 9 := mdr (by omega) (by omega) (by omega)
              refine hp_iald hx hb hK hh (q := 1) rfl (hI.1 _ (by decide)) es1168 (vp_in_nI (n := (((9 * t) + (wd * j1169)) + j1173)) (by omega) (by decide)) dX12_kindOf_53 ?_
              rw [nI_clamp (n := (((9 * t) + (wd * j1169)) + j1173)) (by omega)]
              refine lv_istore (lv' := [(8, .int (f_1168 (((9 * t) + (wd * j1169)) + j1173))), (7, .int (nI j1173)), (6, .int ic1173), (5, .int ir1173), (4, .int (nI j1169)), (3, .int sh1173), (2, .int ev1173), (0, .ref (ad 0)), (1, .int (nI t))]) hx hb dX12_kindOf_54 hl (by decide) rfl (fun ls hl => ?_)
              refine lv_iload_n hx hb dX12_kindOf_56 rfl (lv_at hl 6 rfl) ?_
              refine lv_iload hx hb dX12_kindOf_57 (lv_at hl 0 rfl) ?_
              refine lv_if_lt (tgt := 66) hx hb dX12_kindOf_59 (by decide) (fun c_1178 => ?_) (fun c_1178 => ?_)
              · refine lv_iconst (v := 0) hx hb dX12_kindOf_66 (by decide) ?_
                refine lv_iand hx hb dX12_kindOf_67 ?_
                refine lv_istore_n (lv' := [(2, .int (ev1173 &&& 0)), (8, .int (f_1168 (((9 * t) + (wd * j1169)) + j1173))), (7, .int (nI j1173)), (6, .int ic1173), (5, .int ir1173), (4, .int (nI j1169)), (3, .int sh1173), (0, .ref (ad 0)), (1, .int (nI t))]) hx hb dX12_kindOf_68 rfl hl (by decide) rfl (fun ls hl => ?_)
                refine lv_iload_n hx hb dX12_kindOf_69 rfl (lv_at hl 6 rfl) ?_
                refine lv_iload hx hb dX12_kindOf_70 (lv_at hl 1 rfl) ?_
                refine lv_if_eq (tgt := 81) hx hb dX12_kindOf_72 (by decide) (fun c_1179 => ?_) (fun c_1179 => ?_)
                · refine lv_iconst (v := 1) hx hb dX12_kindOf_81 (by decide) ?_
                  refine lv_goto (tgt := 86) hx hb dX12_kindOf_82 (by decide) ?_
                  refine lv_iand hx hb dX12_kindOf_86 ?_
                  refine lv_istore_n (lv' := [(3, .int (sh1173 &&& 1)), (2, .int (ev1173 &&& 0)), (8, .int (f_1168 (((9 * t) + (wd * j1169)) + j1173))), (7, .int (nI j1173)), (6, .int ic1173), (5, .int ir1173), (4, .int (nI j1169)), (0, .ref (ad 0)), (1, .int (nI t))]) hx hb dX12_kindOf_87 rfl hl (by decide) rfl (fun ls hl => ?_)
                  refine lv_iload hx hb dX12_kindOf_88 (lv_at hl 5 rfl) ?_
                  refine lv_iload hx hb dX12_kindOf_90 (lv_at hl 2 rfl) ?_
                  refine lv_iadd hx hb dX12_kindOf_92 ?_
                  refine lv_istore (lv' := [(5, .int (ir1173 + (f_1168 (((9 * t) + (wd * j1169)) + j1173)))), (3, .int (sh1173 &&& 1)), (2, .int (ev1173 &&& 0)), (8, .int (f_1168 (((9 * t) + (wd * j1169)) + j1173))), (7, .int (nI j1173)), (6, .int ic1173), (4, .int (nI j1169)), (0, .ref (ad 0)), (1, .int (nI t))]) hx hb dX12_kindOf_93 hl (by decide) rfl (fun ls hl => ?_)
                  refine lv_iload hx hb dX12_kindOf_95 (lv_at hl 5 rfl) ?_
                  refine lv_aload_n hx hb dX12_kindOf_97 rfl (lv_at hl 7 rfl) ?_
                  refine hp_get hx hb hts ix12 hown hK hh (q := 0) rfl (hI.1 _ (by decide)) es1167 rfl 5 (by decide) (hts _ tw_884) (fun _ h9 => h9) rfl dX12_kindOf_98 ?_
                  refine lv_bipush (v := 9) hx hb dX12_kindOf_101 (by decide) ?_
                  refine lv_iload_n hx hb dX12_kindOf_103 rfl (lv_at hl 8 rfl) ?_
                  refine lv_imul hx hb dX12_kindOf_104 ?_
                  rw [show (9 : Int32) = nI 9 from rfl, pk_mul 9 t]
                  refine lv_aload_n hx hb dX12_kindOf_105 rfl (lv_at hl 7 rfl) ?_
                  refine hp_get hx hb hts ix12 hown hK hh (q := 0) rfl (hI.1 _ (by decide)) es1167 rfl 2 (by decide) (hts _ tw_881) (fun _ h9 => h9) rfl dX12_kindOf_106 ?_
                  refine lv_iload hx hb dX12_kindOf_109 (lv_at hl 4 rfl) ?_
                  refine lv_imul hx hb dX12_kindOf_111 ?_
                  rw [pk_mul wd j1173]
                  refine lv_iadd hx hb dX12_kindOf_112 ?_
                  rw [nI_add (9 * t) (wd * j1173)]
                  refine lv_iload hx hb dX12_kindOf_113 (lv_at hl 6 rfl) ?_
                  refine lv_iadd hx hb dX12_kindOf_115 ?_
                  rw [nI_add ((9 * t) + (wd * j1173)) j1169]
                  have hi_1180 : wd * j1173 + j1169 < 9 := mdr (by omega) (by omega) (by omega)
                  refine hp_iald hx hb hK hh (q := 1) rfl (hI.1 _ (by decide)) es1168 (vp_in_nI (n := (((9 * t) + (wd * j1173)) + j1169)) (by omega) (by decide)) dX12_kindOf_116 ?_
                  rw [nI_clamp (n := (((9 * t) + (wd * j1173)) + j1169)) (by omega)]
                  refine lv_iadd hx hb dX12_kindOf_117 ?_
                  refine lv_istore (lv' := [(6, .int (ic1173 + (f_1168 (((9 * t) + (wd * j1173)) + j1169)))), (5, .int (ir1173 + (f_1168 (((9 * t) + (wd * j1169)) + j1173)))), (3, .int (sh1173 &&& 1)), (2, .int (ev1173 &&& 0)), (8, .int (f_1168 (((9 * t) + (wd * j1169)) + j1173))), (7, .int (nI j1173)), (4, .int (nI j1169)), (0, .ref (ad 0)), (1, .int (nI t))]) hx hb dX12_kindOf_118 hl (by decide) rfl (fun ls hl => ?_)
                  refine lv_iinc (v := (nI (j1173 + 1))) (lv' := [(7, .int (nI (j1173 + 1))), (6, .int (ic1173 + (f_1168 (((9 * t) + (wd * j1173)) + j1169)))), (5, .int (ir1173 + (f_1168 (((9 * t) + (wd * j1169)) + j1173)))), (3, .int (sh1173 &&& 1)), (2, .int (ev1173 &&& 0)), (8, .int (f_1168 (((9 * t) + (wd * j1169)) + j1173))), (4, .int (nI j1169)), (0, .ref (ad 0)), (1, .int (nI t))]) hx hb dX12_kindOf_120 hl (k := 5) rfl (nI_1 _) (by decide) rfl (fun ls hl => ?_)
                  refine lv_goto (tgt := 25) hx hb dX12_kindOf_123 (by decide) ?_
                  exact ih_1173 ((j1173 + 1)) (ev1173 &&& 0) (sh1173 &&& 1) (ir1173 + (f_1168 (((9 * t) + (wd * j1169)) + j1173))) (ic1173 + (f_1168 (((9 * t) + (wd * j1173)) + j1169))) ls H locs (by omega) (by omega) (by omega) (⟨evU_n (show rdF (en 1) (9 * t + (wd * j1169 + j1173)) = f_1168 (9 * t + wd * j1169 + j1173) from by rw [show rdF (en 1) = f_1168 from by rw [es1168]; rfl, Nat.add_assoc]) i0_1173.1 (by omega) c_1178, shU_s (show rdF (en 1) (9 * t + (wd * j1169 + j1173)) = f_1168 (9 * t + wd * j1169 + j1173) from by rw [show rdF (en 1) = f_1168 from by rw [es1168]; rfl, Nat.add_assoc]) i0_1173.2.1 (Or.inl c_1179), (by rw [i0_1173.2.2.1, ← (show rdF (en 1) (9 * t + (wd * j1169 + j1173)) = f_1168 (9 * t + wd * j1169 + j1173) from by rw [show rdF (en 1) = f_1168 from by rw [es1168]; rfl, Nat.add_assoc])]; rfl), (by rw [i0_1173.2.2.2, ← (show rdF (en 1) (9 * t + (wd * j1173 + j1169)) = f_1168 (9 * t + wd * j1173 + j1169) from by rw [show rdF (en 1) = f_1168 from by rw [es1168]; rfl, Nat.add_assoc])]; rfl)⟩) (lv_sub hl [0, 1, 2, 6, 3, 4, 7, 8] rfl) hh
                · refine lv_iload hx hb dX12_kindOf_75 (lv_at hl 1 rfl) ?_
                  refine lv_iconst (v := 1) hx hb dX12_kindOf_77 (by decide) ?_
                  refine lv_icmp_ne (tgt := 85) hx hb dX12_kindOf_78 (by decide) (fun c_1181 => ?_) (fun c_1181 => ?_)
                  · refine lv_iconst (v := 0) hx hb dX12_kindOf_85 (by decide) ?_
                    refine lv_iand hx hb dX12_kindOf_86 ?_
                    refine lv_istore_n (lv' := [(3, .int (sh1173 &&& 0)), (2, .int (ev1173 &&& 0)), (8, .int (f_1168 (((9 * t) + (wd * j1169)) + j1173))), (7, .int (nI j1173)), (6, .int ic1173), (5, .int ir1173), (4, .int (nI j1169)), (0, .ref (ad 0)), (1, .int (nI t))]) hx hb dX12_kindOf_87 rfl hl (by decide) rfl (fun ls hl => ?_)
                    refine lv_iload hx hb dX12_kindOf_88 (lv_at hl 5 rfl) ?_
                    refine lv_iload hx hb dX12_kindOf_90 (lv_at hl 2 rfl) ?_
                    refine lv_iadd hx hb dX12_kindOf_92 ?_
                    refine lv_istore (lv' := [(5, .int (ir1173 + (f_1168 (((9 * t) + (wd * j1169)) + j1173)))), (3, .int (sh1173 &&& 0)), (2, .int (ev1173 &&& 0)), (8, .int (f_1168 (((9 * t) + (wd * j1169)) + j1173))), (7, .int (nI j1173)), (6, .int ic1173), (4, .int (nI j1169)), (0, .ref (ad 0)), (1, .int (nI t))]) hx hb dX12_kindOf_93 hl (by decide) rfl (fun ls hl => ?_)
                    refine lv_iload hx hb dX12_kindOf_95 (lv_at hl 5 rfl) ?_
                    refine lv_aload_n hx hb dX12_kindOf_97 rfl (lv_at hl 7 rfl) ?_
                    refine hp_get hx hb hts ix12 hown hK hh (q := 0) rfl (hI.1 _ (by decide)) es1167 rfl 5 (by decide) (hts _ tw_884) (fun _ h9 => h9) rfl dX12_kindOf_98 ?_
                    refine lv_bipush (v := 9) hx hb dX12_kindOf_101 (by decide) ?_
                    refine lv_iload_n hx hb dX12_kindOf_103 rfl (lv_at hl 8 rfl) ?_
                    refine lv_imul hx hb dX12_kindOf_104 ?_
                    rw [show (9 : Int32) = nI 9 from rfl, pk_mul 9 t]
                    refine lv_aload_n hx hb dX12_kindOf_105 rfl (lv_at hl 7 rfl) ?_
                    refine hp_get hx hb hts ix12 hown hK hh (q := 0) rfl (hI.1 _ (by decide)) es1167 rfl 2 (by decide) (hts _ tw_881) (fun _ h9 => h9) rfl dX12_kindOf_106 ?_
                    refine lv_iload hx hb dX12_kindOf_109 (lv_at hl 4 rfl) ?_
                    refine lv_imul hx hb dX12_kindOf_111 ?_
                    rw [pk_mul wd j1173]
                    refine lv_iadd hx hb dX12_kindOf_112 ?_
                    rw [nI_add (9 * t) (wd * j1173)]
                    refine lv_iload hx hb dX12_kindOf_113 (lv_at hl 6 rfl) ?_
                    refine lv_iadd hx hb dX12_kindOf_115 ?_
                    rw [nI_add ((9 * t) + (wd * j1173)) j1169]
                    have hi_1182 : wd * j1173 + j1169 < 9 := mdr (by omega) (by omega) (by omega)
                    refine hp_iald hx hb hK hh (q := 1) rfl (hI.1 _ (by decide)) es1168 (vp_in_nI (n := (((9 * t) + (wd * j1173)) + j1169)) (by omega) (by decide)) dX12_kindOf_116 ?_
                    rw [nI_clamp (n := (((9 * t) + (wd * j1173)) + j1169)) (by omega)]
                    refine lv_iadd hx hb dX12_kindOf_117 ?_
                    refine lv_istore (lv' := [(6, .int (ic1173 + (f_1168 (((9 * t) + (wd * j1173)) + j1169)))), (5, .int (ir1173 + (f_1168 (((9 * t) + (wd * j1169)) + j1173)))), (3, .int (sh1173 &&& 0)), (2, .int (ev1173 &&& 0)), (8, .int (f_1168 (((9 * t) + (wd * j1169)) + j1173))), (7, .int (nI j1173)), (4, .int (nI j1169)), (0, .ref (ad 0)), (1, .int (nI t))]) hx hb dX12_kindOf_118 hl (by decide) rfl (fun ls hl => ?_)
                    refine lv_iinc (v := (nI (j1173 + 1))) (lv' := [(7, .int (nI (j1173 + 1))), (6, .int (ic1173 + (f_1168 (((9 * t) + (wd * j1173)) + j1169)))), (5, .int (ir1173 + (f_1168 (((9 * t) + (wd * j1169)) + j1173)))), (3, .int (sh1173 &&& 0)), (2, .int (ev1173 &&& 0)), (8, .int (f_1168 (((9 * t) + (wd * j1169)) + j1173))), (4, .int (nI j1169)), (0, .ref (ad 0)), (1, .int (nI t))]) hx hb dX12_kindOf_120 hl (k := 5) rfl (nI_1 _) (by decide) rfl (fun ls hl => ?_)
                    refine lv_goto (tgt := 25) hx hb dX12_kindOf_123 (by decide) ?_
                    exact ih_1173 ((j1173 + 1)) (ev1173 &&& 0) (sh1173 &&& 0) (ir1173 + (f_1168 (((9 * t) + (wd * j1169)) + j1173))) (ic1173 + (f_1168 (((9 * t) + (wd * j1173)) + j1169))) ls H locs (by omega) (by omega) (by omega) (⟨evU_n (show rdF (en 1) (9 * t + (wd * j1169 + j1173)) = f_1168 (9 * t + wd * j1169 + j1173) from by rw [show rdF (en 1) = f_1168 from by rw [es1168]; rfl, Nat.add_assoc]) i0_1173.1 (by omega) c_1178, shU_n (show rdF (en 1) (9 * t + (wd * j1169 + j1173)) = f_1168 (9 * t + wd * j1169 + j1173) from by rw [show rdF (en 1) = f_1168 from by rw [es1168]; rfl, Nat.add_assoc]) i0_1173.2.1 (by omega) c_1179 c_1181, (by rw [i0_1173.2.2.1, ← (show rdF (en 1) (9 * t + (wd * j1169 + j1173)) = f_1168 (9 * t + wd * j1169 + j1173) from by rw [show rdF (en 1) = f_1168 from by rw [es1168]; rfl, Nat.add_assoc])]; rfl), (by rw [i0_1173.2.2.2, ← (show rdF (en 1) (9 * t + (wd * j1173 + j1169)) = f_1168 (9 * t + wd * j1173 + j1169) from by rw [show rdF (en 1) = f_1168 from by rw [es1168]; rfl, Nat.add_assoc])]; rfl)⟩) (lv_sub hl [0, 1, 2, 6, 3, 4, 7, 8] rfl) hh
                  · refine lv_iconst (v := 1) hx hb dX12_kindOf_81 (by decide) ?_
                    refine lv_goto (tgt := 86) hx hb dX12_kindOf_82 (by decide) ?_
                    refine lv_iand hx hb dX12_kindOf_86 ?_
                    refine lv_istore_n (lv' := [(3, .int (sh1173 &&& 1)), (2, .int (ev1173 &&& 0)), (8, .int (f_1168 (((9 * t) + (wd * j1169)) + j1173))), (7, .int (nI j1173)), (6, .int ic1173), (5, .int ir1173), (4, .int (nI j1169)), (0, .ref (ad 0)), (1, .int (nI t))]) hx hb dX12_kindOf_87 rfl hl (by decide) rfl (fun ls hl => ?_)
                    refine lv_iload hx hb dX12_kindOf_88 (lv_at hl 5 rfl) ?_
                    refine lv_iload hx hb dX12_kindOf_90 (lv_at hl 2 rfl) ?_
                    refine lv_iadd hx hb dX12_kindOf_92 ?_
                    refine lv_istore (lv' := [(5, .int (ir1173 + (f_1168 (((9 * t) + (wd * j1169)) + j1173)))), (3, .int (sh1173 &&& 1)), (2, .int (ev1173 &&& 0)), (8, .int (f_1168 (((9 * t) + (wd * j1169)) + j1173))), (7, .int (nI j1173)), (6, .int ic1173), (4, .int (nI j1169)), (0, .ref (ad 0)), (1, .int (nI t))]) hx hb dX12_kindOf_93 hl (by decide) rfl (fun ls hl => ?_)
                    refine lv_iload hx hb dX12_kindOf_95 (lv_at hl 5 rfl) ?_
                    refine lv_aload_n hx hb dX12_kindOf_97 rfl (lv_at hl 7 rfl) ?_
                    refine hp_get hx hb hts ix12 hown hK hh (q := 0) rfl (hI.1 _ (by decide)) es1167 rfl 5 (by decide) (hts _ tw_884) (fun _ h9 => h9) rfl dX12_kindOf_98 ?_
                    refine lv_bipush (v := 9) hx hb dX12_kindOf_101 (by decide) ?_
                    refine lv_iload_n hx hb dX12_kindOf_103 rfl (lv_at hl 8 rfl) ?_
                    refine lv_imul hx hb dX12_kindOf_104 ?_
                    rw [show (9 : Int32) = nI 9 from rfl, pk_mul 9 t]
                    refine lv_aload_n hx hb dX12_kindOf_105 rfl (lv_at hl 7 rfl) ?_
                    refine hp_get hx hb hts ix12 hown hK hh (q := 0) rfl (hI.1 _ (by decide)) es1167 rfl 2 (by decide) (hts _ tw_881) (fun _ h9 => h9) rfl dX12_kindOf_106 ?_
                    refine lv_iload hx hb dX12_kindOf_109 (lv_at hl 4 rfl) ?_
                    refine lv_imul hx hb dX12_kindOf_111 ?_
                    rw [pk_mul wd j1173]
                    refine lv_iadd hx hb dX12_kindOf_112 ?_
                    rw [nI_add (9 * t) (wd * j1173)]
                    refine lv_iload hx hb dX12_kindOf_113 (lv_at hl 6 rfl) ?_
                    refine lv_iadd hx hb dX12_kindOf_115 ?_
                    rw [nI_add ((9 * t) + (wd * j1173)) j1169]
                    have hi_1183 : wd * j1173 + j1169 < 9 := mdr (by omega) (by omega) (by omega)
                    refine hp_iald hx hb hK hh (q := 1) rfl (hI.1 _ (by decide)) es1168 (vp_in_nI (n := (((9 * t) + (wd * j1173)) + j1169)) (by omega) (by decide)) dX12_kindOf_116 ?_
                    rw [nI_clamp (n := (((9 * t) + (wd * j1173)) + j1169)) (by omega)]
                    refine lv_iadd hx hb dX12_kindOf_117 ?_
                    refine lv_istore (lv' := [(6, .int (ic1173 + (f_1168 (((9 * t) + (wd * j1173)) + j1169)))), (5, .int (ir1173 + (f_1168 (((9 * t) + (wd * j1169)) + j1173)))), (3, .int (sh1173 &&& 1)), (2, .int (ev1173 &&& 0)), (8, .int (f_1168 (((9 * t) + (wd * j1169)) + j1173))), (7, .int (nI j1173)), (4, .int (nI j1169)), (0, .ref (ad 0)), (1, .int (nI t))]) hx hb dX12_kindOf_118 hl (by decide) rfl (fun ls hl => ?_)
                    refine lv_iinc (v := (nI (j1173 + 1))) (lv' := [(7, .int (nI (j1173 + 1))), (6, .int (ic1173 + (f_1168 (((9 * t) + (wd * j1173)) + j1169)))), (5, .int (ir1173 + (f_1168 (((9 * t) + (wd * j1169)) + j1173)))), (3, .int (sh1173 &&& 1)), (2, .int (ev1173 &&& 0)), (8, .int (f_1168 (((9 * t) + (wd * j1169)) + j1173))), (4, .int (nI j1169)), (0, .ref (ad 0)), (1, .int (nI t))]) hx hb dX12_kindOf_120 hl (k := 5) rfl (nI_1 _) (by decide) rfl (fun ls hl => ?_)
                    refine lv_goto (tgt := 25) hx hb dX12_kindOf_123 (by decide) ?_
                    exact ih_1173 ((j1173 + 1)) (ev1173 &&& 0) (sh1173 &&& 1) (ir1173 + (f_1168 (((9 * t) + (wd * j1169)) + j1173))) (ic1173 + (f_1168 (((9 * t) + (wd * j1173)) + j1169))) ls H locs (by omega) (by omega) (by omega) (⟨evU_n (show rdF (en 1) (9 * t + (wd * j1169 + j1173)) = f_1168 (9 * t + wd * j1169 + j1173) from by rw [show rdF (en 1) = f_1168 from by rw [es1168]; rfl, Nat.add_assoc]) i0_1173.1 (by omega) c_1178, shU_s (show rdF (en 1) (9 * t + (wd * j1169 + j1173)) = f_1168 (9 * t + wd * j1169 + j1173) from by rw [show rdF (en 1) = f_1168 from by rw [es1168]; rfl, Nat.add_assoc]) i0_1173.2.1 (Or.inr c_1181), (by rw [i0_1173.2.2.1, ← (show rdF (en 1) (9 * t + (wd * j1169 + j1173)) = f_1168 (9 * t + wd * j1169 + j1173) from by rw [show rdF (en 1) = f_1168 from by rw [es1168]; rfl, Nat.add_assoc])]; rfl), (by rw [i0_1173.2.2.2, ← (show rdF (en 1) (9 * t + (wd * j1173 + j1169)) = f_1168 (9 * t + wd * j1173 + j1169) from by rw [show rdF (en 1) = f_1168 from by rw [es1168]; rfl, Nat.add_assoc])]; rfl)⟩) (lv_sub hl [0, 1, 2, 6, 3, 4, 7, 8] rfl) hh
              · refine lv_iconst (v := 1) hx hb dX12_kindOf_62 (by decide) ?_
                refine lv_goto (tgt := 67) hx hb dX12_kindOf_63 (by decide) ?_
                refine lv_iand hx hb dX12_kindOf_67 ?_
                refine lv_istore_n (lv' := [(2, .int (ev1173 &&& 1)), (8, .int (f_1168 (((9 * t) + (wd * j1169)) + j1173))), (7, .int (nI j1173)), (6, .int ic1173), (5, .int ir1173), (4, .int (nI j1169)), (3, .int sh1173), (0, .ref (ad 0)), (1, .int (nI t))]) hx hb dX12_kindOf_68 rfl hl (by decide) rfl (fun ls hl => ?_)
                refine lv_iload_n hx hb dX12_kindOf_69 rfl (lv_at hl 6 rfl) ?_
                refine lv_iload hx hb dX12_kindOf_70 (lv_at hl 1 rfl) ?_
                refine lv_if_eq (tgt := 81) hx hb dX12_kindOf_72 (by decide) (fun c_1184 => ?_) (fun c_1184 => ?_)
                · refine lv_iconst (v := 1) hx hb dX12_kindOf_81 (by decide) ?_
                  refine lv_goto (tgt := 86) hx hb dX12_kindOf_82 (by decide) ?_
                  refine lv_iand hx hb dX12_kindOf_86 ?_
                  refine lv_istore_n (lv' := [(3, .int (sh1173 &&& 1)), (2, .int (ev1173 &&& 1)), (8, .int (f_1168 (((9 * t) + (wd * j1169)) + j1173))), (7, .int (nI j1173)), (6, .int ic1173), (5, .int ir1173), (4, .int (nI j1169)), (0, .ref (ad 0)), (1, .int (nI t))]) hx hb dX12_kindOf_87 rfl hl (by decide) rfl (fun ls hl => ?_)
                  refine lv_iload hx hb dX12_kindOf_88 (lv_at hl 5 rfl) ?_
                  refine lv_iload hx hb dX12_kindOf_90 (lv_at hl 2 rfl) ?_
                  refine lv_iadd hx hb dX12_kindOf_92 ?_
                  refine lv_istore (lv' := [(5, .int (ir1173 + (f_1168 (((9 * t) + (wd * j1169)) + j1173)))), (3, .int (sh1173 &&& 1)), (2, .int (ev1173 &&& 1)), (8, .int (f_1168 (((9 * t) + (wd * j1169)) + j1173))), (7, .int (nI j1173)), (6, .int ic1173), (4, .int (nI j1169)), (0, .ref (ad 0)), (1, .int (nI t))]) hx hb dX12_kindOf_93 hl (by decide) rfl (fun ls hl => ?_)
                  refine lv_iload hx hb dX12_kindOf_95 (lv_at hl 5 rfl) ?_
                  refine lv_aload_n hx hb dX12_kindOf_97 rfl (lv_at hl 7 rfl) ?_
                  refine hp_get hx hb hts ix12 hown hK hh (q := 0) rfl (hI.1 _ (by decide)) es1167 rfl 5 (by decide) (hts _ tw_884) (fun _ h9 => h9) rfl dX12_kindOf_98 ?_
                  refine lv_bipush (v := 9) hx hb dX12_kindOf_101 (by decide) ?_
                  refine lv_iload_n hx hb dX12_kindOf_103 rfl (lv_at hl 8 rfl) ?_
                  refine lv_imul hx hb dX12_kindOf_104 ?_
                  rw [show (9 : Int32) = nI 9 from rfl, pk_mul 9 t]
                  refine lv_aload_n hx hb dX12_kindOf_105 rfl (lv_at hl 7 rfl) ?_
                  refine hp_get hx hb hts ix12 hown hK hh (q := 0) rfl (hI.1 _ (by decide)) es1167 rfl 2 (by decide) (hts _ tw_881) (fun _ h9 => h9) rfl dX12_kindOf_106 ?_
                  refine lv_iload hx hb dX12_kindOf_109 (lv_at hl 4 rfl) ?_
                  refine lv_imul hx hb dX12_kindOf_111 ?_
                  rw [pk_mul wd j1173]
                  refine lv_iadd hx hb dX12_kindOf_112 ?_
                  rw [nI_add (9 * t) (wd * j1173)]
                  refine lv_iload hx hb dX12_kindOf_113 (lv_at hl 6 rfl) ?_
                  refine lv_iadd hx hb dX12_kindOf_115 ?_
                  rw [nI_add ((9 * t) + (wd * j1173)) j1169]
                  have hi_1185 : wd * j1173 + j1169 < 9 := mdr (by omega) (by omega) (by omega)
                  refine hp_iald hx hb hK hh (q := 1) rfl (hI.1 _ (by decide)) es1168 (vp_in_nI (n := (((9 * t) + (wd * j1173)) + j1169)) (by omega) (by decide)) dX12_kindOf_116 ?_
                  rw [nI_clamp (n := (((9 * t) + (wd * j1173)) + j1169)) (by omega)]
                  refine lv_iadd hx hb dX12_kindOf_117 ?_
                  refine lv_istore (lv' := [(6, .int (ic1173 + (f_1168 (((9 * t) + (wd * j1173)) + j1169)))), (5, .int (ir1173 + (f_1168 (((9 * t) + (wd * j1169)) + j1173)))), (3, .int (sh1173 &&& 1)), (2, .int (ev1173 &&& 1)), (8, .int (f_1168 (((9 * t) + (wd * j1169)) + j1173))), (7, .int (nI j1173)), (4, .int (nI j1169)), (0, .ref (ad 0)), (1, .int (nI t))]) hx hb dX12_kindOf_118 hl (by decide) rfl (fun ls hl => ?_)
                  refine lv_iinc (v := (nI (j1173 + 1))) (lv' := [(7, .int (nI (j1173 + 1))), (6, .int (ic1173 + (f_1168 (((9 * t) + (wd * j1173)) + j1169)))), (5, .int (ir1173 + (f_1168 (((9 * t) + (wd * j1169)) + j1173)))), (3, .int (sh1173 &&& 1)), (2, .int (ev1173 &&& 1)), (8, .int (f_1168 (((9 * t) + (wd * j1169)) + j1173))), (4, .int (nI j1169)), (0, .ref (ad 0)), (1, .int (nI t))]) hx hb dX12_kindOf_120 hl (k := 5) rfl (nI_1 _) (by decide) rfl (fun ls hl => ?_)
                  refine lv_goto (tgt := 25) hx hb dX12_kindOf_123 (by decide) ?_
                  exact ih_1173 ((j1173 + 1)) (ev1173 &&& 1) (sh1173 &&& 1) (ir1173 + (f_1168 (((9 * t) + (wd * j1169)) + j1173))) (ic1173 + (f_1168 (((9 * t) + (wd * j1173)) + j1169))) ls H locs (by omega) (by omega) (by omega) (⟨evU_s (show rdF (en 1) (9 * t + (wd * j1169 + j1173)) = f_1168 (9 * t + wd * j1169 + j1173) from by rw [show rdF (en 1) = f_1168 from by rw [es1168]; rfl, Nat.add_assoc]) i0_1173.1 c_1178, shU_s (show rdF (en 1) (9 * t + (wd * j1169 + j1173)) = f_1168 (9 * t + wd * j1169 + j1173) from by rw [show rdF (en 1) = f_1168 from by rw [es1168]; rfl, Nat.add_assoc]) i0_1173.2.1 (Or.inl c_1184), (by rw [i0_1173.2.2.1, ← (show rdF (en 1) (9 * t + (wd * j1169 + j1173)) = f_1168 (9 * t + wd * j1169 + j1173) from by rw [show rdF (en 1) = f_1168 from by rw [es1168]; rfl, Nat.add_assoc])]; rfl), (by rw [i0_1173.2.2.2, ← (show rdF (en 1) (9 * t + (wd * j1173 + j1169)) = f_1168 (9 * t + wd * j1173 + j1169) from by rw [show rdF (en 1) = f_1168 from by rw [es1168]; rfl, Nat.add_assoc])]; rfl)⟩) (lv_sub hl [0, 1, 2, 6, 3, 4, 7, 8] rfl) hh
                · refine lv_iload hx hb dX12_kindOf_75 (lv_at hl 1 rfl) ?_
                  refine lv_iconst (v := 1) hx hb dX12_kindOf_77 (by decide) ?_
                  refine lv_icmp_ne (tgt := 85) hx hb dX12_kindOf_78 (by decide) (fun c_1186 => ?_) (fun c_1186 => ?_)
                  · refine lv_iconst (v := 0) hx hb dX12_kindOf_85 (by decide) ?_
                    refine lv_iand hx hb dX12_kindOf_86 ?_
                    refine lv_istore_n (lv' := [(3, .int (sh1173 &&& 0)), (2, .int (ev1173 &&& 1)), (8, .int (f_1168 (((9 * t) + (wd * j1169)) + j1173))), (7, .int (nI j1173)), (6, .int ic1173), (5, .int ir1173), (4, .int (nI j1169)), (0, .ref (ad 0)), (1, .int (nI t))]) hx hb dX12_kindOf_87 rfl hl (by decide) rfl (fun ls hl => ?_)
                    refine lv_iload hx hb dX12_kindOf_88 (lv_at hl 5 rfl) ?_
                    refine lv_iload hx hb dX12_kindOf_90 (lv_at hl 2 rfl) ?_
                    refine lv_iadd hx hb dX12_kindOf_92 ?_
                    refine lv_istore (lv' := [(5, .int (ir1173 + (f_1168 (((9 * t) + (wd * j1169)) + j1173)))), (3, .int (sh1173 &&& 0)), (2, .int (ev1173 &&& 1)), (8, .int (f_1168 (((9 * t) + (wd * j1169)) + j1173))), (7, .int (nI j1173)), (6, .int ic1173), (4, .int (nI j1169)), (0, .ref (ad 0)), (1, .int (nI t))]) hx hb dX12_kindOf_93 hl (by decide) rfl (fun ls hl => ?_)
                    refine lv_iload hx hb dX12_kindOf_95 (lv_at hl 5 rfl) ?_
                    refine lv_aload_n hx hb dX12_kindOf_97 rfl (lv_at hl 7 rfl) ?_
                    refine hp_get hx hb hts ix12 hown hK hh (q := 0) rfl (hI.1 _ (by decide)) es1167 rfl 5 (by decide) (hts _ tw_884) (fun _ h9 => h9) rfl dX12_kindOf_98 ?_
                    refine lv_bipush (v := 9) hx hb dX12_kindOf_101 (by decide) ?_
                    refine lv_iload_n hx hb dX12_kindOf_103 rfl (lv_at hl 8 rfl) ?_
                    refine lv_imul hx hb dX12_kindOf_104 ?_
                    rw [show (9 : Int32) = nI 9 from rfl, pk_mul 9 t]
                    refine lv_aload_n hx hb dX12_kindOf_105 rfl (lv_at hl 7 rfl) ?_
                    refine hp_get hx hb hts ix12 hown hK hh (q := 0) rfl (hI.1 _ (by decide)) es1167 rfl 2 (by decide) (hts _ tw_881) (fun _ h9 => h9) rfl dX12_kindOf_106 ?_
                    refine lv_iload hx hb dX12_kindOf_109 (lv_at hl 4 rfl) ?_
                    refine lv_imul hx hb dX12_kindOf_111 ?_
                    rw [pk_mul wd j1173]
                    refine lv_iadd hx hb dX12_kindOf_112 ?_
                    rw [nI_add (9 * t) (wd * j1173)]
                    refine lv_iload hx hb dX12_kindOf_113 (lv_at hl 6 rfl) ?_
                    refine lv_iadd hx hb dX12_kindOf_115 ?_
                    rw [nI_add ((9 * t) + (wd * j1173)) j1169]
                    have hi_1187 : wd * j1173 + j1169 < 9 := mdr (by omega) (by omega) (by omega)
                    refine hp_iald hx hb hK hh (q := 1) rfl (hI.1 _ (by decide)) es1168 (vp_in_nI (n := (((9 * t) + (wd * j1173)) + j1169)) (by omega) (by decide)) dX12_kindOf_116 ?_
                    rw [nI_clamp (n := (((9 * t) + (wd * j1173)) + j1169)) (by omega)]
                    refine lv_iadd hx hb dX12_kindOf_117 ?_
                    refine lv_istore (lv' := [(6, .int (ic1173 + (f_1168 (((9 * t) + (wd * j1173)) + j1169)))), (5, .int (ir1173 + (f_1168 (((9 * t) + (wd * j1169)) + j1173)))), (3, .int (sh1173 &&& 0)), (2, .int (ev1173 &&& 1)), (8, .int (f_1168 (((9 * t) + (wd * j1169)) + j1173))), (7, .int (nI j1173)), (4, .int (nI j1169)), (0, .ref (ad 0)), (1, .int (nI t))]) hx hb dX12_kindOf_118 hl (by decide) rfl (fun ls hl => ?_)
                    refine lv_iinc (v := (nI (j1173 + 1))) (lv' := [(7, .int (nI (j1173 + 1))), (6, .int (ic1173 + (f_1168 (((9 * t) + (wd * j1173)) + j1169)))), (5, .int (ir1173 + (f_1168 (((9 * t) + (wd * j1169)) + j1173)))), (3, .int (sh1173 &&& 0)), (2, .int (ev1173 &&& 1)), (8, .int (f_1168 (((9 * t) + (wd * j1169)) + j1173))), (4, .int (nI j1169)), (0, .ref (ad 0)), (1, .int (nI t))]) hx hb dX12_kindOf_120 hl (k := 5) rfl (nI_1 _) (by decide) rfl (fun ls hl => ?_)
                    refine lv_goto (tgt := 25) hx hb dX12_kindOf_123 (by decide) ?_
                    exact ih_1173 ((j1173 + 1)) (ev1173 &&& 1) (sh1173 &&& 0) (ir1173 + (f_1168 (((9 * t) + (wd * j1169)) + j1173))) (ic1173 + (f_1168 (((9 * t) + (wd * j1173)) + j1169))) ls H locs (by omega) (by omega) (by omega) (⟨evU_s (show rdF (en 1) (9 * t + (wd * j1169 + j1173)) = f_1168 (9 * t + wd * j1169 + j1173) from by rw [show rdF (en 1) = f_1168 from by rw [es1168]; rfl, Nat.add_assoc]) i0_1173.1 c_1178, shU_n (show rdF (en 1) (9 * t + (wd * j1169 + j1173)) = f_1168 (9 * t + wd * j1169 + j1173) from by rw [show rdF (en 1) = f_1168 from by rw [es1168]; rfl, Nat.add_assoc]) i0_1173.2.1 (by omega) c_1184 c_1186, (by rw [i0_1173.2.2.1, ← (show rdF (en 1) (9 * t + (wd * j1169 + j1173)) = f_1168 (9 * t + wd * j1169 + j1173) from by rw [show rdF (en 1) = f_1168 from by rw [es1168]; rfl, Nat.add_assoc])]; rfl), (by rw [i0_1173.2.2.2, ← (show rdF (en 1) (9 * t + (wd * j1173 + j1169)) = f_1168 (9 * t + wd * j1173 + j1169) from by rw [show rdF (en 1) = f_1168 from by rw [es1168]; rfl, Nat.add_assoc])]; rfl)⟩) (lv_sub hl [0, 1, 2, 6, 3, 4, 7, 8] rfl) hh
                  · refine lv_iconst (v := 1) hx hb dX12_kindOf_81 (by decide) ?_
                    refine lv_goto (tgt := 86) hx hb dX12_kindOf_82 (by decide) ?_
                    refine lv_iand hx hb dX12_kindOf_86 ?_
                    refine lv_istore_n (lv' := [(3, .int (sh1173 &&& 1)), (2, .int (ev1173 &&& 1)), (8, .int (f_1168 (((9 * t) + (wd * j1169)) + j1173))), (7, .int (nI j1173)), (6, .int ic1173), (5, .int ir1173), (4, .int (nI j1169)), (0, .ref (ad 0)), (1, .int (nI t))]) hx hb dX12_kindOf_87 rfl hl (by decide) rfl (fun ls hl => ?_)
                    refine lv_iload hx hb dX12_kindOf_88 (lv_at hl 5 rfl) ?_
                    refine lv_iload hx hb dX12_kindOf_90 (lv_at hl 2 rfl) ?_
                    refine lv_iadd hx hb dX12_kindOf_92 ?_
                    refine lv_istore (lv' := [(5, .int (ir1173 + (f_1168 (((9 * t) + (wd * j1169)) + j1173)))), (3, .int (sh1173 &&& 1)), (2, .int (ev1173 &&& 1)), (8, .int (f_1168 (((9 * t) + (wd * j1169)) + j1173))), (7, .int (nI j1173)), (6, .int ic1173), (4, .int (nI j1169)), (0, .ref (ad 0)), (1, .int (nI t))]) hx hb dX12_kindOf_93 hl (by decide) rfl (fun ls hl => ?_)
                    refine lv_iload hx hb dX12_kindOf_95 (lv_at hl 5 rfl) ?_
                    refine lv_aload_n hx hb dX12_kindOf_97 rfl (lv_at hl 7 rfl) ?_
                    refine hp_get hx hb hts ix12 hown hK hh (q := 0) rfl (hI.1 _ (by decide)) es1167 rfl 5 (by decide) (hts _ tw_884) (fun _ h9 => h9) rfl dX12_kindOf_98 ?_
                    refine lv_bipush (v := 9) hx hb dX12_kindOf_101 (by decide) ?_
                    refine lv_iload_n hx hb dX12_kindOf_103 rfl (lv_at hl 8 rfl) ?_
                    refine lv_imul hx hb dX12_kindOf_104 ?_
                    rw [show (9 : Int32) = nI 9 from rfl, pk_mul 9 t]
                    refine lv_aload_n hx hb dX12_kindOf_105 rfl (lv_at hl 7 rfl) ?_
                    refine hp_get hx hb hts ix12 hown hK hh (q := 0) rfl (hI.1 _ (by decide)) es1167 rfl 2 (by decide) (hts _ tw_881) (fun _ h9 => h9) rfl dX12_kindOf_106 ?_
                    refine lv_iload hx hb dX12_kindOf_109 (lv_at hl 4 rfl) ?_
                    refine lv_imul hx hb dX12_kindOf_111 ?_
                    rw [pk_mul wd j1173]
                    refine lv_iadd hx hb dX12_kindOf_112 ?_
                    rw [nI_add (9 * t) (wd * j1173)]
                    refine lv_iload hx hb dX12_kindOf_113 (lv_at hl 6 rfl) ?_
                    refine lv_iadd hx hb dX12_kindOf_115 ?_
                    rw [nI_add ((9 * t) + (wd * j1173)) j1169]
                    have hi_1188 : wd * j1173 + j1169 < 9 := mdr (by omega) (by omega) (by omega)
                    refine hp_iald hx hb hK hh (q := 1) rfl (hI.1 _ (by decide)) es1168 (vp_in_nI (n := (((9 * t) + (wd * j1173)) + j1169)) (by omega) (by decide)) dX12_kindOf_116 ?_
                    rw [nI_clamp (n := (((9 * t) + (wd * j1173)) + j1169)) (by omega)]
                    refine lv_iadd hx hb dX12_kindOf_117 ?_
                    refine lv_istore (lv' := [(6, .int (ic1173 + (f_1168 (((9 * t) + (wd * j1173)) + j1169)))), (5, .int (ir1173 + (f_1168 (((9 * t) + (wd * j1169)) + j1173)))), (3, .int (sh1173 &&& 1)), (2, .int (ev1173 &&& 1)), (8, .int (f_1168 (((9 * t) + (wd * j1169)) + j1173))), (7, .int (nI j1173)), (4, .int (nI j1169)), (0, .ref (ad 0)), (1, .int (nI t))]) hx hb dX12_kindOf_118 hl (by decide) rfl (fun ls hl => ?_)
                    refine lv_iinc (v := (nI (j1173 + 1))) (lv' := [(7, .int (nI (j1173 + 1))), (6, .int (ic1173 + (f_1168 (((9 * t) + (wd * j1173)) + j1169)))), (5, .int (ir1173 + (f_1168 (((9 * t) + (wd * j1169)) + j1173)))), (3, .int (sh1173 &&& 1)), (2, .int (ev1173 &&& 1)), (8, .int (f_1168 (((9 * t) + (wd * j1169)) + j1173))), (4, .int (nI j1169)), (0, .ref (ad 0)), (1, .int (nI t))]) hx hb dX12_kindOf_120 hl (k := 5) rfl (nI_1 _) (by decide) rfl (fun ls hl => ?_)
                    refine lv_goto (tgt := 25) hx hb dX12_kindOf_123 (by decide) ?_
                    exact ih_1173 ((j1173 + 1)) (ev1173 &&& 1) (sh1173 &&& 1) (ir1173 + (f_1168 (((9 * t) + (wd * j1169)) + j1173))) (ic1173 + (f_1168 (((9 * t) + (wd * j1173)) + j1169))) ls H locs (by omega) (by omega) (by omega) (⟨evU_s (show rdF (en 1) (9 * t + (wd * j1169 + j1173)) = f_1168 (9 * t + wd * j1169 + j1173) from by rw [show rdF (en 1) = f_1168 from by rw [es1168]; rfl, Nat.add_assoc]) i0_1173.1 c_1178, shU_s (show rdF (en 1) (9 * t + (wd * j1169 + j1173)) = f_1168 (9 * t + wd * j1169 + j1173) from by rw [show rdF (en 1) = f_1168 from by rw [es1168]; rfl, Nat.add_assoc]) i0_1173.2.1 (Or.inr c_1186), (by rw [i0_1173.2.2.1, ← (show rdF (en 1) (9 * t + (wd * j1169 + j1173)) = f_1168 (9 * t + wd * j1169 + j1173) from by rw [show rdF (en 1) = f_1168 from by rw [es1168]; rfl, Nat.add_assoc])]; rfl), (by rw [i0_1173.2.2.2, ← (show rdF (en 1) (9 * t + (wd * j1173 + j1169)) = f_1168 (9 * t + wd * j1173 + j1169) from by rw [show rdF (en 1) = f_1168 from by rw [es1168]; rfl, Nat.add_assoc])]; rfl)⟩) (lv_sub hl [0, 1, 2, 6, 3, 4, 7, 8] rfl) hh
        exact loop_1173 (wd + 1) 0 ev1169 sh1169 0 0 ls _ _ (Nat.le_refl _) (by omega) (by omega) (⟨i0_1169.1, i0_1169.2, rfl, rfl⟩) (lv_sub hl [0, 1, 2, 3, 4, 5, 6, 7] rfl) hh
  exact loop_1169 (wd + 1) 0 1 1 ls _ _ (Nat.le_refl _) (by omega) (by omega) (⟨Or.inl ⟨rfl, fun a b hb hab => absurd hab (by omega)⟩, Or.inl ⟨rfl, fun a b hb hab => absurd hab (by omega), fun a ha => absurd ha (by omega)⟩⟩) (lv_sub hl [0, 1, 2, 3, 4] rfl) hh
theorem kw_X12_kindOf {R : Room} {s : State} {args : Array Value} {own : String} {idx : Nat} (hts : ∀ w ∈ TB, w.before args s = true) (hl : Cond.methodLink own idx yX12_kindOf ∈ TB) (hR : 0 + 1 ≤ R.frames ∧ 8 + (9 + 11) + 40 * 0 ≤ R.locals) : CallW R s args own RX12 idx yX12_kindOf cX12_kindOf 9 (some .int) (Cond.code yX12_kindOf cX12_kindOf 9 (some .int) :: TB) (rmN 0) 0 0 1 := cwV 1 hts (TB_V hl tw_1225 ts_61 tw_9 tw_1226) rfl rfl rfl (by decide +kernel) hR
set_option maxHeartbeats 4000000 in
set_option maxRecDepth 100000 in
/-- trackOf -/
theorem c_X12_trackOf (l : Launch) (D : va_G) (cy : Nat → ClassId) (sz : Nat) (cs : List Nat) (ad : Nat → Nat) (en : Nat → va_E) (hI : RX cy cs ad en) (t : Nat) (ht6 : t < 6)   : Met l yX12_trackOf (Cond.code yX12_trackOf cX12_trackOf 4 (some .int) :: TB) (rmN 0) (va_Pc [.ref (ad 0), .int (nI t)] (Pre D cy cs ad en sz)) (va_Qi (S := Unit) (fun r _ => r = sumI (fun i => rdF (en 1) (9 * t + (i * (rdI (en 0) 2).toNatClampNeg + i))) (rdI (en 0) 2).toNatClampNeg) (fun _ _ => True) (Nf sz)) 0 0 (Nf sz) := by
  refine Met.ofW (cc := cX12_trackOf) (maxL := 4) (ret := (some .int)) (by decide) rfl ?_
  intro p e s m args below meth c s₁ B hml hv
  obtain ⟨rfl, hsz, hP, hK, hD0⟩ := hv
  have hx := B.exec
  have hb := B.bytes
  have hr := B.returns
  have hts : ∀ w ∈ TB, w.before _ s = true := fun w h => atoms_spec (ws := _ :: TB) B.pre w (List.mem_cons_of_mem _ h)
  have hown : s.vm.findClass RX12 = some m.cls := findClass_of_methodNamed B.named
  have hlocks := B.notSynchronized
  have hh : Hp D (Nf sz) (fun _ => True) s.heap s.heap [] cs ad en := ⟨hP, hD0, va_S.rf⟩
  have hA : ∀ q : Nat, s.heap.size ≤ q → Nf sz q := fun q h => by rw [hsz] at h; exact h
  have hl := lv_entry ([.ref (ad 0), .int (nI t)]) (n := 4) (Nat.le_of_ble_eq_true rfl)
  rw [lg_entry_eq]
  generalize (lg_sl ([.ref (ad 0), .int (nI t)]) ++ List.replicate (4 - (lg_sl ([.ref (ad 0), .int (nI t)])).length) Slot.unset).toArray = ls at hl ⊢
  have hl : lv_has ls 4 [(0, .ref (ad 0)), (1, .int (nI t))] := hl
  obtain ⟨fa, hi, wd, mo, tb, dp, many, grt, lst, nou, rm, rb, pr, wo, es1189, hwd2, hwd3, hmo, htb, hwo⟩ := getr_M hI
  obtain ⟨f_1190, es1190⟩ := getr_E hI
  refine lv_iconst (v := 0) hx hb dX12_trackOf_0 (by decide) ?_
  refine lv_istore_n (lv' := [(2, .int 0), (0, .ref (ad 0)), (1, .int (nI t))]) hx hb dX12_trackOf_1 rfl hl (by decide) rfl (fun ls hl => ?_)
  refine lv_iconst (v := 0) hx hb dX12_trackOf_2 (by decide) ?_
  refine lv_istore_n (lv' := [(3, .int 0), (2, .int 0), (0, .ref (ad 0)), (1, .int (nI t))]) hx hb dX12_trackOf_3 rfl hl (by decide) rfl (fun ls hl => ?_)
  have loop_1191 : ∀ (fu j1191 : Nat) (ac1191 : Int32)  (ls : Array Slot) (H : Heap) (locs : List Loc), 0 ≤ j1191 → j1191 ≤ wd → wd < j1191 + fu →  (ac1191 = sumI (fun i => rdF (en 1) (9 * t + (i * wd + i))) j1191) → lv_has ls 4 [(3, .int (nI j1191)), (2, .int ac1191), (0, .ref (ad 0)), (1, .int (nI t))] → Hp D (Nf sz) (fun _ => True) s.heap H locs cs ad en → W p l e (headSpec (Cond.code yX12_trackOf cX12_trackOf 4 (some .int) :: TB) (rmN 0)).room s m ([.ref (ad 0), .int (nI t)] : List Value).toArray below meth c H locs 0 0 (MQ below (va_Qi (S := Unit) (fun r _ => r = sumI (fun i => rdF (en 1) (9 * t + (i * (rdI (en 0) 2).toNatClampNeg + i))) (rdI (en 0) 2).toNatClampNeg) (fun _ _ => True) (Nf sz)) ([.ref (ad 0), .int (nI t)] : List Value).toArray s 0 0 (Nf sz)) (F0 m 4 ls []) := by
    intro fu
    induction fu with
    | zero => intro j1191 ac1191 ls H locs h0 h1 h2; exact absurd h2 (by omega)
    | succ fu ih_1191 =>
      intro j1191 ac1191 ls H locs hj0_1191 hj_1191 hfu_1191 i0_1191 hl hh
      refine lv_iload_n hx hb dX12_trackOf_4 rfl (lv_at hl 0 rfl) ?_
      refine lv_aload_n hx hb dX12_trackOf_5 rfl (lv_at hl 2 rfl) ?_
      refine hp_get hx hb hts ix12 hown hK hh (q := 0) rfl (hI.1 _ (by decide)) es1189 rfl 2 (by decide) (hts _ tw_881) (fun _ h9 => h9) rfl dX12_trackOf_6 ?_
      refine lv_icmp_ge (tgt := 39) hx hb dX12_trackOf_9 (by decide) (fun c_1192 => ?_) (fun c_1192 => ?_)
      · have n_1192 : wd ≤ j1191 := n_le (a := wd) (b := j1191) c_1192 (by omega) (by omega)
        refine lv_iload_n hx hb dX12_trackOf_39 rfl (lv_at hl 1 rfl) ?_
        exact hp_iretR hx hb hr rfl hlocks hsz hh ((by rw [show rdI (en 0) 2 = nI wd from by rw [es1189]; rfl, nI_clamp (n := wd) (by omega)]; have e9 : j1191 = wd := (by omega); rw [e9] at i0_1191; exact i0_1191)) dX12_trackOf_40
      · have n_1192 : j1191 < wd := n_nle (a := wd) (b := j1191) c_1192 (by omega) (by omega)
        refine lv_iload_n hx hb dX12_trackOf_12 rfl (lv_at hl 1 rfl) ?_
        refine lv_aload_n hx hb dX12_trackOf_13 rfl (lv_at hl 2 rfl) ?_
        refine hp_get hx hb hts ix12 hown hK hh (q := 0) rfl (hI.1 _ (by decide)) es1189 rfl 5 (by decide) (hts _ tw_884) (fun _ h9 => h9) rfl dX12_trackOf_14 ?_
        refine lv_bipush (v := 9) hx hb dX12_trackOf_17 (by decide) ?_
        refine lv_iload_n hx hb dX12_trackOf_19 rfl (lv_at hl 3 rfl) ?_
        refine lv_imul hx hb dX12_trackOf_20 ?_
        rw [show (9 : Int32) = nI 9 from rfl, pk_mul 9 t]
        refine lv_aload_n hx hb dX12_trackOf_21 rfl (lv_at hl 2 rfl) ?_
        refine hp_get hx hb hts ix12 hown hK hh (q := 0) rfl (hI.1 _ (by decide)) es1189 rfl 2 (by decide) (hts _ tw_881) (fun _ h9 => h9) rfl dX12_trackOf_22 ?_
        refine lv_iload_n hx hb dX12_trackOf_25 rfl (lv_at hl 0 rfl) ?_
        refine lv_imul hx hb dX12_trackOf_26 ?_
        rw [pk_mul wd j1191]
        refine lv_iadd hx hb dX12_trackOf_27 ?_
        rw [nI_add (9 * t) (wd * j1191)]
        refine lv_iload_n hx hb dX12_trackOf_28 rfl (lv_at hl 0 rfl) ?_
        refine lv_iadd hx hb dX12_trackOf_29 ?_
        rw [nI_add ((9 * t) + (wd * j1191)) j1191]
        have hi_1193 : wd * j1191 + j1191 < 9 := mdr (by omega) (by omega) (by omega)
        refine hp_iald hx hb hK hh (q := 1) rfl (hI.1 _ (by decide)) es1190 (vp_in_nI (n := (((9 * t) + (wd * j1191)) + j1191)) (by omega) (by decide)) dX12_trackOf_30 ?_
        rw [nI_clamp (n := (((9 * t) + (wd * j1191)) + j1191)) (by omega)]
        refine lv_iadd hx hb dX12_trackOf_31 ?_
        refine lv_istore_n (lv' := [(2, .int (ac1191 + (f_1190 (((9 * t) + (wd * j1191)) + j1191)))), (3, .int (nI j1191)), (0, .ref (ad 0)), (1, .int (nI t))]) hx hb dX12_trackOf_32 rfl hl (by decide) rfl (fun ls hl => ?_)
        refine lv_iinc (v := (nI (j1191 + 1))) (lv' := [(3, .int (nI (j1191 + 1))), (2, .int (ac1191 + (f_1190 (((9 * t) + (wd * j1191)) + j1191)))), (0, .ref (ad 0)), (1, .int (nI t))]) hx hb dX12_trackOf_33 hl (k := 1) rfl (nI_1 _) (by decide) rfl (fun ls hl => ?_)
        refine lv_goto (tgt := 4) hx hb dX12_trackOf_36 (by decide) ?_
        exact ih_1191 ((j1191 + 1)) (ac1191 + (f_1190 (((9 * t) + (wd * j1191)) + j1191))) ls H locs (by omega) (by omega) (by omega) (by rw [i0_1191]; show _ = sumI _ j1191 + rdF (en 1) (9 * t + (j1191 * wd + j1191)); rw [show rdF (en 1) = f_1190 from by rw [es1190]; rfl, Nat.mul_comm j1191 wd, Nat.add_assoc]) (lv_sub hl [0, 1, 2, 3] rfl) hh
  exact loop_1191 (wd + 1) 0 0 ls _ _ (Nat.le_refl _) (by omega) (by omega) (rfl) (lv_sub hl [0, 1, 2, 3] rfl) hh
theorem kw_X12_trackOf {R : Room} {s : State} {args : Array Value} {own : String} {idx : Nat} (hts : ∀ w ∈ TB, w.before args s = true) (hl : Cond.methodLink own idx yX12_trackOf ∈ TB) (hR : 0 + 1 ≤ R.frames ∧ 8 + (4 + 11) + 40 * 0 ≤ R.locals) : CallW R s args own RX12 idx yX12_trackOf cX12_trackOf 4 (some .int) (Cond.code yX12_trackOf cX12_trackOf 4 (some .int) :: TB) (rmN 0) 0 0 1 := cwV 1 hts (TB_V hl tw_1233 ts_63 tw_9 tw_1234) rfl rfl rfl (by decide +kernel) hR
set_option maxHeartbeats 4000000 in
set_option maxRecDepth 100000 in
/-- greatestOf -/
theorem c_X12_greatestOf (l : Launch) (D : va_G) (cy : Nat → ClassId) (sz : Nat) (cs : List Nat) (ad : Nat → Nat) (en : Nat → va_E) (hI : RX cy cs ad en) (t : Nat) (ht6 : t < 6)   : Met l yX12_greatestOf (Cond.code yX12_greatestOf cX12_greatestOf 4 (some .int) :: TB) (rmN 0) (va_Pc [.ref (ad 0), .int (nI t)] (Pre D cy cs ad en sz)) (va_Qi (S := Unit) (fun r _ => r = mxR (fun i => rdF (en 1) (9 * t + i)) ((rdI (en 0) 2).toNatClampNeg * (rdI (en 0) 2).toNatClampNeg)) (fun _ _ => True) (Nf sz)) 0 0 (Nf sz) := by
  refine Met.ofW (cc := cX12_greatestOf) (maxL := 4) (ret := (some .int)) (by decide) rfl ?_
  intro p e s m args below meth c s₁ B hml hv
  obtain ⟨rfl, hsz, hP, hK, hD0⟩ := hv
  have hx := B.exec
  have hb := B.bytes
  have hr := B.returns
  have hts : ∀ w ∈ TB, w.before _ s = true := fun w h => atoms_spec (ws := _ :: TB) B.pre w (List.mem_cons_of_mem _ h)
  have hown : s.vm.findClass RX12 = some m.cls := findClass_of_methodNamed B.named
  have hlocks := B.notSynchronized
  have hh : Hp D (Nf sz) (fun _ => True) s.heap s.heap [] cs ad en := ⟨hP, hD0, va_S.rf⟩
  have hA : ∀ q : Nat, s.heap.size ≤ q → Nf sz q := fun q h => by rw [hsz] at h; exact h
  have hl := lv_entry ([.ref (ad 0), .int (nI t)]) (n := 4) (Nat.le_of_ble_eq_true rfl)
  rw [lg_entry_eq]
  generalize (lg_sl ([.ref (ad 0), .int (nI t)]) ++ List.replicate (4 - (lg_sl ([.ref (ad 0), .int (nI t)])).length) Slot.unset).toArray = ls at hl ⊢
  have hl : lv_has ls 4 [(0, .ref (ad 0)), (1, .int (nI t))] := hl
  obtain ⟨fa, hi, wd, mo, tb, dp, many, grt, lst, nou, rm, rb, pr, wo, es1194, hwd2, hwd3, hmo, htb, hwo⟩ := getr_M hI
  obtain ⟨f_1195, es1195⟩ := getr_E hI
  have hww : wd * wd ≤ 9 := mww (by omega)
  refine lv_aload_n hx hb dX12_greatestOf_0 rfl (lv_at hl 0 rfl) ?_
  refine hp_get hx hb hts ix12 hown hK hh (q := 0) rfl (hI.1 _ (by decide)) es1194 rfl 5 (by decide) (hts _ tw_884) (fun _ h9 => h9) rfl dX12_greatestOf_1 ?_
  refine lv_bipush (v := 9) hx hb dX12_greatestOf_4 (by decide) ?_
  refine lv_iload_n hx hb dX12_greatestOf_6 rfl (lv_at hl 1 rfl) ?_
  refine lv_imul hx hb dX12_greatestOf_7 ?_
  rw [show (9 : Int32) = nI 9 from rfl, pk_mul 9 t]
  refine hp_iald hx hb hK hh (q := 1) rfl (hI.1 _ (by decide)) es1195 (vp_in_nI (n := (9 * t)) (by omega) (by decide)) dX12_greatestOf_8 ?_
  rw [nI_clamp (n := (9 * t)) (by omega)]
  refine lv_istore_n (lv' := [(2, .int (f_1195 (9 * t))), (0, .ref (ad 0)), (1, .int (nI t))]) hx hb dX12_greatestOf_9 rfl hl (by decide) rfl (fun ls hl => ?_)
  refine lv_iconst (v := 0) hx hb dX12_greatestOf_10 (by decide) ?_
  refine lv_istore_n (lv' := [(3, .int 0), (2, .int (f_1195 (9 * t))), (0, .ref (ad 0)), (1, .int (nI t))]) hx hb dX12_greatestOf_11 rfl hl (by decide) rfl (fun ls hl => ?_)
  have loop_1196 : ∀ (fu j1196 : Nat) (mx1196 : Int32)  (ls : Array Slot) (H : Heap) (locs : List Loc), 0 ≤ j1196 → j1196 ≤ (wd * wd) → (wd * wd) < j1196 + fu →  (mx1196 = mxR (fun i => rdF (en 1) (9 * t + i)) j1196) → lv_has ls 4 [(3, .int (nI j1196)), (2, .int mx1196), (0, .ref (ad 0)), (1, .int (nI t))] → Hp D (Nf sz) (fun _ => True) s.heap H locs cs ad en → W p l e (headSpec (Cond.code yX12_greatestOf cX12_greatestOf 4 (some .int) :: TB) (rmN 0)).room s m ([.ref (ad 0), .int (nI t)] : List Value).toArray below meth c H locs 0 0 (MQ below (va_Qi (S := Unit) (fun r _ => r = mxR (fun i => rdF (en 1) (9 * t + i)) ((rdI (en 0) 2).toNatClampNeg * (rdI (en 0) 2).toNatClampNeg)) (fun _ _ => True) (Nf sz)) ([.ref (ad 0), .int (nI t)] : List Value).toArray s 0 0 (Nf sz)) (F0 m 12 ls []) := by
    intro fu
    induction fu with
    | zero => intro j1196 mx1196 ls H locs h0 h1 h2; exact absurd h2 (by omega)
    | succ fu ih_1196 =>
      intro j1196 mx1196 ls H locs hj0_1196 hj_1196 hfu_1196 i0_1196 hl hh
      refine lv_iload_n hx hb dX12_greatestOf_12 rfl (lv_at hl 0 rfl) ?_
      refine lv_aload_n hx hb dX12_greatestOf_13 rfl (lv_at hl 2 rfl) ?_
      refine hp_get hx hb hts ix12 hown hK hh (q := 0) rfl (hI.1 _ (by decide)) es1194 rfl 2 (by decide) (hts _ tw_881) (fun _ h9 => h9) rfl dX12_greatestOf_14 ?_
      refine lv_aload_n hx hb dX12_greatestOf_17 rfl (lv_at hl 2 rfl) ?_
      refine hp_get hx hb hts ix12 hown hK hh (q := 0) rfl (hI.1 _ (by decide)) es1194 rfl 2 (by decide) (hts _ tw_881) (fun _ h9 => h9) rfl dX12_greatestOf_18 ?_
      refine lv_imul hx hb dX12_greatestOf_21 ?_
      rw [pk_mul wd wd]
      have hw2_1197 : wd * wd ≤ 9 := mww (by omega)
      refine lv_icmp_ge (tgt := 62) hx hb dX12_greatestOf_22 (by decide) (fun c_1198 => ?_) (fun c_1198 => ?_)
      · have n_1198 : (wd * wd) ≤ j1196 := n_le (a := (wd * wd)) (b := j1196) c_1198 (by omega) (by omega)
        refine lv_iload_n hx hb dX12_greatestOf_62 rfl (lv_at hl 1 rfl) ?_
        exact hp_iretR hx hb hr rfl hlocks hsz hh ((by rw [show rdI (en 0) 2 = nI wd from by rw [es1194]; rfl, nI_clamp (n := wd) (by omega)]; have e9 : j1196 = wd * wd := (by omega); rw [e9] at i0_1196; exact i0_1196)) dX12_greatestOf_63
      · have n_1198 : j1196 < (wd * wd) := n_nle (a := (wd * wd)) (b := j1196) c_1198 (by omega) (by omega)
        refine lv_aload_n hx hb dX12_greatestOf_25 rfl (lv_at hl 2 rfl) ?_
        refine hp_get hx hb hts ix12 hown hK hh (q := 0) rfl (hI.1 _ (by decide)) es1194 rfl 5 (by decide) (hts _ tw_884) (fun _ h9 => h9) rfl dX12_greatestOf_26 ?_
        refine lv_bipush (v := 9) hx hb dX12_greatestOf_29 (by decide) ?_
        refine lv_iload_n hx hb dX12_greatestOf_31 rfl (lv_at hl 3 rfl) ?_
        refine lv_imul hx hb dX12_greatestOf_32 ?_
        rw [show (9 : Int32) = nI 9 from rfl, pk_mul 9 t]
        refine lv_iload_n hx hb dX12_greatestOf_33 rfl (lv_at hl 0 rfl) ?_
        refine lv_iadd hx hb dX12_greatestOf_34 ?_
        rw [nI_add (9 * t) j1196]
        refine hp_iald hx hb hK hh (q := 1) rfl (hI.1 _ (by decide)) es1195 (vp_in_nI (n := ((9 * t) + j1196)) (by omega) (by decide)) dX12_greatestOf_35 ?_
        rw [nI_clamp (n := ((9 * t) + j1196)) (by omega)]
        refine lv_iload_n hx hb dX12_greatestOf_36 rfl (lv_at hl 1 rfl) ?_
        refine lv_icmp_le (tgt := 54) hx hb dX12_greatestOf_37 (by decide) (fun c_1199 => ?_) (fun c_1199 => ?_)
        · refine lv_iload_n hx hb dX12_greatestOf_54 rfl (lv_at hl 1 rfl) ?_
          refine lv_istore_n (lv' := [(2, .int mx1196), (3, .int (nI j1196)), (0, .ref (ad 0)), (1, .int (nI t))]) hx hb dX12_greatestOf_55 rfl hl (by decide) rfl (fun ls hl => ?_)
          refine lv_iinc (v := (nI (j1196 + 1))) (lv' := [(3, .int (nI (j1196 + 1))), (2, .int mx1196), (0, .ref (ad 0)), (1, .int (nI t))]) hx hb dX12_greatestOf_56 hl (k := 1) rfl (nI_1 _) (by decide) rfl (fun ls hl => ?_)
          refine lv_goto (tgt := 12) hx hb dX12_greatestOf_59 (by decide) ?_
          exact ih_1196 ((j1196 + 1)) mx1196 ls H locs (by omega) (by omega) (by omega) (by show _ = maxI (mxR (fun i => rdF (en 1) (9 * t + i)) j1196) (rdF (en 1) (9 * t + j1196)); rw [← i0_1196, show rdF (en 1) (9 * t + j1196) = f_1195 (9 * t + j1196) from by rw [es1195]; rfl]; unfold maxI; exact (if_neg (Int32.not_lt.mpr c_1199)).symm) (lv_sub hl [0, 1, 2, 3] rfl) hh
        · refine lv_aload_n hx hb dX12_greatestOf_40 rfl (lv_at hl 2 rfl) ?_
          refine hp_get hx hb hts ix12 hown hK hh (q := 0) rfl (hI.1 _ (by decide)) es1194 rfl 5 (by decide) (hts _ tw_884) (fun _ h9 => h9) rfl dX12_greatestOf_41 ?_
          refine lv_bipush (v := 9) hx hb dX12_greatestOf_44 (by decide) ?_
          refine lv_iload_n hx hb dX12_greatestOf_46 rfl (lv_at hl 3 rfl) ?_
          refine lv_imul hx hb dX12_greatestOf_47 ?_
          rw [show (9 : Int32) = nI 9 from rfl, pk_mul 9 t]
          refine lv_iload_n hx hb dX12_greatestOf_48 rfl (lv_at hl 0 rfl) ?_
          refine lv_iadd hx hb dX12_greatestOf_49 ?_
          rw [nI_add (9 * t) j1196]
          refine hp_iald hx hb hK hh (q := 1) rfl (hI.1 _ (by decide)) es1195 (vp_in_nI (n := ((9 * t) + j1196)) (by omega) (by decide)) dX12_greatestOf_50 ?_
          rw [nI_clamp (n := ((9 * t) + j1196)) (by omega)]
          refine lv_goto (tgt := 55) hx hb dX12_greatestOf_51 (by decide) ?_
          refine lv_istore_n (lv' := [(2, .int (f_1195 ((9 * t) + j1196))), (3, .int (nI j1196)), (0, .ref (ad 0)), (1, .int (nI t))]) hx hb dX12_greatestOf_55 rfl hl (by decide) rfl (fun ls hl => ?_)
          refine lv_iinc (v := (nI (j1196 + 1))) (lv' := [(3, .int (nI (j1196 + 1))), (2, .int (f_1195 ((9 * t) + j1196))), (0, .ref (ad 0)), (1, .int (nI t))]) hx hb dX12_greatestOf_56 hl (k := 1) rfl (nI_1 _) (by decide) rfl (fun ls hl => ?_)
          refine lv_goto (tgt := 12) hx hb dX12_greatestOf_59 (by decide) ?_
          exact ih_1196 ((j1196 + 1)) (f_1195 ((9 * t) + j1196)) ls H locs (by omega) (by omega) (by omega) (by show _ = maxI (mxR (fun i => rdF (en 1) (9 * t + i)) j1196) (rdF (en 1) (9 * t + j1196)); rw [← i0_1196, show rdF (en 1) (9 * t + j1196) = f_1195 (9 * t + j1196) from by rw [es1195]; rfl]; unfold maxI; exact (if_pos (Int32.not_le.mp c_1199)).symm) (lv_sub hl [0, 1, 2, 3] rfl) hh
  exact loop_1196 ((wd * wd) + 1) 0 (f_1195 (9 * t)) ls _ _ (Nat.le_refl _) (by omega) (by omega) ((by show _ = rdF (en 1) (9 * t + 0); rw [show rdF (en 1) = f_1195 from by rw [es1195]; rfl]; rfl)) (lv_sub hl [0, 1, 2, 3] rfl) hh
theorem kw_X12_greatestOf {R : Room} {s : State} {args : Array Value} {own : String} {idx : Nat} (hts : ∀ w ∈ TB, w.before args s = true) (hl : Cond.methodLink own idx yX12_greatestOf ∈ TB) (hR : 0 + 1 ≤ R.frames ∧ 8 + (4 + 11) + 40 * 0 ≤ R.locals) : CallW R s args own RX12 idx yX12_greatestOf cX12_greatestOf 4 (some .int) (Cond.code yX12_greatestOf cX12_greatestOf 4 (some .int) :: TB) (rmN 0) 0 0 1 := cwV 1 hts (TB_V hl tw_1237 ts_64 tw_9 tw_1238) rfl rfl rfl (by decide +kernel) hR
set_option maxHeartbeats 4000000 in
set_option maxRecDepth 100000 in
/-- tell -/
theorem c_X12_tell (l : Launch) (D : va_G) (cy : Nat → ClassId) (sz : Nat) (cs : List Nat) (ad : Nat → Nat) (en : Nat → va_E) (hI : RX cy cs ad en) (t : Int32)   : Met l yX12_tell (Cond.code yX12_tell cX12_tell 3 (some .int) :: TB) (rmN 1) (va_Pc [.ref (ad 0), .int t] (Pre D cy cs ad en sz)) (va_Qi (S := Nat → va_E) (fun r en1 => RX cy cs ad en1 ∧ (∀ c, (c ≠ 0) → en1 c = en c) ∧ RTE t r en en1 ∧ KPx en en1) (PostM D cs ad) (Af cs ad sz)) 0 0 (Af cs ad sz) := by
  refine Met.ofW (cc := cX12_tell) (maxL := 3) (ret := (some .int)) (by decide) rfl ?_
  intro p e s m args below meth c s₁ B hml hv
  obtain ⟨rfl, hsz, hP, hK, hD0⟩ := hv
  have hx := B.exec
  have hb := B.bytes
  have hr := B.returns
  have hts : ∀ w ∈ TB, w.before _ s = true := fun w h => atoms_spec (ws := _ :: TB) B.pre w (List.mem_cons_of_mem _ h)
  have hown : s.vm.findClass RX12 = some m.cls := findClass_of_methodNamed B.named
  have hlocks := B.notSynchronized
  have hh : Hp D (Af cs ad sz) (Af cs ad sz) s.heap s.heap [] cs ad en := ⟨hP, Af_self hD0, va_S.rf⟩
  have hA : ∀ q : Nat, s.heap.size ≤ q → Af cs ad sz q := fun q h => Or.inr (by rw [hsz] at h; exact h)
  have hl := lv_entry ([.ref (ad 0), .int t]) (n := 3) (Nat.le_of_ble_eq_true rfl)
  rw [lg_entry_eq]
  generalize (lg_sl ([.ref (ad 0), .int t]) ++ List.replicate (3 - (lg_sl ([.ref (ad 0), .int t])).length) Slot.unset).toArray = ls at hl ⊢
  have hl : lv_has ls 3 [(0, .ref (ad 0)), (1, .int t)] := hl
  have hf0 : ∀ c, (c ≠ 0) → en c = en c := fun _ _ => rfl
  obtain ⟨fa, hi, wd, mo, tb, dp, many, grt, lst, nou, rm, rb, pr, wo, es1200, hwd2, hwd3, hmo, htb, hwo⟩ := getr_M hI
  refine lv_aload_n hx hb dX12_tell_0 rfl (lv_at hl 0 rfl) ?_
  refine lv_iload_n hx hb dX12_tell_1 rfl (lv_at hl 1 rfl) ?_
  refine hp_callRi (va_runV (As := [.int t]) (rest := []) ⟨hx, hb, hml, hown, hts⟩ (c_X12_isTable l D cy _ cs ad en hI t ) (kw_X12_isTable hts tw_1007 ⟨by decide, by decide⟩) (preV_of hh hK (hI.1 _ (by decide)) es1200 rfl) rfl rfl hl.1 rfl (lv_room (Nat.le_of_ble_eq_true rfl)) dX12_tell_2 ⟨Nat.le_of_ble_eq_true rfl, Nat.le_of_ble_eq_true rfl⟩) hh hA (fun r_1201 H locs hw_1201 hh => ?_)
  rw [show rdI (en 0) 4 = (nI tb) from by rw [es1200]; rfl, nI_toInt (n := tb) (by omega)] at hw_1201
  rcases Decidable.em (0 ≤ t.toInt ∧ t.toInt < (tb : Int)) with hp_1201 | hp_1201
  · obtain rfl : r_1201 = 1 := Eq.trans hw_1201 (if_pos hp_1201)
    obtain ⟨T_1201, rfl, hT_1201⟩ := has_nat hp_1201
    refine lv_if_ne (tgt := 10) hx hb dX12_tell_5 (by decide) (fun _ => ?_) (fun c_0 => absurd c_0 (by decide))
    refine lv_aload_n hx hb dX12_tell_10 rfl (lv_at hl 0 rfl) ?_
    refine lv_iload_n hx hb dX12_tell_11 rfl (lv_at hl 1 rfl) ?_
    refine hp_callRi (va_runV (As := [.int (nI T_1201)]) (rest := []) ⟨hx, hb, hml, hown, hts⟩ (c_X12_kindOf l D cy _ cs ad en hI T_1201 (by omega)) (kw_X12_kindOf hts tw_1223 ⟨by decide, by decide⟩) (preV_of hh hK (hI.1 _ (by decide)) es1200 rfl) rfl rfl hl.1 rfl (lv_room (Nat.le_of_ble_eq_true rfl)) dX12_tell_12 ⟨Nat.le_of_ble_eq_true rfl, Nat.le_of_ble_eq_true rfl⟩) hh hA (fun r_1202 H locs hw_1202 hh => ?_)
    have hk_1202 := hw_1202
    rcases hw_1202 with hb_1202 | hb_1202 | hb_1202
    · obtain rfl : r_1202 = 2 := hb_1202.1
      refine lv_istore_n (lv' := [(2, .int 2), (0, .ref (ad 0)), (1, .int (nI T_1201))]) hx hb dX12_tell_15 rfl hl (by decide) rfl (fun ls hl => ?_)
      refine lv_iload_n hx hb dX12_tell_16 rfl (lv_at hl 0 rfl) ?_
      refine lv_iconst (v := 2) hx hb dX12_tell_17 (by decide) ?_
      refine lv_icmp_ne (tgt := 26) hx hb dX12_tell_18 (by decide) (fun c_0 => absurd c_0 (by decide)) (fun _ => ?_)
      refine lv_aload_n hx hb dX12_tell_21 rfl (lv_at hl 1 rfl) ?_
      refine lv_iconst (v := 3) hx hb dX12_tell_22 (by decide) ?_
      refine hp_callMv (va_runV (As := [.int 3]) (rest := []) ⟨hx, hb, hml, hown, hts⟩ (c_X12_begins l D cy _ cs ad en (hI.1 _ (by decide)) fa hi wd mo tb dp many grt lst nou rm rb pr wo 3 es1200) (kw_X12_begins hts tw_1227 ⟨by decide, by decide⟩) (preV_of hh hK (hI.1 _ (by decide)) es1200 rfl) rfl rfl hl.1 rfl (lv_room (Nat.le_of_ble_eq_true rfl)) dX12_tell_23 ⟨Nat.le_of_ble_eq_true rfl, Nat.le_of_ble_eq_true rfl⟩) hh hA (fun H locs en_1203 hw_1203 hh => ?_)
      have hen_1203 := hw_1203
      have es1200_1203 : en_1203 0 = .inr (11, [.int fa, .int (31 * hi + 3), .int (nI wd), .int (nI mo), .int (nI tb), .ref (ad 1), .ref (ad 2), .ref (ad 3), .ref (ad 4), .ref (ad 5), .ref (ad 6), .ref (ad 7), .ref (ad 8), .ref (ad 9), .int dp, .long many, .long grt, .long lst, .long nou, .ref (ad 10), .ref (ad 11), .ref (ad 12), .int rm, .long rb, .ref (ad 13), .int pr, .ref (ad 14), .ref (ad 15), .ref (ad 16), .ref (ad 17), .int (nI wo), .ref (ad 18), .ref (ad 19)]) := by rw [hen_1203]; exact va_up_self _ _ _
      have hI_1203 : RX cy cs ad en_1203 := by rw [hen_1203]; exact upr_M hI ⟨fa, (31 * hi + 3), wd, mo, tb, dp, many, grt, lst, nou, rm, rb, pr, wo, rfl, hwd2, hwd3, hmo, htb, hwo⟩
      have hf_1203 : ∀ c, (c ≠ 0) → en_1203 c = en c := fun c hc => Eq.trans (show en_1203 c = en c from by rw [hen_1203, va_up_ne _ _ (by omega)]) (hf0 c hc)
      have hkp_1203 : KPx en en_1203 := KPx_fv (KPx_rf en) es1200 es1200_1203 (nI wd) (nI mo) (nI tb) pr (nI wo) rfl rfl rfl rfl rfl rfl rfl rfl rfl rfl
      refine lv_iload_n hx hb dX12_tell_26 rfl (lv_at hl 0 rfl) ?_
      refine lv_if_le (tgt := 35) hx hb dX12_tell_27 (by decide) (fun c_0 => absurd c_0 (by decide)) (fun _ => ?_)
      refine lv_aload_n hx hb dX12_tell_30 rfl (lv_at hl 1 rfl) ?_
      refine lv_iconst (v := 2) hx hb dX12_tell_31 (by decide) ?_
      refine hp_callMv (va_runV (As := [.int 2]) (rest := []) ⟨hx, hb, hml, hown, hts⟩ (c_X12_begins l D cy _ cs ad en_1203 (hI.1 _ (by decide)) fa (31 * hi + 3) wd mo tb dp many grt lst nou rm rb pr wo 2 es1200_1203) (kw_X12_begins hts tw_1227 ⟨by decide, by decide⟩) (preV_of hh hK (hI.1 _ (by decide)) es1200_1203 rfl) rfl rfl hl.1 rfl (lv_room (Nat.le_of_ble_eq_true rfl)) dX12_tell_32 ⟨Nat.le_of_ble_eq_true rfl, Nat.le_of_ble_eq_true rfl⟩) hh hA (fun H locs en_1204 hw_1204 hh => ?_)
      have hen_1204 := hw_1204
      have es1200_1204 : en_1204 0 = .inr (11, [.int fa, .int (31 * (31 * hi + 3) + 2), .int (nI wd), .int (nI mo), .int (nI tb), .ref (ad 1), .ref (ad 2), .ref (ad 3), .ref (ad 4), .ref (ad 5), .ref (ad 6), .ref (ad 7), .ref (ad 8), .ref (ad 9), .int dp, .long many, .long grt, .long lst, .long nou, .ref (ad 10), .ref (ad 11), .ref (ad 12), .int rm, .long rb, .ref (ad 13), .int pr, .ref (ad 14), .ref (ad 15), .ref (ad 16), .ref (ad 17), .int (nI wo), .ref (ad 18), .ref (ad 19)]) := by rw [hen_1204]; exact va_up_self _ _ _
      have hI_1204 : RX cy cs ad en_1204 := by rw [hen_1204]; exact upr_M hI_1203 ⟨fa, (31 * (31 * hi + 3) + 2), wd, mo, tb, dp, many, grt, lst, nou, rm, rb, pr, wo, rfl, hwd2, hwd3, hmo, htb, hwo⟩
      have hf_1204 : ∀ c, (c ≠ 0) → en_1204 c = en c := fun c hc => Eq.trans (show en_1204 c = en_1203 c from by rw [hen_1204, va_up_ne _ _ (by omega)]) (hf_1203 c hc)
      have hkp_1204 : KPx en en_1204 := KPx_fv hkp_1203 es1200_1203 es1200_1204 (nI wd) (nI mo) (nI tb) pr (nI wo) rfl rfl rfl rfl rfl rfl rfl rfl rfl rfl
      refine lv_aload_n hx hb dX12_tell_35 rfl (lv_at hl 1 rfl) ?_
      refine lv_iconst (v := 1) hx hb dX12_tell_36 (by decide) ?_
      refine hp_callMv (va_runV (As := [.int 1]) (rest := []) ⟨hx, hb, hml, hown, hts⟩ (c_X12_begins l D cy _ cs ad en_1204 (hI.1 _ (by decide)) fa (31 * (31 * hi + 3) + 2) wd mo tb dp many grt lst nou rm rb pr wo 1 es1200_1204) (kw_X12_begins hts tw_1227 ⟨by decide, by decide⟩) (preV_of hh hK (hI.1 _ (by decide)) es1200_1204 rfl) rfl rfl hl.1 rfl (lv_room (Nat.le_of_ble_eq_true rfl)) dX12_tell_37 ⟨Nat.le_of_ble_eq_true rfl, Nat.le_of_ble_eq_true rfl⟩) hh hA (fun H locs en_1205 hw_1205 hh => ?_)
      have hen_1205 := hw_1205
      have es1200_1205 : en_1205 0 = .inr (11, [.int fa, .int (31 * (31 * (31 * hi + 3) + 2) + 1), .int (nI wd), .int (nI mo), .int (nI tb), .ref (ad 1), .ref (ad 2), .ref (ad 3), .ref (ad 4), .ref (ad 5), .ref (ad 6), .ref (ad 7), .ref (ad 8), .ref (ad 9), .int dp, .long many, .long grt, .long lst, .long nou, .ref (ad 10), .ref (ad 11), .ref (ad 12), .int rm, .long rb, .ref (ad 13), .int pr, .ref (ad 14), .ref (ad 15), .ref (ad 16), .ref (ad 17), .int (nI wo), .ref (ad 18), .ref (ad 19)]) := by rw [hen_1205]; exact va_up_self _ _ _
      have hI_1205 : RX cy cs ad en_1205 := by rw [hen_1205]; exact upr_M hI_1204 ⟨fa, (31 * (31 * (31 * hi + 3) + 2) + 1), wd, mo, tb, dp, many, grt, lst, nou, rm, rb, pr, wo, rfl, hwd2, hwd3, hmo, htb, hwo⟩
      have hf_1205 : ∀ c, (c ≠ 0) → en_1205 c = en c := fun c hc => Eq.trans (show en_1205 c = en_1204 c from by rw [hen_1205, va_up_ne _ _ (by omega)]) (hf_1204 c hc)
      have hkp_1205 : KPx en en_1205 := KPx_fv hkp_1204 es1200_1204 es1200_1205 (nI wd) (nI mo) (nI tb) pr (nI wo) rfl rfl rfl rfl rfl rfl rfl rfl rfl rfl
      refine lv_iload_n hx hb dX12_tell_40 rfl (lv_at hl 0 rfl) ?_
      refine lv_iconst (v := 2) hx hb dX12_tell_41 (by decide) ?_
      refine lv_icmp_ne (tgt := 50) hx hb dX12_tell_42 (by decide) (fun c_0 => absurd c_0 (by decide)) (fun _ => ?_)
      refine lv_aload_n hx hb dX12_tell_45 rfl (lv_at hl 1 rfl) ?_
      refine lv_iconst (v := 1) hx hb dX12_tell_46 (by decide) ?_
      refine hp_callMv (va_runV (As := [.int 1]) (rest := []) ⟨hx, hb, hml, hown, hts⟩ (c_X12_begins l D cy _ cs ad en_1205 (hI.1 _ (by decide)) fa (31 * (31 * (31 * hi + 3) + 2) + 1) wd mo tb dp many grt lst nou rm rb pr wo 1 es1200_1205) (kw_X12_begins hts tw_1227 ⟨by decide, by decide⟩) (preV_of hh hK (hI.1 _ (by decide)) es1200_1205 rfl) rfl rfl hl.1 rfl (lv_room (Nat.le_of_ble_eq_true rfl)) dX12_tell_47 ⟨Nat.le_of_ble_eq_true rfl, Nat.le_of_ble_eq_true rfl⟩) hh hA (fun H locs en_1206 hw_1206 hh => ?_)
      have hen_1206 := hw_1206
      have es1200_1206 : en_1206 0 = .inr (11, [.int fa, .int (31 * (31 * (31 * (31 * hi + 3) + 2) + 1) + 1), .int (nI wd), .int (nI mo), .int (nI tb), .ref (ad 1), .ref (ad 2), .ref (ad 3), .ref (ad 4), .ref (ad 5), .ref (ad 6), .ref (ad 7), .ref (ad 8), .ref (ad 9), .int dp, .long many, .long grt, .long lst, .long nou, .ref (ad 10), .ref (ad 11), .ref (ad 12), .int rm, .long rb, .ref (ad 13), .int pr, .ref (ad 14), .ref (ad 15), .ref (ad 16), .ref (ad 17), .int (nI wo), .ref (ad 18), .ref (ad 19)]) := by rw [hen_1206]; exact va_up_self _ _ _
      have hI_1206 : RX cy cs ad en_1206 := by rw [hen_1206]; exact upr_M hI_1205 ⟨fa, (31 * (31 * (31 * (31 * hi + 3) + 2) + 1) + 1), wd, mo, tb, dp, many, grt, lst, nou, rm, rb, pr, wo, rfl, hwd2, hwd3, hmo, htb, hwo⟩
      have hf_1206 : ∀ c, (c ≠ 0) → en_1206 c = en c := fun c hc => Eq.trans (show en_1206 c = en_1205 c from by rw [hen_1206, va_up_ne _ _ (by omega)]) (hf_1205 c hc)
      have hkp_1206 : KPx en en_1206 := KPx_fv hkp_1205 es1200_1205 es1200_1206 (nI wd) (nI mo) (nI tb) pr (nI wo) rfl rfl rfl rfl rfl rfl rfl rfl rfl rfl
      refine lv_iload_n hx hb dX12_tell_50 rfl (lv_at hl 0 rfl) ?_
      refine lv_if_ne (tgt := 62) hx hb dX12_tell_51 (by decide) (fun _ => ?_) (fun c_0 => absurd c_0 (by decide))
      refine lv_iload_n hx hb dX12_tell_62 rfl (lv_at hl 0 rfl) ?_
      refine lv_iconst (v := 1) hx hb dX12_tell_63 (by decide) ?_
      refine lv_icmp_ne (tgt := 81) hx hb dX12_tell_64 (by decide) (fun _ => ?_) (fun c_0 => absurd c_0 (by decide))
      refine lv_iconst (v := 2) hx hb dX12_tell_81 (by decide) ?_
      refine lv_aload_n hx hb dX12_tell_82 rfl (lv_at hl 1 rfl) ?_
      refine lv_iload_n hx hb dX12_tell_83 rfl (lv_at hl 2 rfl) ?_
      refine hp_callRi (va_runV (As := [.int (nI T_1201)]) (rest := [.int 2]) ⟨hx, hb, hml, hown, hts⟩ (c_X12_trackOf l D cy _ cs ad en_1206 hI_1206 T_1201 (by omega)) (kw_X12_trackOf hts tw_1231 ⟨by decide, by decide⟩) (preV_of hh hK (hI.1 _ (by decide)) es1200_1206 rfl) rfl rfl hl.1 rfl (lv_room (Nat.le_of_ble_eq_true rfl)) dX12_tell_84 ⟨Nat.le_of_ble_eq_true rfl, Nat.le_of_ble_eq_true rfl⟩) hh hA (fun r_1207 H locs hw_1207 hh => ?_)
      rw [hf_1206 1 (by decide), hkp_1206.1] at hw_1207
      refine lv_imul hx hb dX12_tell_87 ?_
      refine lv_aload_n hx hb dX12_tell_88 rfl (lv_at hl 1 rfl) ?_
      refine lv_iload_n hx hb dX12_tell_89 rfl (lv_at hl 2 rfl) ?_
      refine hp_callRi (va_runV (As := [.int (nI T_1201)]) (rest := [.int (2 * r_1207)]) ⟨hx, hb, hml, hown, hts⟩ (c_X12_greatestOf l D cy _ cs ad en_1206 hI_1206 T_1201 (by omega)) (kw_X12_greatestOf hts tw_1235 ⟨by decide, by decide⟩) (preV_of hh hK (hI.1 _ (by decide)) es1200_1206 rfl) rfl rfl hl.1 rfl (lv_room (Nat.le_of_ble_eq_true rfl)) dX12_tell_90 ⟨Nat.le_of_ble_eq_true rfl, Nat.le_of_ble_eq_true rfl⟩) hh hA (fun r_1208 H locs hw_1208 hh => ?_)
      rw [hf_1206 1 (by decide), hkp_1206.1] at hw_1208
      refine lv_iadd hx hb dX12_tell_93 ?_
      have hc4 : (rdI (en 0) 4).toInt = (tb : Int) := by rw [es1200]; exact nI_toInt (by omega)
      exact hp_iretM hx hb hr rfl hlocks hh (⟨hI_1206, hf_1206, Or.inr ⟨T_1201, 2, rfl, by omega, ⟨hp_1201.1, by have := hp_1201.2; omega⟩, hk_1202, Or.inr (Or.inr ⟨rfl, (by rw [hw_1207, hw_1208]; rfl), (by rw [es1200_1206, es1200]; rfl)⟩)⟩, hkp_1206⟩) dX12_tell_94
    · obtain rfl : r_1202 = 1 := hb_1202.1
      refine lv_istore_n (lv' := [(2, .int 1), (0, .ref (ad 0)), (1, .int (nI T_1201))]) hx hb dX12_tell_15 rfl hl (by decide) rfl (fun ls hl => ?_)
      refine lv_iload_n hx hb dX12_tell_16 rfl (lv_at hl 0 rfl) ?_
      refine lv_iconst (v := 2) hx hb dX12_tell_17 (by decide) ?_
      refine lv_icmp_ne (tgt := 26) hx hb dX12_tell_18 (by decide) (fun _ => ?_) (fun c_0 => absurd c_0 (by decide))
      refine lv_iload_n hx hb dX12_tell_26 rfl (lv_at hl 0 rfl) ?_
      refine lv_if_le (tgt := 35) hx hb dX12_tell_27 (by decide) (fun c_0 => absurd c_0 (by decide)) (fun _ => ?_)
      refine lv_aload_n hx hb dX12_tell_30 rfl (lv_at hl 1 rfl) ?_
      refine lv_iconst (v := 2) hx hb dX12_tell_31 (by decide) ?_
      refine hp_callMv (va_runV (As := [.int 2]) (rest := []) ⟨hx, hb, hml, hown, hts⟩ (c_X12_begins l D cy _ cs ad en (hI.1 _ (by decide)) fa hi wd mo tb dp many grt lst nou rm rb pr wo 2 es1200) (kw_X12_begins hts tw_1227 ⟨by decide, by decide⟩) (preV_of hh hK (hI.1 _ (by decide)) es1200 rfl) rfl rfl hl.1 rfl (lv_room (Nat.le_of_ble_eq_true rfl)) dX12_tell_32 ⟨Nat.le_of_ble_eq_true rfl, Nat.le_of_ble_eq_true rfl⟩) hh hA (fun H locs en_1209 hw_1209 hh => ?_)
      have hen_1209 := hw_1209
      have es1200_1209 : en_1209 0 = .inr (11, [.int fa, .int (31 * hi + 2), .int (nI wd), .int (nI mo), .int (nI tb), .ref (ad 1), .ref (ad 2), .ref (ad 3), .ref (ad 4), .ref (ad 5), .ref (ad 6), .ref (ad 7), .ref (ad 8), .ref (ad 9), .int dp, .long many, .long grt, .long lst, .long nou, .ref (ad 10), .ref (ad 11), .ref (ad 12), .int rm, .long rb, .ref (ad 13), .int pr, .ref (ad 14), .ref (ad 15), .ref (ad 16), .ref (ad 17), .int (nI wo), .ref (ad 18), .ref (ad 19)]) := by rw [hen_1209]; exact va_up_self _ _ _
      have hI_1209 : RX cy cs ad en_1209 := by rw [hen_1209]; exact upr_M hI ⟨fa, (31 * hi + 2), wd, mo, tb, dp, many, grt, lst, nou, rm, rb, pr, wo, rfl, hwd2, hwd3, hmo, htb, hwo⟩
      have hf_1209 : ∀ c, (c ≠ 0) → en_1209 c = en c := fun c hc => Eq.trans (show en_1209 c = en c from by rw [hen_1209, va_up_ne _ _ (by omega)]) (hf0 c hc)
      have hkp_1209 : KPx en en_1209 := KPx_fv (KPx_rf en) es1200 es1200_1209 (nI wd) (nI mo) (nI tb) pr (nI wo) rfl rfl rfl rfl rfl rfl rfl rfl rfl rfl
      refine lv_aload_n hx hb dX12_tell_35 rfl (lv_at hl 1 rfl) ?_
      refine lv_iconst (v := 1) hx hb dX12_tell_36 (by decide) ?_
      refine hp_callMv (va_runV (As := [.int 1]) (rest := []) ⟨hx, hb, hml, hown, hts⟩ (c_X12_begins l D cy _ cs ad en_1209 (hI.1 _ (by decide)) fa (31 * hi + 2) wd mo tb dp many grt lst nou rm rb pr wo 1 es1200_1209) (kw_X12_begins hts tw_1227 ⟨by decide, by decide⟩) (preV_of hh hK (hI.1 _ (by decide)) es1200_1209 rfl) rfl rfl hl.1 rfl (lv_room (Nat.le_of_ble_eq_true rfl)) dX12_tell_37 ⟨Nat.le_of_ble_eq_true rfl, Nat.le_of_ble_eq_true rfl⟩) hh hA (fun H locs en_1210 hw_1210 hh => ?_)
      have hen_1210 := hw_1210
      have es1200_1210 : en_1210 0 = .inr (11, [.int fa, .int (31 * (31 * hi + 2) + 1), .int (nI wd), .int (nI mo), .int (nI tb), .ref (ad 1), .ref (ad 2), .ref (ad 3), .ref (ad 4), .ref (ad 5), .ref (ad 6), .ref (ad 7), .ref (ad 8), .ref (ad 9), .int dp, .long many, .long grt, .long lst, .long nou, .ref (ad 10), .ref (ad 11), .ref (ad 12), .int rm, .long rb, .ref (ad 13), .int pr, .ref (ad 14), .ref (ad 15), .ref (ad 16), .ref (ad 17), .int (nI wo), .ref (ad 18), .ref (ad 19)]) := by rw [hen_1210]; exact va_up_self _ _ _
      have hI_1210 : RX cy cs ad en_1210 := by rw [hen_1210]; exact upr_M hI_1209 ⟨fa, (31 * (31 * hi + 2) + 1), wd, mo, tb, dp, many, grt, lst, nou, rm, rb, pr, wo, rfl, hwd2, hwd3, hmo, htb, hwo⟩
      have hf_1210 : ∀ c, (c ≠ 0) → en_1210 c = en c := fun c hc => Eq.trans (show en_1210 c = en_1209 c from by rw [hen_1210, va_up_ne _ _ (by omega)]) (hf_1209 c hc)
      have hkp_1210 : KPx en en_1210 := KPx_fv hkp_1209 es1200_1209 es1200_1210 (nI wd) (nI mo) (nI tb) pr (nI wo) rfl rfl rfl rfl rfl rfl rfl rfl rfl rfl
      refine lv_iload_n hx hb dX12_tell_40 rfl (lv_at hl 0 rfl) ?_
      refine lv_iconst (v := 2) hx hb dX12_tell_41 (by decide) ?_
      refine lv_icmp_ne (tgt := 50) hx hb dX12_tell_42 (by decide) (fun _ => ?_) (fun c_0 => absurd c_0 (by decide))
      refine lv_iload_n hx hb dX12_tell_50 rfl (lv_at hl 0 rfl) ?_
      refine lv_if_ne (tgt := 62) hx hb dX12_tell_51 (by decide) (fun _ => ?_) (fun c_0 => absurd c_0 (by decide))
      refine lv_iload_n hx hb dX12_tell_62 rfl (lv_at hl 0 rfl) ?_
      refine lv_iconst (v := 1) hx hb dX12_tell_63 (by decide) ?_
      refine lv_icmp_ne (tgt := 81) hx hb dX12_tell_64 (by decide) (fun c_0 => absurd c_0 (by decide)) (fun _ => ?_)
      refine lv_aload_n hx hb dX12_tell_67 rfl (lv_at hl 1 rfl) ?_
      refine lv_iload_n hx hb dX12_tell_68 rfl (lv_at hl 2 rfl) ?_
      refine hp_callRi (va_runV (As := [.int (nI T_1201)]) (rest := []) ⟨hx, hb, hml, hown, hts⟩ (c_X12_trackOf l D cy _ cs ad en_1210 hI_1210 T_1201 (by omega)) (kw_X12_trackOf hts tw_1231 ⟨by decide, by decide⟩) (preV_of hh hK (hI.1 _ (by decide)) es1200_1210 rfl) rfl rfl hl.1 rfl (lv_room (Nat.le_of_ble_eq_true rfl)) dX12_tell_69 ⟨Nat.le_of_ble_eq_true rfl, Nat.le_of_ble_eq_true rfl⟩) hh hA (fun r_1211 H locs hw_1211 hh => ?_)
      rw [hf_1210 1 (by decide), hkp_1210.1] at hw_1211
      refine lv_aload_n hx hb dX12_tell_72 rfl (lv_at hl 1 rfl) ?_
      refine lv_iload_n hx hb dX12_tell_73 rfl (lv_at hl 2 rfl) ?_
      refine hp_callRi (va_runV (As := [.int (nI T_1201)]) (rest := [.int r_1211]) ⟨hx, hb, hml, hown, hts⟩ (c_X12_greatestOf l D cy _ cs ad en_1210 hI_1210 T_1201 (by omega)) (kw_X12_greatestOf hts tw_1235 ⟨by decide, by decide⟩) (preV_of hh hK (hI.1 _ (by decide)) es1200_1210 rfl) rfl rfl hl.1 rfl (lv_room (Nat.le_of_ble_eq_true rfl)) dX12_tell_74 ⟨Nat.le_of_ble_eq_true rfl, Nat.le_of_ble_eq_true rfl⟩) hh hA (fun r_1212 H locs hw_1212 hh => ?_)
      rw [hf_1210 1 (by decide), hkp_1210.1] at hw_1212
      refine lv_iadd hx hb dX12_tell_77 ?_
      refine lv_goto (tgt := 94) hx hb dX12_tell_78 (by decide) ?_
      have hc4 : (rdI (en 0) 4).toInt = (tb : Int) := by rw [es1200]; exact nI_toInt (by omega)
      exact hp_iretM hx hb hr rfl hlocks hh (⟨hI_1210, hf_1210, Or.inr ⟨T_1201, 1, rfl, by omega, ⟨hp_1201.1, by have := hp_1201.2; omega⟩, hk_1202, Or.inr (Or.inl ⟨rfl, (by rw [hw_1211, hw_1212]; rfl), (by rw [es1200_1210, es1200]; rfl)⟩)⟩, hkp_1210⟩) dX12_tell_94
    · obtain rfl : r_1202 = 0 := hb_1202.1
      refine lv_istore_n (lv' := [(2, .int 0), (0, .ref (ad 0)), (1, .int (nI T_1201))]) hx hb dX12_tell_15 rfl hl (by decide) rfl (fun ls hl => ?_)
      refine lv_iload_n hx hb dX12_tell_16 rfl (lv_at hl 0 rfl) ?_
      refine lv_iconst (v := 2) hx hb dX12_tell_17 (by decide) ?_
      refine lv_icmp_ne (tgt := 26) hx hb dX12_tell_18 (by decide) (fun _ => ?_) (fun c_0 => absurd c_0 (by decide))
      refine lv_iload_n hx hb dX12_tell_26 rfl (lv_at hl 0 rfl) ?_
      refine lv_if_le (tgt := 35) hx hb dX12_tell_27 (by decide) (fun _ => ?_) (fun c_0 => absurd c_0 (by decide))
      refine lv_aload_n hx hb dX12_tell_35 rfl (lv_at hl 1 rfl) ?_
      refine lv_iconst (v := 1) hx hb dX12_tell_36 (by decide) ?_
      refine hp_callMv (va_runV (As := [.int 1]) (rest := []) ⟨hx, hb, hml, hown, hts⟩ (c_X12_begins l D cy _ cs ad en (hI.1 _ (by decide)) fa hi wd mo tb dp many grt lst nou rm rb pr wo 1 es1200) (kw_X12_begins hts tw_1227 ⟨by decide, by decide⟩) (preV_of hh hK (hI.1 _ (by decide)) es1200 rfl) rfl rfl hl.1 rfl (lv_room (Nat.le_of_ble_eq_true rfl)) dX12_tell_37 ⟨Nat.le_of_ble_eq_true rfl, Nat.le_of_ble_eq_true rfl⟩) hh hA (fun H locs en_1213 hw_1213 hh => ?_)
      have hen_1213 := hw_1213
      have es1200_1213 : en_1213 0 = .inr (11, [.int fa, .int (31 * hi + 1), .int (nI wd), .int (nI mo), .int (nI tb), .ref (ad 1), .ref (ad 2), .ref (ad 3), .ref (ad 4), .ref (ad 5), .ref (ad 6), .ref (ad 7), .ref (ad 8), .ref (ad 9), .int dp, .long many, .long grt, .long lst, .long nou, .ref (ad 10), .ref (ad 11), .ref (ad 12), .int rm, .long rb, .ref (ad 13), .int pr, .ref (ad 14), .ref (ad 15), .ref (ad 16), .ref (ad 17), .int (nI wo), .ref (ad 18), .ref (ad 19)]) := by rw [hen_1213]; exact va_up_self _ _ _
      have hI_1213 : RX cy cs ad en_1213 := by rw [hen_1213]; exact upr_M hI ⟨fa, (31 * hi + 1), wd, mo, tb, dp, many, grt, lst, nou, rm, rb, pr, wo, rfl, hwd2, hwd3, hmo, htb, hwo⟩
      have hf_1213 : ∀ c, (c ≠ 0) → en_1213 c = en c := fun c hc => Eq.trans (show en_1213 c = en c from by rw [hen_1213, va_up_ne _ _ (by omega)]) (hf0 c hc)
      have hkp_1213 : KPx en en_1213 := KPx_fv (KPx_rf en) es1200 es1200_1213 (nI wd) (nI mo) (nI tb) pr (nI wo) rfl rfl rfl rfl rfl rfl rfl rfl rfl rfl
      refine lv_iload_n hx hb dX12_tell_40 rfl (lv_at hl 0 rfl) ?_
      refine lv_iconst (v := 2) hx hb dX12_tell_41 (by decide) ?_
      refine lv_icmp_ne (tgt := 50) hx hb dX12_tell_42 (by decide) (fun _ => ?_) (fun c_0 => absurd c_0 (by decide))
      refine lv_iload_n hx hb dX12_tell_50 rfl (lv_at hl 0 rfl) ?_
      refine lv_if_ne (tgt := 62) hx hb dX12_tell_51 (by decide) (fun c_0 => absurd c_0 (by decide)) (fun _ => ?_)
      refine lv_aload_n hx hb dX12_tell_54 rfl (lv_at hl 1 rfl) ?_
      refine lv_iload_n hx hb dX12_tell_55 rfl (lv_at hl 2 rfl) ?_
      refine hp_callRi (va_runV (As := [.int (nI T_1201)]) (rest := []) ⟨hx, hb, hml, hown, hts⟩ (c_X12_trackOf l D cy _ cs ad en_1213 hI_1213 T_1201 (by omega)) (kw_X12_trackOf hts tw_1231 ⟨by decide, by decide⟩) (preV_of hh hK (hI.1 _ (by decide)) es1200_1213 rfl) rfl rfl hl.1 rfl (lv_room (Nat.le_of_ble_eq_true rfl)) dX12_tell_56 ⟨Nat.le_of_ble_eq_true rfl, Nat.le_of_ble_eq_true rfl⟩) hh hA (fun r_1214 H locs hw_1214 hh => ?_)
      rw [hf_1213 1 (by decide), hkp_1213.1] at hw_1214
      refine lv_goto (tgt := 94) hx hb dX12_tell_59 (by decide) ?_
      have hc4 : (rdI (en 0) 4).toInt = (tb : Int) := by rw [es1200]; exact nI_toInt (by omega)
      exact hp_iretM hx hb hr rfl hlocks hh (⟨hI_1213, hf_1213, Or.inr ⟨T_1201, 0, rfl, by omega, ⟨hp_1201.1, by have := hp_1201.2; omega⟩, hk_1202, Or.inl ⟨rfl, hw_1214, (by rw [es1200_1213, es1200]; rfl)⟩⟩, hkp_1213⟩) dX12_tell_94
  · obtain rfl : r_1201 = 0 := Eq.trans hw_1201 (if_neg hp_1201)
    refine lv_if_ne (tgt := 10) hx hb dX12_tell_5 (by decide) (fun c_0 => absurd c_0 (by decide)) (fun _ => ?_)
    refine lv_iconst (v := (-1)) hx hb dX12_tell_8 (by decide) ?_
    have hc4 : (rdI (en 0) 4).toInt = (tb : Int) := by rw [es1200]; exact nI_toInt (by omega)
    exact hp_iretM hx hb hr rfl hlocks hh (⟨hI, hf0, Or.inl ⟨fun q => hp_1201 ⟨q.1, by have := q.2; omega⟩, rfl, rfl⟩, (KPx_rf en)⟩) dX12_tell_9
theorem kw_X12_tell {R : Room} {s : State} {args : Array Value} {own : String} {idx : Nat} (hts : ∀ w ∈ TB, w.before args s = true) (hl : Cond.methodLink own idx yX12_tell ∈ TB) (hR : 1 + 1 ≤ R.frames ∧ 8 + (3 + 11) + 40 * 1 ≤ R.locals) : CallW R s args own RX12 idx yX12_tell cX12_tell 3 (some .int) (Cond.code yX12_tell cX12_tell 3 (some .int) :: TB) (rmN 1) 0 0 1 := cwV 1 hts (TB_V hl tw_1220 tw_1221 tw_9 tw_1222) rfl rfl rfl (by decide +kernel) hR
set_option maxHeartbeats 4000000 in
set_option maxRecDepth 100000 in
/-- weigh -/
theorem c_X12_weigh (l : Launch) (D : va_G) (cy : Nat → ClassId) (sz : Nat) (cs : List Nat) (ad : Nat → Nat) (en : Nat → va_E) (hI : RX cy cs ad en) (t : Int32)   : Met l yX12_weigh (Cond.code yX12_weigh cX12_weigh 3 (some .int) :: TB) (rmN 1) (va_Pc [.ref (ad 0), .int t] (Pre D cy cs ad en sz)) (va_Qi (S := Nat → va_E) (fun r en1 => RX cy cs ad en1 ∧ (∀ c, (c ≠ 0) → en1 c = en c) ∧ RWE t r en en1 ∧ KPx en en1) (PostM D cs ad) (Af cs ad sz)) 0 0 (Af cs ad sz) := by
  refine Met.ofW (cc := cX12_weigh) (maxL := 3) (ret := (some .int)) (by decide) rfl ?_
  intro p e s m args below meth c s₁ B hml hv
  obtain ⟨rfl, hsz, hP, hK, hD0⟩ := hv
  have hx := B.exec
  have hb := B.bytes
  have hr := B.returns
  have hts : ∀ w ∈ TB, w.before _ s = true := fun w h => atoms_spec (ws := _ :: TB) B.pre w (List.mem_cons_of_mem _ h)
  have hown : s.vm.findClass RX12 = some m.cls := findClass_of_methodNamed B.named
  have hlocks := B.notSynchronized
  have hh : Hp D (Af cs ad sz) (Af cs ad sz) s.heap s.heap [] cs ad en := ⟨hP, Af_self hD0, va_S.rf⟩
  have hA : ∀ q : Nat, s.heap.size ≤ q → Af cs ad sz q := fun q h => Or.inr (by rw [hsz] at h; exact h)
  have hl := lv_entry ([.ref (ad 0), .int t]) (n := 3) (Nat.le_of_ble_eq_true rfl)
  rw [lg_entry_eq]
  generalize (lg_sl ([.ref (ad 0), .int t]) ++ List.replicate (3 - (lg_sl ([.ref (ad 0), .int t])).length) Slot.unset).toArray = ls at hl ⊢
  have hl : lv_has ls 3 [(0, .ref (ad 0)), (1, .int t)] := hl
  have hf0 : ∀ c, (c ≠ 0) → en c = en c := fun _ _ => rfl
  obtain ⟨fa, hi, wd, mo, tb, dp, many, grt, lst, nou, rm, rb, pr, wo, es1215, hwd2, hwd3, hmo, htb, hwo⟩ := getr_M hI
  refine lv_aload_n hx hb dX12_weigh_0 rfl (lv_at hl 0 rfl) ?_
  refine lv_iload_n hx hb dX12_weigh_1 rfl (lv_at hl 1 rfl) ?_
  refine hp_callRi (va_runV (As := [.int t]) (rest := []) ⟨hx, hb, hml, hown, hts⟩ (c_X12_isTable l D cy _ cs ad en hI t ) (kw_X12_isTable hts tw_1007 ⟨by decide, by decide⟩) (preV_of hh hK (hI.1 _ (by decide)) es1215 rfl) rfl rfl hl.1 rfl (lv_room (Nat.le_of_ble_eq_true rfl)) dX12_weigh_2 ⟨Nat.le_of_ble_eq_true rfl, Nat.le_of_ble_eq_true rfl⟩) hh hA (fun r_1216 H locs hw_1216 hh => ?_)
  rw [show rdI (en 0) 4 = (nI tb) from by rw [es1215]; rfl, nI_toInt (n := tb) (by omega)] at hw_1216
  rcases Decidable.em (0 ≤ t.toInt ∧ t.toInt < (tb : Int)) with hp_1216 | hp_1216
  · obtain rfl : r_1216 = 1 := Eq.trans hw_1216 (if_pos hp_1216)
    obtain ⟨T_1216, rfl, hT_1216⟩ := has_nat hp_1216
    refine lv_if_ne (tgt := 10) hx hb dX12_weigh_5 (by decide) (fun _ => ?_) (fun c_0 => absurd c_0 (by decide))
    refine lv_aload_n hx hb dX12_weigh_10 rfl (lv_at hl 0 rfl) ?_
    refine lv_iload_n hx hb dX12_weigh_11 rfl (lv_at hl 1 rfl) ?_
    refine hp_callRi (va_runV (As := [.int (nI T_1216)]) (rest := []) ⟨hx, hb, hml, hown, hts⟩ (c_X12_kindOf l D cy _ cs ad en hI T_1216 (by omega)) (kw_X12_kindOf hts tw_1223 ⟨by decide, by decide⟩) (preV_of hh hK (hI.1 _ (by decide)) es1215 rfl) rfl rfl hl.1 rfl (lv_room (Nat.le_of_ble_eq_true rfl)) dX12_weigh_12 ⟨Nat.le_of_ble_eq_true rfl, Nat.le_of_ble_eq_true rfl⟩) hh hA (fun r_1217 H locs hw_1217 hh => ?_)
    have hk_1217 := hw_1217
    rcases hw_1217 with hb_1217 | hb_1217 | hb_1217
    · obtain rfl : r_1217 = 2 := hb_1217.1
      refine lv_iconst (v := 2) hx hb dX12_weigh_15 (by decide) ?_
      refine lv_icmp_ne (tgt := 23) hx hb dX12_weigh_16 (by decide) (fun c_0 => absurd c_0 (by decide)) (fun _ => ?_)
      refine lv_iconst (v := 1) hx hb dX12_weigh_19 (by decide) ?_
      refine lv_goto (tgt := 24) hx hb dX12_weigh_20 (by decide) ?_
      refine lv_istore_n (lv' := [(2, .int 1), (0, .ref (ad 0)), (1, .int (nI T_1216))]) hx hb dX12_weigh_24 rfl hl (by decide) rfl (fun ls hl => ?_)
      refine lv_aload_n hx hb dX12_weigh_25 rfl (lv_at hl 1 rfl) ?_
      refine lv_iload_n hx hb dX12_weigh_26 rfl (lv_at hl 0 rfl) ?_
      refine lv_if_eq (tgt := 34) hx hb dX12_weigh_27 (by decide) (fun c_0 => absurd c_0 (by decide)) (fun _ => ?_)
      refine lv_iconst (v := 5) hx hb dX12_weigh_30 (by decide) ?_
      refine lv_goto (tgt := 35) hx hb dX12_weigh_31 (by decide) ?_
      refine hp_callMv (va_runV (As := [.int 5]) (rest := []) ⟨hx, hb, hml, hown, hts⟩ (c_X12_begins l D cy _ cs ad en (hI.1 _ (by decide)) fa hi wd mo tb dp many grt lst nou rm rb pr wo 5 es1215) (kw_X12_begins hts tw_1227 ⟨by decide, by decide⟩) (preV_of hh hK (hI.1 _ (by decide)) es1215 rfl) rfl rfl hl.1 rfl (lv_room (Nat.le_of_ble_eq_true rfl)) dX12_weigh_35 ⟨Nat.le_of_ble_eq_true rfl, Nat.le_of_ble_eq_true rfl⟩) hh hA (fun H locs en_1218 hw_1218 hh => ?_)
      have hen_1218 := hw_1218
      have es1215_1218 : en_1218 0 = .inr (11, [.int fa, .int (31 * hi + 5), .int (nI wd), .int (nI mo), .int (nI tb), .ref (ad 1), .ref (ad 2), .ref (ad 3), .ref (ad 4), .ref (ad 5), .ref (ad 6), .ref (ad 7), .ref (ad 8), .ref (ad 9), .int dp, .long many, .long grt, .long lst, .long nou, .ref (ad 10), .ref (ad 11), .ref (ad 12), .int rm, .long rb, .ref (ad 13), .int pr, .ref (ad 14), .ref (ad 15), .ref (ad 16), .ref (ad 17), .int (nI wo), .ref (ad 18), .ref (ad 19)]) := by rw [hen_1218]; exact va_up_self _ _ _
      have hI_1218 : RX cy cs ad en_1218 := by rw [hen_1218]; exact upr_M hI ⟨fa, (31 * hi + 5), wd, mo, tb, dp, many, grt, lst, nou, rm, rb, pr, wo, rfl, hwd2, hwd3, hmo, htb, hwo⟩
      have hf_1218 : ∀ c, (c ≠ 0) → en_1218 c = en c := fun c hc => Eq.trans (show en_1218 c = en c from by rw [hen_1218, va_up_ne _ _ (by omega)]) (hf0 c hc)
      have hkp_1218 : KPx en en_1218 := KPx_fv (KPx_rf en) es1215 es1215_1218 (nI wd) (nI mo) (nI tb) pr (nI wo) rfl rfl rfl rfl rfl rfl rfl rfl rfl rfl
      refine lv_iload_n hx hb dX12_weigh_38 rfl (lv_at hl 0 rfl) ?_
      refine lv_if_eq (tgt := 47) hx hb dX12_weigh_39 (by decide) (fun c_0 => absurd c_0 (by decide)) (fun _ => ?_)
      refine lv_bipush (v := 60) hx hb dX12_weigh_42 (by decide) ?_
      refine lv_goto (tgt := 48) hx hb dX12_weigh_44 (by decide) ?_
      have hc4 : (rdI (en 0) 4).toInt = (tb : Int) := by rw [es1215]; exact nI_toInt (by omega)
      exact hp_iretM hx hb hr rfl hlocks hh (⟨hI_1218, hf_1218, Or.inr ⟨T_1216, 2, rfl, by omega, ⟨hp_1216.1, by have := hp_1216.2; omega⟩, hk_1217, Or.inl ⟨rfl, rfl, (by rw [es1215_1218, es1215]; rfl)⟩⟩, hkp_1218⟩) dX12_weigh_48
    · obtain rfl : r_1217 = 1 := hb_1217.1
      refine lv_iconst (v := 2) hx hb dX12_weigh_15 (by decide) ?_
      refine lv_icmp_ne (tgt := 23) hx hb dX12_weigh_16 (by decide) (fun _ => ?_) (fun c_0 => absurd c_0 (by decide))
      refine lv_iconst (v := 0) hx hb dX12_weigh_23 (by decide) ?_
      refine lv_istore_n (lv' := [(2, .int 0), (0, .ref (ad 0)), (1, .int (nI T_1216))]) hx hb dX12_weigh_24 rfl hl (by decide) rfl (fun ls hl => ?_)
      refine lv_aload_n hx hb dX12_weigh_25 rfl (lv_at hl 1 rfl) ?_
      refine lv_iload_n hx hb dX12_weigh_26 rfl (lv_at hl 0 rfl) ?_
      refine lv_if_eq (tgt := 34) hx hb dX12_weigh_27 (by decide) (fun _ => ?_) (fun c_0 => absurd c_0 (by decide))
      refine lv_iconst (v := 4) hx hb dX12_weigh_34 (by decide) ?_
      refine hp_callMv (va_runV (As := [.int 4]) (rest := []) ⟨hx, hb, hml, hown, hts⟩ (c_X12_begins l D cy _ cs ad en (hI.1 _ (by decide)) fa hi wd mo tb dp many grt lst nou rm rb pr wo 4 es1215) (kw_X12_begins hts tw_1227 ⟨by decide, by decide⟩) (preV_of hh hK (hI.1 _ (by decide)) es1215 rfl) rfl rfl hl.1 rfl (lv_room (Nat.le_of_ble_eq_true rfl)) dX12_weigh_35 ⟨Nat.le_of_ble_eq_true rfl, Nat.le_of_ble_eq_true rfl⟩) hh hA (fun H locs en_1219 hw_1219 hh => ?_)
      have hen_1219 := hw_1219
      have es1215_1219 : en_1219 0 = .inr (11, [.int fa, .int (31 * hi + 4), .int (nI wd), .int (nI mo), .int (nI tb), .ref (ad 1), .ref (ad 2), .ref (ad 3), .ref (ad 4), .ref (ad 5), .ref (ad 6), .ref (ad 7), .ref (ad 8), .ref (ad 9), .int dp, .long many, .long grt, .long lst, .long nou, .ref (ad 10), .ref (ad 11), .ref (ad 12), .int rm, .long rb, .ref (ad 13), .int pr, .ref (ad 14), .ref (ad 15), .ref (ad 16), .ref (ad 17), .int (nI wo), .ref (ad 18), .ref (ad 19)]) := by rw [hen_1219]; exact va_up_self _ _ _
      have hI_1219 : RX cy cs ad en_1219 := by rw [hen_1219]; exact upr_M hI ⟨fa, (31 * hi + 4), wd, mo, tb, dp, many, grt, lst, nou, rm, rb, pr, wo, rfl, hwd2, hwd3, hmo, htb, hwo⟩
      have hf_1219 : ∀ c, (c ≠ 0) → en_1219 c = en c := fun c hc => Eq.trans (show en_1219 c = en c from by rw [hen_1219, va_up_ne _ _ (by omega)]) (hf0 c hc)
      have hkp_1219 : KPx en en_1219 := KPx_fv (KPx_rf en) es1215 es1215_1219 (nI wd) (nI mo) (nI tb) pr (nI wo) rfl rfl rfl rfl rfl rfl rfl rfl rfl rfl
      refine lv_iload_n hx hb dX12_weigh_38 rfl (lv_at hl 0 rfl) ?_
      refine lv_if_eq (tgt := 47) hx hb dX12_weigh_39 (by decide) (fun _ => ?_) (fun c_0 => absurd c_0 (by decide))
      refine lv_iload_n hx hb dX12_weigh_47 rfl (lv_at hl 2 rfl) ?_
      have hc4 : (rdI (en 0) 4).toInt = (tb : Int) := by rw [es1215]; exact nI_toInt (by omega)
      exact hp_iretM hx hb hr rfl hlocks hh (⟨hI_1219, hf_1219, Or.inr ⟨T_1216, 1, rfl, by omega, ⟨hp_1216.1, by have := hp_1216.2; omega⟩, hk_1217, Or.inr ⟨by decide, rfl, (by rw [es1215_1219, es1215]; rfl)⟩⟩, hkp_1219⟩) dX12_weigh_48
    · obtain rfl : r_1217 = 0 := hb_1217.1
      refine lv_iconst (v := 2) hx hb dX12_weigh_15 (by decide) ?_
      refine lv_icmp_ne (tgt := 23) hx hb dX12_weigh_16 (by decide) (fun _ => ?_) (fun c_0 => absurd c_0 (by decide))
      refine lv_iconst (v := 0) hx hb dX12_weigh_23 (by decide) ?_
      refine lv_istore_n (lv' := [(2, .int 0), (0, .ref (ad 0)), (1, .int (nI T_1216))]) hx hb dX12_weigh_24 rfl hl (by decide) rfl (fun ls hl => ?_)
      refine lv_aload_n hx hb dX12_weigh_25 rfl (lv_at hl 1 rfl) ?_
      refine lv_iload_n hx hb dX12_weigh_26 rfl (lv_at hl 0 rfl) ?_
      refine lv_if_eq (tgt := 34) hx hb dX12_weigh_27 (by decide) (fun _ => ?_) (fun c_0 => absurd c_0 (by decide))
      refine lv_iconst (v := 4) hx hb dX12_weigh_34 (by decide) ?_
      refine hp_callMv (va_runV (As := [.int 4]) (rest := []) ⟨hx, hb, hml, hown, hts⟩ (c_X12_begins l D cy _ cs ad en (hI.1 _ (by decide)) fa hi wd mo tb dp many grt lst nou rm rb pr wo 4 es1215) (kw_X12_begins hts tw_1227 ⟨by decide, by decide⟩) (preV_of hh hK (hI.1 _ (by decide)) es1215 rfl) rfl rfl hl.1 rfl (lv_room (Nat.le_of_ble_eq_true rfl)) dX12_weigh_35 ⟨Nat.le_of_ble_eq_true rfl, Nat.le_of_ble_eq_true rfl⟩) hh hA (fun H locs en_1220 hw_1220 hh => ?_)
      have hen_1220 := hw_1220
      have es1215_1220 : en_1220 0 = .inr (11, [.int fa, .int (31 * hi + 4), .int (nI wd), .int (nI mo), .int (nI tb), .ref (ad 1), .ref (ad 2), .ref (ad 3), .ref (ad 4), .ref (ad 5), .ref (ad 6), .ref (ad 7), .ref (ad 8), .ref (ad 9), .int dp, .long many, .long grt, .long lst, .long nou, .ref (ad 10), .ref (ad 11), .ref (ad 12), .int rm, .long rb, .ref (ad 13), .int pr, .ref (ad 14), .ref (ad 15), .ref (ad 16), .ref (ad 17), .int (nI wo), .ref (ad 18), .ref (ad 19)]) := by rw [hen_1220]; exact va_up_self _ _ _
      have hI_1220 : RX cy cs ad en_1220 := by rw [hen_1220]; exact upr_M hI ⟨fa, (31 * hi + 4), wd, mo, tb, dp, many, grt, lst, nou, rm, rb, pr, wo, rfl, hwd2, hwd3, hmo, htb, hwo⟩
      have hf_1220 : ∀ c, (c ≠ 0) → en_1220 c = en c := fun c hc => Eq.trans (show en_1220 c = en c from by rw [hen_1220, va_up_ne _ _ (by omega)]) (hf0 c hc)
      have hkp_1220 : KPx en en_1220 := KPx_fv (KPx_rf en) es1215 es1215_1220 (nI wd) (nI mo) (nI tb) pr (nI wo) rfl rfl rfl rfl rfl rfl rfl rfl rfl rfl
      refine lv_iload_n hx hb dX12_weigh_38 rfl (lv_at hl 0 rfl) ?_
      refine lv_if_eq (tgt := 47) hx hb dX12_weigh_39 (by decide) (fun _ => ?_) (fun c_0 => absurd c_0 (by decide))
      refine lv_iload_n hx hb dX12_weigh_47 rfl (lv_at hl 2 rfl) ?_
      have hc4 : (rdI (en 0) 4).toInt = (tb : Int) := by rw [es1215]; exact nI_toInt (by omega)
      exact hp_iretM hx hb hr rfl hlocks hh (⟨hI_1220, hf_1220, Or.inr ⟨T_1216, 0, rfl, by omega, ⟨hp_1216.1, by have := hp_1216.2; omega⟩, hk_1217, Or.inr ⟨by decide, rfl, (by rw [es1215_1220, es1215]; rfl)⟩⟩, hkp_1220⟩) dX12_weigh_48
  · obtain rfl : r_1216 = 0 := Eq.trans hw_1216 (if_neg hp_1216)
    refine lv_if_ne (tgt := 10) hx hb dX12_weigh_5 (by decide) (fun c_0 => absurd c_0 (by decide)) (fun _ => ?_)
    refine lv_iconst (v := (-1)) hx hb dX12_weigh_8 (by decide) ?_
    have hc4 : (rdI (en 0) 4).toInt = (tb : Int) := by rw [es1215]; exact nI_toInt (by omega)
    exact hp_iretM hx hb hr rfl hlocks hh (⟨hI, hf0, Or.inl ⟨fun q => hp_1216 ⟨q.1, by have := q.2; omega⟩, rfl, rfl⟩, (KPx_rf en)⟩) dX12_weigh_9
theorem kw_X12_weigh {R : Room} {s : State} {args : Array Value} {own : String} {idx : Nat} (hts : ∀ w ∈ TB, w.before args s = true) (hl : Cond.methodLink own idx yX12_weigh ∈ TB) (hR : 1 + 1 ≤ R.frames ∧ 8 + (3 + 11) + 40 * 1 ≤ R.locals) : CallW R s args own RX12 idx yX12_weigh cX12_weigh 3 (some .int) (Cond.code yX12_weigh cX12_weigh 3 (some .int) :: TB) (rmN 1) 0 0 1 := cwV 1 hts (TB_V hl tw_1240 tw_1241 tw_9 tw_1242) rfl rfl rfl (by decide +kernel) hR
set_option maxHeartbeats 4000000 in
set_option maxRecDepth 100000 in
/-- as -/
theorem c_X12_as (l : Launch) (D : va_G) (cy : Nat → ClassId) (sz : Nat) (cs : List Nat) (ad : Nat → Nat) (en : Nat → va_E) (hI : RX cy cs ad en) (t z : Int32)   : Met l yX12_as (Cond.code yX12_as cX12_as 3 (some .int) :: TB) (rmN 1) (va_Pc [.ref (ad 0), .int t, .int z] (Pre D cy cs ad en sz)) (va_Qi (S := Nat → va_E) (fun r en1 => RX cy cs ad en1 ∧ (∀ c, (c ≠ 0) → en1 c = en c) ∧ RAS t z r en ∧ KP en en1) (PostM D cs ad) (Af cs ad sz)) 0 0 (Af cs ad sz) := by
  refine Met.ofW (cc := cX12_as) (maxL := 3) (ret := (some .int)) (by decide) rfl ?_
  intro p e s m args below meth c s₁ B hml hv
  obtain ⟨rfl, hsz, hP, hK, hD0⟩ := hv
  have hx := B.exec
  have hb := B.bytes
  have hr := B.returns
  have hts : ∀ w ∈ TB, w.before _ s = true := fun w h => atoms_spec (ws := _ :: TB) B.pre w (List.mem_cons_of_mem _ h)
  have hown : s.vm.findClass RX12 = some m.cls := findClass_of_methodNamed B.named
  have hlocks := B.notSynchronized
  have hh : Hp D (Af cs ad sz) (Af cs ad sz) s.heap s.heap [] cs ad en := ⟨hP, Af_self hD0, va_S.rf⟩
  have hA : ∀ q : Nat, s.heap.size ≤ q → Af cs ad sz q := fun q h => Or.inr (by rw [hsz] at h; exact h)
  have hl := lv_entry ([.ref (ad 0), .int t, .int z]) (n := 3) (Nat.le_of_ble_eq_true rfl)
  rw [lg_entry_eq]
  generalize (lg_sl ([.ref (ad 0), .int t, .int z]) ++ List.replicate (3 - (lg_sl ([.ref (ad 0), .int t, .int z])).length) Slot.unset).toArray = ls at hl ⊢
  have hl : lv_has ls 3 [(0, .ref (ad 0)), (1, .int t), (2, .int z)] := hl
  have hf0 : ∀ c, (c ≠ 0) → en c = en c := fun _ _ => rfl
  obtain ⟨fa, hi, wd, mo, tb, dp, many, grt, lst, nou, rm, rb, pr, wo, es1221, hwd2, hwd3, hmo, htb, hwo⟩ := getr_M hI
  refine lv_aload_n hx hb dX12_as_0 rfl (lv_at hl 0 rfl) ?_
  refine lv_iconst (v := 0) hx hb dX12_as_1 (by decide) ?_
  refine hp_put hx hb hts ix12 tyX12 tyX12_ok nmX12 hown hK hh (q := 0) rfl (hI.1 _ (by decide)) es1221 rfl 0 (by decide) (hts _ tw_879) (fun _ h9 => h9) rfl (ty := .int) (by decide +kernel) rfl rfl (Nat.le_of_ble_eq_true rfl) dX12_as_2 (fun H locs en_1222 hen_1222 hh => ?_)
  have es1221_1222 : en_1222 0 = .inr (11, [.int 0, .int hi, .int (nI wd), .int (nI mo), .int (nI tb), .ref (ad 1), .ref (ad 2), .ref (ad 3), .ref (ad 4), .ref (ad 5), .ref (ad 6), .ref (ad 7), .ref (ad 8), .ref (ad 9), .int dp, .long many, .long grt, .long lst, .long nou, .ref (ad 10), .ref (ad 11), .ref (ad 12), .int rm, .long rb, .ref (ad 13), .int pr, .ref (ad 14), .ref (ad 15), .ref (ad 16), .ref (ad 17), .int (nI wo), .ref (ad 18), .ref (ad 19)]) := by rw [hen_1222]; exact va_up_self _ _ _
  have hI_1222 : RX cy cs ad en_1222 := by rw [hen_1222]; exact upr_M hI ⟨0, hi, wd, mo, tb, dp, many, grt, lst, nou, rm, rb, pr, wo, rfl, hwd2, hwd3, hmo, htb, hwo⟩
  have hf_1222 : ∀ c, (c ≠ 0) → en_1222 c = en c := fun c hc => Eq.trans (show en_1222 c = en c from by rw [hen_1222, va_up_ne _ _ (by omega)]) (hf0 c hc)
  have hkp_1222 : KP en en_1222 := KP_fv (KP_rf en) es1221 es1221_1222 hi (nI wd) (nI mo) (nI tb) pr (nI wo) rfl rfl rfl rfl rfl rfl rfl rfl rfl rfl rfl rfl
  refine lv_aload_n hx hb dX12_as_5 rfl (lv_at hl 0 rfl) ?_
  refine lv_iload_n hx hb dX12_as_6 rfl (lv_at hl 1 rfl) ?_
  refine hp_callRi (va_runV (As := [.int t]) (rest := []) ⟨hx, hb, hml, hown, hts⟩ (c_X12_isTable l D cy _ cs ad en_1222 hI_1222 t ) (kw_X12_isTable hts tw_1007 ⟨by decide, by decide⟩) (preV_of hh hK (hI.1 _ (by decide)) es1221_1222 rfl) rfl rfl hl.1 rfl (lv_room (Nat.le_of_ble_eq_true rfl)) dX12_as_7 ⟨Nat.le_of_ble_eq_true rfl, Nat.le_of_ble_eq_true rfl⟩) hh hA (fun r_1223 H locs hw_1223 hh => ?_)
  rw [show rdI (en_1222 0) 4 = (nI tb) from by rw [es1221_1222]; rfl, nI_toInt (n := tb) (by omega)] at hw_1223
  rcases Decidable.em (0 ≤ t.toInt ∧ t.toInt < (tb : Int)) with hp_1223 | hp_1223
  · obtain rfl : r_1223 = 1 := Eq.trans hw_1223 (if_pos hp_1223)
    obtain ⟨T_1223, rfl, hT_1223⟩ := has_nat hp_1223
    refine lv_if_ne (tgt := 15) hx hb dX12_as_10 (by decide) (fun _ => ?_) (fun c_0 => absurd c_0 (by decide))
    refine lv_iload_n hx hb dX12_as_15 rfl (lv_at hl 2 rfl) ?_
    refine lv_i2l hx hb dX12_as_16 rfl ?_
    refine lv_lconst (v := 0) hx hb dX12_as_17 (by decide) ?_
    refine lv_ldc2 hx hb hown (hts _ tw_983) dX12_as_18 ?_
    refine hp_callRi (va_runS (As := [.long z.toInt64, .long 0, .long 2]) (rest := []) ⟨hx, hb, hml, hown, hts⟩ (c_X12_within l D cy _ cs ad en_1222 z.toInt64 0 2) (kw_X12_within hts tw_985 ⟨by decide, by decide⟩) (preS_of hh hK) rfl rfl hl.1 rfl (lv_room (Nat.le_of_ble_eq_true rfl)) dX12_as_21 ⟨Nat.le_of_ble_eq_true rfl, Nat.le_of_ble_eq_true rfl⟩) hh hA (fun r_1224 H locs hw_1224 hh => ?_)
    rcases Decidable.em (wi z 0 2) with hp_1224 | hp_1224
    · obtain rfl : r_1224 = 1 := Eq.trans hw_1224 (if_pos ((wj_32 (by decide) (by decide)).mpr hp_1224))
      obtain ⟨N_1224, rfl, hA_1224, hB_1224⟩ := wi_natB hp_1224 0 2 (by decide) (by decide)
      refine lv_if_ne (tgt := 30) hx hb dX12_as_24 (by decide) (fun _ => ?_) (fun c_0 => absurd c_0 (by decide))
      refine lv_aload_n hx hb dX12_as_30 rfl (lv_at hl 0 rfl) ?_
      refine lv_iload_n hx hb dX12_as_31 rfl (lv_at hl 1 rfl) ?_
      refine hp_callRi (va_runV (As := [.int (nI T_1223)]) (rest := []) ⟨hx, hb, hml, hown, hts⟩ (c_X12_kindOf l D cy _ cs ad en_1222 hI_1222 T_1223 (by omega)) (kw_X12_kindOf hts tw_1223 ⟨by decide, by decide⟩) (preV_of hh hK (hI.1 _ (by decide)) es1221_1222 rfl) rfl rfl hl.1 rfl (lv_room (Nat.le_of_ble_eq_true rfl)) dX12_as_32 ⟨Nat.le_of_ble_eq_true rfl, Nat.le_of_ble_eq_true rfl⟩) hh hA (fun r_1225 H locs hw_1225 hh => ?_)
      have hk_1225 := hw_1225
      rw [hf_1222 1 (by decide), hkp_1222.2.1] at hk_1225
      rcases hw_1225 with hb_1225 | hb_1225 | hb_1225
      · obtain rfl : r_1225 = 2 := hb_1225.1
        refine lv_iload_n hx hb dX12_as_35 rfl (lv_at hl 2 rfl) ?_
        refine lv_icmp_lt (tgt := 43) hx hb dX12_as_36 (by decide) (fun c_1226 => ?_) (fun c_1226 => ?_)
        · have n_1226 : 2 < N_1224 := n_lt (a := 2) (b := N_1224) c_1226 (by decide) (by omega)
          refine lv_aload_n hx hb dX12_as_43 rfl (lv_at hl 0 rfl) ?_
          refine lv_iconst (v := 2) hx hb dX12_as_44 (by decide) ?_
          refine hp_callMi (va_runV (As := [.int 2]) (rest := []) ⟨hx, hb, hml, hown, hts⟩ (c_X12_fails l D cy _ cs ad en_1222 (hI.1 _ (by decide)) 0 hi wd mo tb dp many grt lst nou rm rb pr wo 2 es1221_1222) (kw_X12_fails hts tw_997 ⟨by decide, by decide⟩) (preV_of hh hK (hI.1 _ (by decide)) es1221_1222 rfl) rfl rfl hl.1 rfl (lv_room (Nat.le_of_ble_eq_true rfl)) dX12_as_45 ⟨Nat.le_of_ble_eq_true rfl, Nat.le_of_ble_eq_true rfl⟩) hh hA (fun r_1227 H locs en_1227 hw_1227 hh => ?_)
          obtain ⟨hr_1227, hen_1227⟩ := hw_1227
          have es1221_1227 : en_1227 0 = .inr (11, [.int 2, .int hi, .int (nI wd), .int (nI mo), .int (nI tb), .ref (ad 1), .ref (ad 2), .ref (ad 3), .ref (ad 4), .ref (ad 5), .ref (ad 6), .ref (ad 7), .ref (ad 8), .ref (ad 9), .int dp, .long many, .long grt, .long lst, .long nou, .ref (ad 10), .ref (ad 11), .ref (ad 12), .int rm, .long rb, .ref (ad 13), .int pr, .ref (ad 14), .ref (ad 15), .ref (ad 16), .ref (ad 17), .int (nI wo), .ref (ad 18), .ref (ad 19)]) := by rw [hen_1227]; exact va_up_self _ _ _
          have hI_1227 : RX cy cs ad en_1227 := by rw [hen_1227]; exact upr_M hI_1222 ⟨2, hi, wd, mo, tb, dp, many, grt, lst, nou, rm, rb, pr, wo, rfl, hwd2, hwd3, hmo, htb, hwo⟩
          have hf_1227 : ∀ c, (c ≠ 0) → en_1227 c = en c := fun c hc => Eq.trans (show en_1227 c = en_1222 c from by rw [hen_1227, va_up_ne _ _ (by omega)]) (hf_1222 c hc)
          have hkp_1227 : KP en en_1227 := KP_fv hkp_1222 es1221_1222 es1221_1227 hi (nI wd) (nI mo) (nI tb) pr (nI wo) rfl rfl rfl rfl rfl rfl rfl rfl rfl rfl rfl rfl
          obtain rfl : r_1227 = (-12) := hr_1227.trans (by decide)
          have hc4 : (rdI (en 0) 4).toInt = (tb : Int) := by rw [es1221]; exact nI_toInt (by omega)
          exact hp_iretM hx hb hr rfl hlocks hh (⟨hI_1227, hf_1227, Or.inr (Or.inr ⟨T_1223, N_1224, 2, rfl, rfl, by omega, by omega, by omega, ⟨hp_1223.1, by have := hp_1223.2; omega⟩, hp_1224, hk_1225, Or.inr ⟨by omega, rfl⟩⟩), hkp_1227⟩) dX12_as_48
        · have n_1226 : N_1224 ≤ 2 := n_nlt (a := 2) (b := N_1224) c_1226 (by decide) (by omega)
          refine lv_iconst (v := 1) hx hb dX12_as_39 (by decide) ?_
          refine lv_goto (tgt := 48) hx hb dX12_as_40 (by decide) ?_
          have hc4 : (rdI (en 0) 4).toInt = (tb : Int) := by rw [es1221]; exact nI_toInt (by omega)
          exact hp_iretM hx hb hr rfl hlocks hh (⟨hI_1222, hf_1222, Or.inr (Or.inr ⟨T_1223, N_1224, 2, rfl, rfl, by omega, by omega, by omega, ⟨hp_1223.1, by have := hp_1223.2; omega⟩, hp_1224, hk_1225, Or.inl ⟨by omega, rfl⟩⟩), hkp_1222⟩) dX12_as_48
      · obtain rfl : r_1225 = 1 := hb_1225.1
        refine lv_iload_n hx hb dX12_as_35 rfl (lv_at hl 2 rfl) ?_
        refine lv_icmp_lt (tgt := 43) hx hb dX12_as_36 (by decide) (fun c_1228 => ?_) (fun c_1228 => ?_)
        · have n_1228 : 1 < N_1224 := n_lt (a := 1) (b := N_1224) c_1228 (by decide) (by omega)
          refine lv_aload_n hx hb dX12_as_43 rfl (lv_at hl 0 rfl) ?_
          refine lv_iconst (v := 2) hx hb dX12_as_44 (by decide) ?_
          refine hp_callMi (va_runV (As := [.int 2]) (rest := []) ⟨hx, hb, hml, hown, hts⟩ (c_X12_fails l D cy _ cs ad en_1222 (hI.1 _ (by decide)) 0 hi wd mo tb dp many grt lst nou rm rb pr wo 2 es1221_1222) (kw_X12_fails hts tw_997 ⟨by decide, by decide⟩) (preV_of hh hK (hI.1 _ (by decide)) es1221_1222 rfl) rfl rfl hl.1 rfl (lv_room (Nat.le_of_ble_eq_true rfl)) dX12_as_45 ⟨Nat.le_of_ble_eq_true rfl, Nat.le_of_ble_eq_true rfl⟩) hh hA (fun r_1229 H locs en_1229 hw_1229 hh => ?_)
          obtain ⟨hr_1229, hen_1229⟩ := hw_1229
          have es1221_1229 : en_1229 0 = .inr (11, [.int 2, .int hi, .int (nI wd), .int (nI mo), .int (nI tb), .ref (ad 1), .ref (ad 2), .ref (ad 3), .ref (ad 4), .ref (ad 5), .ref (ad 6), .ref (ad 7), .ref (ad 8), .ref (ad 9), .int dp, .long many, .long grt, .long lst, .long nou, .ref (ad 10), .ref (ad 11), .ref (ad 12), .int rm, .long rb, .ref (ad 13), .int pr, .ref (ad 14), .ref (ad 15), .ref (ad 16), .ref (ad 17), .int (nI wo), .ref (ad 18), .ref (ad 19)]) := by rw [hen_1229]; exact va_up_self _ _ _
          have hI_1229 : RX cy cs ad en_1229 := by rw [hen_1229]; exact upr_M hI_1222 ⟨2, hi, wd, mo, tb, dp, many, grt, lst, nou, rm, rb, pr, wo, rfl, hwd2, hwd3, hmo, htb, hwo⟩
          have hf_1229 : ∀ c, (c ≠ 0) → en_1229 c = en c := fun c hc => Eq.trans (show en_1229 c = en_1222 c from by rw [hen_1229, va_up_ne _ _ (by omega)]) (hf_1222 c hc)
          have hkp_1229 : KP en en_1229 := KP_fv hkp_1222 es1221_1222 es1221_1229 hi (nI wd) (nI mo) (nI tb) pr (nI wo) rfl rfl rfl rfl rfl rfl rfl rfl rfl rfl rfl rfl
          obtain rfl : r_1229 = (-12) := hr_1229.trans (by decide)
          have hc4 : (rdI (en 0) 4).toInt = (tb : Int) := by rw [es1221]; exact nI_toInt (by omega)
          exact hp_iretM hx hb hr rfl hlocks hh (⟨hI_1229, hf_1229, Or.inr (Or.inr ⟨T_1223, N_1224, 1, rfl, rfl, by omega, by omega, by omega, ⟨hp_1223.1, by have := hp_1223.2; omega⟩, hp_1224, hk_1225, Or.inr ⟨by omega, rfl⟩⟩), hkp_1229⟩) dX12_as_48
        · have n_1228 : N_1224 ≤ 1 := n_nlt (a := 1) (b := N_1224) c_1228 (by decide) (by omega)
          refine lv_iconst (v := 1) hx hb dX12_as_39 (by decide) ?_
          refine lv_goto (tgt := 48) hx hb dX12_as_40 (by decide) ?_
          have hc4 : (rdI (en 0) 4).toInt = (tb : Int) := by rw [es1221]; exact nI_toInt (by omega)
          exact hp_iretM hx hb hr rfl hlocks hh (⟨hI_1222, hf_1222, Or.inr (Or.inr ⟨T_1223, N_1224, 1, rfl, rfl, by omega, by omega, by omega, ⟨hp_1223.1, by have := hp_1223.2; omega⟩, hp_1224, hk_1225, Or.inl ⟨by omega, rfl⟩⟩), hkp_1222⟩) dX12_as_48
      · obtain rfl : r_1225 = 0 := hb_1225.1
        refine lv_iload_n hx hb dX12_as_35 rfl (lv_at hl 2 rfl) ?_
        refine lv_icmp_lt (tgt := 43) hx hb dX12_as_36 (by decide) (fun c_1230 => ?_) (fun c_1230 => ?_)
        · have n_1230 : 0 < N_1224 := n_lt (a := 0) (b := N_1224) c_1230 (by decide) (by omega)
          refine lv_aload_n hx hb dX12_as_43 rfl (lv_at hl 0 rfl) ?_
          refine lv_iconst (v := 2) hx hb dX12_as_44 (by decide) ?_
          refine hp_callMi (va_runV (As := [.int 2]) (rest := []) ⟨hx, hb, hml, hown, hts⟩ (c_X12_fails l D cy _ cs ad en_1222 (hI.1 _ (by decide)) 0 hi wd mo tb dp many grt lst nou rm rb pr wo 2 es1221_1222) (kw_X12_fails hts tw_997 ⟨by decide, by decide⟩) (preV_of hh hK (hI.1 _ (by decide)) es1221_1222 rfl) rfl rfl hl.1 rfl (lv_room (Nat.le_of_ble_eq_true rfl)) dX12_as_45 ⟨Nat.le_of_ble_eq_true rfl, Nat.le_of_ble_eq_true rfl⟩) hh hA (fun r_1231 H locs en_1231 hw_1231 hh => ?_)
          obtain ⟨hr_1231, hen_1231⟩ := hw_1231
          have es1221_1231 : en_1231 0 = .inr (11, [.int 2, .int hi, .int (nI wd), .int (nI mo), .int (nI tb), .ref (ad 1), .ref (ad 2), .ref (ad 3), .ref (ad 4), .ref (ad 5), .ref (ad 6), .ref (ad 7), .ref (ad 8), .ref (ad 9), .int dp, .long many, .long grt, .long lst, .long nou, .ref (ad 10), .ref (ad 11), .ref (ad 12), .int rm, .long rb, .ref (ad 13), .int pr, .ref (ad 14), .ref (ad 15), .ref (ad 16), .ref (ad 17), .int (nI wo), .ref (ad 18), .ref (ad 19)]) := by rw [hen_1231]; exact va_up_self _ _ _
          have hI_1231 : RX cy cs ad en_1231 := by rw [hen_1231]; exact upr_M hI_1222 ⟨2, hi, wd, mo, tb, dp, many, grt, lst, nou, rm, rb, pr, wo, rfl, hwd2, hwd3, hmo, htb, hwo⟩
          have hf_1231 : ∀ c, (c ≠ 0) → en_1231 c = en c := fun c hc => Eq.trans (show en_1231 c = en_1222 c from by rw [hen_1231, va_up_ne _ _ (by omega)]) (hf_1222 c hc)
          have hkp_1231 : KP en en_1231 := KP_fv hkp_1222 es1221_1222 es1221_1231 hi (nI wd) (nI mo) (nI tb) pr (nI wo) rfl rfl rfl rfl rfl rfl rfl rfl rfl rfl rfl rfl
          obtain rfl : r_1231 = (-12) := hr_1231.trans (by decide)
          have hc4 : (rdI (en 0) 4).toInt = (tb : Int) := by rw [es1221]; exact nI_toInt (by omega)
          exact hp_iretM hx hb hr rfl hlocks hh (⟨hI_1231, hf_1231, Or.inr (Or.inr ⟨T_1223, N_1224, 0, rfl, rfl, by omega, by omega, by omega, ⟨hp_1223.1, by have := hp_1223.2; omega⟩, hp_1224, hk_1225, Or.inr ⟨by omega, rfl⟩⟩), hkp_1231⟩) dX12_as_48
        · have n_1230 : N_1224 ≤ 0 := n_nlt (a := 0) (b := N_1224) c_1230 (by decide) (by omega)
          refine lv_iconst (v := 1) hx hb dX12_as_39 (by decide) ?_
          refine lv_goto (tgt := 48) hx hb dX12_as_40 (by decide) ?_
          have hc4 : (rdI (en 0) 4).toInt = (tb : Int) := by rw [es1221]; exact nI_toInt (by omega)
          exact hp_iretM hx hb hr rfl hlocks hh (⟨hI_1222, hf_1222, Or.inr (Or.inr ⟨T_1223, N_1224, 0, rfl, rfl, by omega, by omega, by omega, ⟨hp_1223.1, by have := hp_1223.2; omega⟩, hp_1224, hk_1225, Or.inl ⟨by omega, rfl⟩⟩), hkp_1222⟩) dX12_as_48
    · obtain rfl : r_1224 = 0 := Eq.trans hw_1224 (if_neg (fun q => hp_1224 ((wj_32 (by decide) (by decide)).mp q)))
      refine lv_if_ne (tgt := 30) hx hb dX12_as_24 (by decide) (fun c_0 => absurd c_0 (by decide)) (fun _ => ?_)
      refine lv_bipush (v := (-2)) hx hb dX12_as_27 (by decide) ?_
      have hc4 : (rdI (en 0) 4).toInt = (tb : Int) := by rw [es1221]; exact nI_toInt (by omega)
      exact hp_iretM hx hb hr rfl hlocks hh (⟨hI_1222, hf_1222, Or.inr (Or.inl ⟨⟨hp_1223.1, by have := hp_1223.2; omega⟩, hp_1224, rfl⟩), hkp_1222⟩) dX12_as_29
  · obtain rfl : r_1223 = 0 := Eq.trans hw_1223 (if_neg hp_1223)
    refine lv_if_ne (tgt := 15) hx hb dX12_as_10 (by decide) (fun c_0 => absurd c_0 (by decide)) (fun _ => ?_)
    refine lv_iconst (v := (-1)) hx hb dX12_as_13 (by decide) ?_
    have hc4 : (rdI (en 0) 4).toInt = (tb : Int) := by rw [es1221]; exact nI_toInt (by omega)
    exact hp_iretM hx hb hr rfl hlocks hh (⟨hI_1222, hf_1222, Or.inl ⟨fun q => hp_1223 ⟨q.1, by have := q.2; omega⟩, rfl⟩, hkp_1222⟩) dX12_as_14
theorem kw_X12_as {R : Room} {s : State} {args : Array Value} {own : String} {idx : Nat} (hts : ∀ w ∈ TB, w.before args s = true) (hl : Cond.methodLink own idx yX12_as ∈ TB) (hR : 1 + 1 ≤ R.frames ∧ 8 + (3 + 11) + 40 * 1 ≤ R.locals) : CallW R s args own RX12 idx yX12_as cX12_as 3 (some .int) (Cond.code yX12_as cX12_as 3 (some .int) :: TB) (rmN 1) 0 0 2 := cwV 2 hts (TB_V hl tw_1244 tw_1245 tw_9 tw_1246) rfl rfl rfl (by decide +kernel) hR
set_option maxHeartbeats 4000000 in
set_option maxRecDepth 100000 in
/-- history -/
theorem c_X12_history (l : Launch) (D : va_G) (cy : Nat → ClassId) (sz : Nat) (cs : List Nat) (ad : Nat → Nat) (en : Nat → va_E) (hI : RX cy cs ad en)    : Met l yX12_history (Cond.code yX12_history cX12_history 1 (some .int) :: TB) (rmN 0) (va_Pc [.ref (ad 0)] (Pre D cy cs ad en sz)) (va_Qi (S := Unit) (fun r _ => r = rdI (en 0) 1) (fun _ _ => True) (Nf sz)) 0 0 (Nf sz) := by
  refine Met.ofW (cc := cX12_history) (maxL := 1) (ret := (some .int)) (by decide) rfl ?_
  intro p e s m args below meth c s₁ B hml hv
  obtain ⟨rfl, hsz, hP, hK, hD0⟩ := hv
  have hx := B.exec
  have hb := B.bytes
  have hr := B.returns
  have hts : ∀ w ∈ TB, w.before _ s = true := fun w h => atoms_spec (ws := _ :: TB) B.pre w (List.mem_cons_of_mem _ h)
  have hown : s.vm.findClass RX12 = some m.cls := findClass_of_methodNamed B.named
  have hlocks := B.notSynchronized
  have hh : Hp D (Nf sz) (fun _ => True) s.heap s.heap [] cs ad en := ⟨hP, hD0, va_S.rf⟩
  have hA : ∀ q : Nat, s.heap.size ≤ q → Nf sz q := fun q h => by rw [hsz] at h; exact h
  have hl := lv_entry ([.ref (ad 0)]) (n := 1) (Nat.le_of_ble_eq_true rfl)
  rw [lg_entry_eq]
  generalize (lg_sl ([.ref (ad 0)]) ++ List.replicate (1 - (lg_sl ([.ref (ad 0)])).length) Slot.unset).toArray = ls at hl ⊢
  have hl : lv_has ls 1 [(0, .ref (ad 0))] := hl
  obtain ⟨fa, hi, wd, mo, tb, dp, many, grt, lst, nou, rm, rb, pr, wo, es1232, hwd2, hwd3, hmo, htb, hwo⟩ := getr_M hI
  refine lv_aload_n hx hb dX12_history_0 rfl (lv_at hl 0 rfl) ?_
  refine hp_get hx hb hts ix12 hown hK hh (q := 0) rfl (hI.1 _ (by decide)) es1232 rfl 1 (by decide) (hts _ tw_880) (fun _ h9 => h9) rfl dX12_history_1 ?_
  exact hp_iretR hx hb hr rfl hlocks hsz hh ((by rw [es1232]; rfl)) dX12_history_4
theorem kw_X12_history {R : Room} {s : State} {args : Array Value} {own : String} {idx : Nat} (hts : ∀ w ∈ TB, w.before args s = true) (hl : Cond.methodLink own idx yX12_history ∈ TB) (hR : 0 + 1 ≤ R.frames ∧ 8 + (1 + 11) + 40 * 0 ≤ R.locals) : CallW R s args own RX12 idx yX12_history cX12_history 1 (some .int) (Cond.code yX12_history cX12_history 1 (some .int) :: TB) (rmN 0) 0 0 0 := cwV 0 hts (TB_V hl tw_1248 tw_1249 tw_9 tw_1250) rfl rfl rfl (by decide +kernel) hR
set_option maxHeartbeats 4000000 in
set_option maxRecDepth 100000 in
/-- fault -/
theorem c_X12_fault (l : Launch) (D : va_G) (cy : Nat → ClassId) (sz : Nat) (cs : List Nat) (ad : Nat → Nat) (en : Nat → va_E) (hI : RX cy cs ad en)    : Met l yX12_fault (Cond.code yX12_fault cX12_fault 1 (some .int) :: TB) (rmN 0) (va_Pc [.ref (ad 0)] (Pre D cy cs ad en sz)) (va_Qi (S := Unit) (fun _ _ => True) (fun _ _ => True) (Nf sz)) 0 0 (Nf sz) := by
  refine Met.ofW (cc := cX12_fault) (maxL := 1) (ret := (some .int)) (by decide) rfl ?_
  intro p e s m args below meth c s₁ B hml hv
  obtain ⟨rfl, hsz, hP, hK, hD0⟩ := hv
  have hx := B.exec
  have hb := B.bytes
  have hr := B.returns
  have hts : ∀ w ∈ TB, w.before _ s = true := fun w h => atoms_spec (ws := _ :: TB) B.pre w (List.mem_cons_of_mem _ h)
  have hown : s.vm.findClass RX12 = some m.cls := findClass_of_methodNamed B.named
  have hlocks := B.notSynchronized
  have hh : Hp D (Nf sz) (fun _ => True) s.heap s.heap [] cs ad en := ⟨hP, hD0, va_S.rf⟩
  have hA : ∀ q : Nat, s.heap.size ≤ q → Nf sz q := fun q h => by rw [hsz] at h; exact h
  have hl := lv_entry ([.ref (ad 0)]) (n := 1) (Nat.le_of_ble_eq_true rfl)
  rw [lg_entry_eq]
  generalize (lg_sl ([.ref (ad 0)]) ++ List.replicate (1 - (lg_sl ([.ref (ad 0)])).length) Slot.unset).toArray = ls at hl ⊢
  have hl : lv_has ls 1 [(0, .ref (ad 0))] := hl
  obtain ⟨fa, hi, wd, mo, tb, dp, many, grt, lst, nou, rm, rb, pr, wo, es1233, hwd2, hwd3, hmo, htb, hwo⟩ := getr_M hI
  refine lv_aload_n hx hb dX12_fault_0 rfl (lv_at hl 0 rfl) ?_
  refine hp_get hx hb hts ix12 hown hK hh (q := 0) rfl (hI.1 _ (by decide)) es1233 rfl 0 (by decide) (hts _ tw_879) (fun _ h9 => h9) rfl dX12_fault_1 ?_
  exact hp_iretR hx hb hr rfl hlocks hsz hh (trivial) dX12_fault_4
theorem kw_X12_fault {R : Room} {s : State} {args : Array Value} {own : String} {idx : Nat} (hts : ∀ w ∈ TB, w.before args s = true) (hl : Cond.methodLink own idx yX12_fault ∈ TB) (hR : 0 + 1 ≤ R.frames ∧ 8 + (1 + 11) + 40 * 0 ≤ R.locals) : CallW R s args own RX12 idx yX12_fault cX12_fault 1 (some .int) (Cond.code yX12_fault cX12_fault 1 (some .int) :: TB) (rmN 0) 0 0 0 := cwV 0 hts (TB_V hl tw_1252 tw_1253 tw_9 tw_1254) rfl rfl rfl (by decide +kernel) hR
set_option maxHeartbeats 4000000 in
set_option maxRecDepth 100000 in
/-- told -/
theorem c_X12_told (l : Launch) (D : va_G) (cy : Nat → ClassId) (sz : Nat) (cs : List Nat) (ad : Nat → Nat) (en : Nat → va_E) (hI : RX cy cs ad en) (z : Int32)   : Met l yX12_told (Cond.code yX12_told cX12_told 5 (some .int) :: TB) (rmN 1) (va_Pc [.ref (ad 0), .int z] (Pre D cy cs ad en sz)) (va_Qi (S := Unit) (fun r _ => RTO z r en) (fun _ _ => True) (Nf sz)) 0 0 (Nf sz) := by
  refine Met.ofW (cc := cX12_told) (maxL := 5) (ret := (some .int)) (by decide) rfl ?_
  intro p e s m args below meth c s₁ B hml hv
  obtain ⟨rfl, hsz, hP, hK, hD0⟩ := hv
  have hx := B.exec
  have hb := B.bytes
  have hr := B.returns
  have hts : ∀ w ∈ TB, w.before _ s = true := fun w h => atoms_spec (ws := _ :: TB) B.pre w (List.mem_cons_of_mem _ h)
  have hown : s.vm.findClass RX12 = some m.cls := findClass_of_methodNamed B.named
  have hlocks := B.notSynchronized
  have hh : Hp D (Nf sz) (fun _ => True) s.heap s.heap [] cs ad en := ⟨hP, hD0, va_S.rf⟩
  have hA : ∀ q : Nat, s.heap.size ≤ q → Nf sz q := fun q h => by rw [hsz] at h; exact h
  have hl := lv_entry ([.ref (ad 0), .int z]) (n := 5) (Nat.le_of_ble_eq_true rfl)
  rw [lg_entry_eq]
  generalize (lg_sl ([.ref (ad 0), .int z]) ++ List.replicate (5 - (lg_sl ([.ref (ad 0), .int z])).length) Slot.unset).toArray = ls at hl ⊢
  have hl : lv_has ls 5 [(0, .ref (ad 0)), (1, .int z)] := hl
  obtain ⟨fa, hi, wd, mo, tb, dp, many, grt, lst, nou, rm, rb, pr, wo, es1234, hwd2, hwd3, hmo, htb, hwo⟩ := getr_M hI
  refine lv_iload_n hx hb dX12_told_0 rfl (lv_at hl 1 rfl) ?_
  by_cases q_1235_0 : z = 0
  · refine lv_tableIn (off := 35) (tgt := 36) hx hb dX12_told_1 (by rw [q_1235_0]; decide) (by rw [q_1235_0]; decide) (by rw [q_1235_0]; decide) (by decide) ?_
    refine lv_aload_n hx hb dX12_told_36 rfl (lv_at hl 0 rfl) ?_
    refine hp_get hx hb hts ix12 hown hK hh (q := 0) rfl (hI.1 _ (by decide)) es1234 rfl 4 (by decide) (hts _ tw_883) (fun _ h9 => h9) rfl dX12_told_37 ?_
    exact hp_iretR hx hb hr rfl hlocks hsz hh ((Or.inl ⟨q_1235_0, (by rw [es1234]; rfl)⟩)) dX12_told_40
  by_cases q_1235_1 : z = 1
  · refine lv_tableIn (off := 40) (tgt := 41) hx hb dX12_told_1 (by rw [q_1235_1]; decide) (by rw [q_1235_1]; decide) (by rw [q_1235_1]; decide) (by decide) ?_
    refine lv_aload_n hx hb dX12_told_41 rfl (lv_at hl 0 rfl) ?_
    refine hp_get hx hb hts ix12 hown hK hh (q := 0) rfl (hI.1 _ (by decide)) es1234 rfl 2 (by decide) (hts _ tw_881) (fun _ h9 => h9) rfl dX12_told_42 ?_
    exact hp_iretR hx hb hr rfl hlocks hsz hh ((Or.inr (Or.inl ⟨q_1235_1, (by rw [es1234]; rfl)⟩))) dX12_told_45
  by_cases q_1235_2 : z = 2
  · refine lv_tableIn (off := 45) (tgt := 46) hx hb dX12_told_1 (by rw [q_1235_2]; decide) (by rw [q_1235_2]; decide) (by rw [q_1235_2]; decide) (by decide) ?_
    refine lv_aload_n hx hb dX12_told_46 rfl (lv_at hl 0 rfl) ?_
    refine hp_get hx hb hts ix12 hown hK hh (q := 0) rfl (hI.1 _ (by decide)) es1234 rfl 3 (by decide) (hts _ tw_882) (fun _ h9 => h9) rfl dX12_told_47 ?_
    exact hp_iretR hx hb hr rfl hlocks hsz hh ((Or.inr (Or.inr (Or.inl ⟨q_1235_2, (by rw [es1234]; rfl)⟩)))) dX12_told_50
  by_cases q_1235_3 : z = 3
  · refine lv_tableIn (off := 50) (tgt := 51) hx hb dX12_told_1 (by rw [q_1235_3]; decide) (by rw [q_1235_3]; decide) (by rw [q_1235_3]; decide) (by decide) ?_
    refine lv_aload_n hx hb dX12_told_51 rfl (lv_at hl 0 rfl) ?_
    refine hp_get hx hb hts ix12 hown hK hh (q := 0) rfl (hI.1 _ (by decide)) es1234 rfl 30 (by decide) (hts _ tw_909) (fun _ h9 => h9) rfl dX12_told_52 ?_
    exact hp_iretR hx hb hr rfl hlocks hsz hh ((Or.inr (Or.inr (Or.inr (Or.inl ⟨q_1235_3, (by rw [es1234]; rfl)⟩))))) dX12_told_55
  by_cases q_1235_4 : z = 4
  · refine lv_tableIn (off := 55) (tgt := 56) hx hb dX12_told_1 (by rw [q_1235_4]; decide) (by rw [q_1235_4]; decide) (by rw [q_1235_4]; decide) (by decide) ?_
    refine lv_iconst (v := 0) hx hb dX12_told_56 (by decide) ?_
    refine lv_istore_n (lv' := [(2, .int 0), (0, .ref (ad 0)), (1, .int z)]) hx hb dX12_told_57 rfl hl (by decide) rfl (fun ls hl => ?_)
    refine lv_iconst (v := 0) hx hb dX12_told_58 (by decide) ?_
    refine lv_istore_n (lv' := [(3, .int 0), (2, .int 0), (0, .ref (ad 0)), (1, .int z)]) hx hb dX12_told_59 rfl hl (by decide) rfl (fun ls hl => ?_)
    have loop_1236 : ∀ (fu j1236 : Nat) (ac1236 : Int32)  (ls : Array Slot) (H : Heap) (locs : List Loc), 0 ≤ j1236 → j1236 ≤ tb → tb < j1236 + fu →  (ac1236 = cpO (mnG (rdF (en 2))) tb j1236) → lv_has ls 5 [(3, .int (nI j1236)), (2, .int ac1236), (0, .ref (ad 0)), (1, .int z)] → Hp D (Nf sz) (fun _ => True) s.heap H locs cs ad en → W p l e (headSpec (Cond.code yX12_told cX12_told 5 (some .int) :: TB) (rmN 1)).room s m ([.ref (ad 0), .int z] : List Value).toArray below meth c H locs 0 0 (MQ below (va_Qi (S := Unit) (fun r _ => RTO z r en) (fun _ _ => True) (Nf sz)) ([.ref (ad 0), .int z] : List Value).toArray s 0 0 (Nf sz)) (F0 m 60 ls []) := by
      intro fu
      induction fu with
      | zero => intro j1236 ac1236 ls H locs h0 h1 h2; exact absurd h2 (by omega)
      | succ fu ih_1236 =>
        intro j1236 ac1236 ls H locs hj0_1236 hj_1236 hfu_1236 i0_1236 hl hh
        refine lv_iload_n hx hb dX12_told_60 rfl (lv_at hl 0 rfl) ?_
        refine lv_aload_n hx hb dX12_told_61 rfl (lv_at hl 2 rfl) ?_
        refine hp_get hx hb hts ix12 hown hK hh (q := 0) rfl (hI.1 _ (by decide)) es1234 rfl 4 (by decide) (hts _ tw_883) (fun _ h9 => h9) rfl dX12_told_62 ?_
        refine lv_icmp_ge (tgt := 110) hx hb dX12_told_65 (by decide) (fun c_1237 => ?_) (fun c_1237 => ?_)
        · have n_1237 : tb ≤ j1236 := n_le (a := tb) (b := j1236) c_1237 (by omega) (by omega)
          refine lv_iload_n hx hb dX12_told_110 rfl (lv_at hl 1 rfl) ?_
          exact hp_iretR hx hb hr rfl hlocks hsz hh ((Or.inr (Or.inr (Or.inr (Or.inr (Or.inl ⟨q_1235_4, (by rw [show rdI (en 0) 4 = nI tb from by rw [es1234]; rfl, nI_clamp (n := tb) (by omega)]; have e9 : j1236 = tb := (by omega); rw [e9] at i0_1236; exact i0_1236)⟩)))))) dX12_told_111
        · have n_1237 : j1236 < tb := n_nle (a := tb) (b := j1236) c_1237 (by omega) (by omega)
          refine lv_iconst (v := 0) hx hb dX12_told_68 (by decide) ?_
          refine lv_istore (lv' := [(4, .int 0), (3, .int (nI j1236)), (2, .int ac1236), (0, .ref (ad 0)), (1, .int z)]) hx hb dX12_told_69 hl (by decide) rfl (fun ls hl => ?_)
          have loop_1238 : ∀ (fu j1238 : Nat) (ac1238 : Int32)  (ls : Array Slot) (H : Heap) (locs : List Loc), 0 ≤ j1238 → j1238 ≤ tb → tb < j1238 + fu →  (ac1238 = cpO (mnG (rdF (en 2))) tb j1236 + cpI (mnG (rdF (en 2))) j1236 j1238) → lv_has ls 5 [(4, .int (nI j1238)), (3, .int (nI j1236)), (2, .int ac1238), (0, .ref (ad 0)), (1, .int z)] → Hp D (Nf sz) (fun _ => True) s.heap H locs cs ad en → W p l e (headSpec (Cond.code yX12_told cX12_told 5 (some .int) :: TB) (rmN 1)).room s m ([.ref (ad 0), .int z] : List Value).toArray below meth c H locs 0 0 (MQ below (va_Qi (S := Unit) (fun r _ => RTO z r en) (fun _ _ => True) (Nf sz)) ([.ref (ad 0), .int z] : List Value).toArray s 0 0 (Nf sz)) (F0 m 71 ls []) := by
            intro fu
            induction fu with
            | zero => intro j1238 ac1238 ls H locs h0 h1 h2; exact absurd h2 (by omega)
            | succ fu ih_1238 =>
              intro j1238 ac1238 ls H locs hj0_1238 hj_1238 hfu_1238 i0_1238 hl hh
              refine lv_iload hx hb dX12_told_71 (lv_at hl 0 rfl) ?_
              refine lv_aload_n hx hb dX12_told_73 rfl (lv_at hl 3 rfl) ?_
              refine hp_get hx hb hts ix12 hown hK hh (q := 0) rfl (hI.1 _ (by decide)) es1234 rfl 4 (by decide) (hts _ tw_883) (fun _ h9 => h9) rfl dX12_told_74 ?_
              refine lv_icmp_ge (tgt := 104) hx hb dX12_told_77 (by decide) (fun c_1239 => ?_) (fun c_1239 => ?_)
              · have n_1239 : tb ≤ j1238 := n_le (a := tb) (b := j1238) c_1239 (by omega) (by omega)
                refine lv_iinc (v := (nI (j1236 + 1))) (lv' := [(3, .int (nI (j1236 + 1))), (4, .int (nI j1238)), (2, .int ac1238), (0, .ref (ad 0)), (1, .int z)]) hx hb dX12_told_104 hl (k := 1) rfl (nI_1 _) (by decide) rfl (fun ls hl => ?_)
                refine lv_goto (tgt := 60) hx hb dX12_told_107 (by decide) ?_
                exact ih_1236 ((j1236 + 1)) ac1238 ls H locs (by omega) (by omega) (by omega) ((by have e9 : j1238 = tb := (by omega); rw [e9] at i0_1238; exact i0_1238)) (lv_sub hl [0, 2, 3, 4] rfl) hh
              · have n_1239 : j1238 < tb := n_nle (a := tb) (b := j1238) c_1239 (by omega) (by omega)
                refine lv_iload_n hx hb dX12_told_80 rfl (lv_at hl 2 rfl) ?_
                refine lv_aload_n hx hb dX12_told_81 rfl (lv_at hl 3 rfl) ?_
                refine lv_iload_n hx hb dX12_told_82 rfl (lv_at hl 1 rfl) ?_
                refine lv_iload hx hb dX12_told_83 (lv_at hl 0 rfl) ?_
                refine hp_callRi (va_runV (As := [.int (nI j1236), .int (nI j1238)]) (rest := [.int ac1238]) ⟨hx, hb, hml, hown, hts⟩ (c_X12_mayFollow l D cy _ cs ad en hI j1236 j1238 (by omega) (by omega)) (kw_X12_mayFollow hts tw_1029 ⟨by decide, by decide⟩) (preV_of hh hK (hI.1 _ (by decide)) es1234 rfl) rfl rfl hl.1 rfl (lv_room (Nat.le_of_ble_eq_true rfl)) dX12_told_85 ⟨Nat.le_of_ble_eq_true rfl, Nat.le_of_ble_eq_true rfl⟩) hh hA (fun r_1240 H locs hw_1240 hh => ?_)
                rcases Decidable.em (rdF (en 2) (6 * j1236 + j1238) = 0) with hp_1240 | hp_1240
                · obtain rfl : r_1240 = 1 := Eq.trans hw_1240 (if_pos hp_1240)
                  refine lv_if_eq (tgt := 95) hx hb dX12_told_88 (by decide) (fun c_0 => absurd c_0 (by decide)) (fun _ => ?_)
                  refine lv_iconst (v := 1) hx hb dX12_told_91 (by decide) ?_
                  refine lv_goto (tgt := 96) hx hb dX12_told_92 (by decide) ?_
                  refine lv_iadd hx hb dX12_told_96 ?_
                  refine lv_istore_n (lv' := [(2, .int (ac1238 + 1)), (4, .int (nI j1238)), (3, .int (nI j1236)), (0, .ref (ad 0)), (1, .int z)]) hx hb dX12_told_97 rfl hl (by decide) rfl (fun ls hl => ?_)
                  refine lv_iinc (v := (nI (j1238 + 1))) (lv' := [(4, .int (nI (j1238 + 1))), (2, .int (ac1238 + 1)), (3, .int (nI j1236)), (0, .ref (ad 0)), (1, .int z)]) hx hb dX12_told_98 hl (k := 1) rfl (nI_1 _) (by decide) rfl (fun ls hl => ?_)
                  refine lv_goto (tgt := 71) hx hb dX12_told_101 (by decide) ?_
                  exact ih_1238 ((j1238 + 1)) (ac1238 + 1) ls H locs (by omega) (by omega) (by omega) ((by rw [i0_1238]; show _ = cpO (mnG (rdF (en 2))) tb j1236 + (cpI (mnG (rdF (en 2))) j1236 j1238 + mnG (rdF (en 2)) (j1236 * 6 + j1238)); rw [show mnG (rdF (en 2)) (j1236 * 6 + j1238) = 1 from by unfold mnG; rw [Nat.mul_comm j1236 6, if_pos hp_1240], Int32.add_assoc])) (lv_sub hl [0, 2, 1, 3, 4] rfl) hh
                · obtain rfl : r_1240 = 0 := Eq.trans hw_1240 (if_neg hp_1240)
                  refine lv_if_eq (tgt := 95) hx hb dX12_told_88 (by decide) (fun _ => ?_) (fun c_0 => absurd c_0 (by decide))
                  refine lv_iconst (v := 0) hx hb dX12_told_95 (by decide) ?_
                  refine lv_iadd hx hb dX12_told_96 ?_
                  refine lv_istore_n (lv' := [(2, .int (ac1238 + 0)), (4, .int (nI j1238)), (3, .int (nI j1236)), (0, .ref (ad 0)), (1, .int z)]) hx hb dX12_told_97 rfl hl (by decide) rfl (fun ls hl => ?_)
                  refine lv_iinc (v := (nI (j1238 + 1))) (lv' := [(4, .int (nI (j1238 + 1))), (2, .int (ac1238 + 0)), (3, .int (nI j1236)), (0, .ref (ad 0)), (1, .int z)]) hx hb dX12_told_98 hl (k := 1) rfl (nI_1 _) (by decide) rfl (fun ls hl => ?_)
                  refine lv_goto (tgt := 71) hx hb dX12_told_101 (by decide) ?_
                  exact ih_1238 ((j1238 + 1)) (ac1238 + 0) ls H locs (by omega) (by omega) (by omega) ((by rw [i0_1238]; show _ = cpO (mnG (rdF (en 2))) tb j1236 + (cpI (mnG (rdF (en 2))) j1236 j1238 + mnG (rdF (en 2)) (j1236 * 6 + j1238)); rw [show mnG (rdF (en 2)) (j1236 * 6 + j1238) = 0 from by unfold mnG; rw [Nat.mul_comm j1236 6, if_neg hp_1240], Int32.add_zero, Int32.add_zero])) (lv_sub hl [0, 2, 1, 3, 4] rfl) hh
          exact loop_1238 (tb + 1) 0 ac1236 ls _ _ (Nat.le_refl _) (by omega) (by omega) ((by rw [i0_1236]; exact (Int32.add_zero _).symm)) (lv_sub hl [0, 1, 2, 3, 4] rfl) hh
    exact loop_1236 (tb + 1) 0 0 ls _ _ (Nat.le_refl _) (by omega) (by omega) (rfl) (lv_sub hl [0, 1, 2, 3] rfl) hh
  refine lv_tableOut (tgt := 112) hx hb dX12_told_1 (tb_out 5 (by decide) (by decide) (fun j hj => by rcases (show j = 0 ∨ j = 1 ∨ j = 2 ∨ j = 3 ∨ j = 4 by omega) with rfl | rfl | rfl | rfl | rfl <;> first | exact lv_neT q_1235_0 (by decide) | exact lv_neT q_1235_1 (by decide) | exact lv_neT q_1235_2 (by decide) | exact lv_neT q_1235_3 (by decide) | exact lv_neT q_1235_4 (by decide))) (by decide) ?_
  refine lv_bipush (v := (-2)) hx hb dX12_told_112 (by decide) ?_
  exact hp_iretR hx hb hr rfl hlocks hsz hh ((Or.inr (Or.inr (Or.inr (Or.inr (Or.inr (⟨q_1235_0, q_1235_1, q_1235_2, q_1235_3, q_1235_4, rfl⟩))))))) dX12_told_114
theorem kw_X12_told {R : Room} {s : State} {args : Array Value} {own : String} {idx : Nat} (hts : ∀ w ∈ TB, w.before args s = true) (hl : Cond.methodLink own idx yX12_told ∈ TB) (hR : 1 + 1 ≤ R.frames ∧ 8 + (5 + 11) + 40 * 1 ≤ R.locals) : CallW R s args own RX12 idx yX12_told cX12_told 5 (some .int) (Cond.code yX12_told cX12_told 5 (some .int) :: TB) (rmN 1) 0 0 1 := cwV 1 hts (TB_V hl tw_1256 tw_1257 tw_9 tw_1258) rfl rfl rfl (by decide +kernel) hR
set_option maxHeartbeats 4000000 in
set_option maxRecDepth 100000 in
/-- letter -/
theorem c_X12_letter (l : Launch) (D : va_G) (cy : Nat → ClassId) (sz : Nat) (cs : List Nat) (ad : Nat → Nat) (en : Nat → va_E) (hI : RX cy cs ad en) (w i9 : Int32)   : Met l yX12_letter (Cond.code yX12_letter cX12_letter 3 (some .int) :: TB) (rmN 1) (va_Pc [.ref (ad 0), .int w, .int i9] (Pre D cy cs ad en sz)) (va_Qi (S := Unit) (fun r _ => RLE w i9 r en) (fun _ _ => True) (Nf sz)) 0 0 (Nf sz) := by
  refine Met.ofW (cc := cX12_letter) (maxL := 3) (ret := (some .int)) (by decide) rfl ?_
  intro p e s m args below meth c s₁ B hml hv
  obtain ⟨rfl, hsz, hP, hK, hD0⟩ := hv
  have hx := B.exec
  have hb := B.bytes
  have hr := B.returns
  have hts : ∀ w ∈ TB, w.before _ s = true := fun w h => atoms_spec (ws := _ :: TB) B.pre w (List.mem_cons_of_mem _ h)
  have hown : s.vm.findClass RX12 = some m.cls := findClass_of_methodNamed B.named
  have hlocks := B.notSynchronized
  have hh : Hp D (Nf sz) (fun _ => True) s.heap s.heap [] cs ad en := ⟨hP, hD0, va_S.rf⟩
  have hA : ∀ q : Nat, s.heap.size ≤ q → Nf sz q := fun q h => by rw [hsz] at h; exact h
  have hl := lv_entry ([.ref (ad 0), .int w, .int i9]) (n := 3) (Nat.le_of_ble_eq_true rfl)
  rw [lg_entry_eq]
  generalize (lg_sl ([.ref (ad 0), .int w, .int i9]) ++ List.replicate (3 - (lg_sl ([.ref (ad 0), .int w, .int i9])).length) Slot.unset).toArray = ls at hl ⊢
  have hl : lv_has ls 3 [(0, .ref (ad 0)), (1, .int w), (2, .int i9)] := hl
  obtain ⟨fa, hi, wd, mo, tb, dp, many, grt, lst, nou, rm, rb, pr, wo, es1241, hwd2, hwd3, hmo, htb, hwo⟩ := getr_M hI
  refine lv_aload_n hx hb dX12_letter_0 rfl (lv_at hl 0 rfl) ?_
  refine lv_iload_n hx hb dX12_letter_1 rfl (lv_at hl 1 rfl) ?_
  refine hp_callRi (va_runV (As := [.int w]) (rest := []) ⟨hx, hb, hml, hown, hts⟩ (c_X12_isWord l D cy _ cs ad en hI w ) (kw_X12_isWord hts tw_1175 ⟨by decide, by decide⟩) (preV_of hh hK (hI.1 _ (by decide)) es1241 rfl) rfl rfl hl.1 rfl (lv_room (Nat.le_of_ble_eq_true rfl)) dX12_letter_2 ⟨Nat.le_of_ble_eq_true rfl, Nat.le_of_ble_eq_true rfl⟩) hh hA (fun r_1242 H locs hw_1242 hh => ?_)
  rw [show rdI (en 0) 30 = (nI wo) from by rw [es1241]; rfl, nI_toInt (n := wo) (by omega)] at hw_1242
  rcases Decidable.em (0 ≤ w.toInt ∧ w.toInt < (wo : Int)) with hp_1242 | hp_1242
  · obtain rfl : r_1242 = 1 := Eq.trans hw_1242 (if_pos hp_1242)
    obtain ⟨T_1242, rfl, hT_1242⟩ := has_nat hp_1242
    refine lv_if_eq (tgt := 40) hx hb dX12_letter_5 (by decide) (fun c_0 => absurd c_0 (by decide)) (fun _ => ?_)
    refine lv_iload_n hx hb dX12_letter_8 rfl (lv_at hl 2 rfl) ?_
    refine lv_i2l hx hb dX12_letter_9 rfl ?_
    refine lv_lconst (v := 0) hx hb dX12_letter_10 (by decide) ?_
    refine lv_aload_n hx hb dX12_letter_11 rfl (lv_at hl 0 rfl) ?_
    refine hp_get hx hb hts ix12 hown hK hh (q := 0) rfl (hI.1 _ (by decide)) es1241 rfl 32 (by decide) (hts _ tw_911) (fun _ h9 => h9) rfl dX12_letter_12 ?_
    refine lv_iload_n hx hb dX12_letter_15 rfl (lv_at hl 1 rfl) ?_
    obtain ⟨f_1243, es1243, p0_1243⟩ := getr_wl hI
    refine hp_iald hx hb hK hh (q := 19) rfl (hI.1 _ (by decide)) es1243 (vp_in_nI (n := T_1242) (by omega) (by decide)) dX12_letter_16 ?_
    rw [nI_clamp (n := T_1242) (by omega)]
    obtain ⟨v_1244, hv_1244, hfv_1244⟩ := p0_1243 T_1242 (by omega)
    rw [hfv_1244]
    refine lv_i2l hx hb dX12_letter_17 rfl ?_
    refine lv_lconst (v := 1) hx hb dX12_letter_18 (by decide) ?_
    refine lv_lsub hx hb dX12_letter_19 ?_
    refine hp_callRi (va_runS (As := [.long i9.toInt64, .long 0, .long ((nI v_1244).toInt64 - 1)]) (rest := []) ⟨hx, hb, hml, hown, hts⟩ (c_X12_within l D cy _ cs ad en i9.toInt64 0 ((nI v_1244).toInt64 - 1)) (kw_X12_within hts tw_985 ⟨by decide, by decide⟩) (preS_of hh hK) rfl rfl hl.1 rfl (lv_room (Nat.le_of_ble_eq_true rfl)) dX12_letter_20 ⟨Nat.le_of_ble_eq_true rfl, Nat.le_of_ble_eq_true rfl⟩) hh hA (fun r_1245 H locs hw_1245 hh => ?_)
    rcases Decidable.em (0 ≤ i9.toInt ∧ i9.toInt < (v_1244 : Int)) with hp_1245 | hp_1245
    · obtain rfl : r_1245 = 1 := Eq.trans hw_1245 (if_pos ((wj_m1 (by omega)).mpr hp_1245))
      obtain ⟨N_1245, rfl, hB_1245⟩ := has_nat hp_1245
      refine lv_if_eq (tgt := 40) hx hb dX12_letter_23 (by decide) (fun c_0 => absurd c_0 (by decide)) (fun _ => ?_)
      refine lv_aload_n hx hb dX12_letter_26 rfl (lv_at hl 0 rfl) ?_
      refine hp_get hx hb hts ix12 hown hK hh (q := 0) rfl (hI.1 _ (by decide)) es1241 rfl 31 (by decide) (hts _ tw_910) (fun _ h9 => h9) rfl dX12_letter_27 ?_
      refine lv_bipush (v := 12) hx hb dX12_letter_30 (by decide) ?_
      refine lv_iload_n hx hb dX12_letter_32 rfl (lv_at hl 1 rfl) ?_
      refine lv_imul hx hb dX12_letter_33 ?_
      rw [show (12 : Int32) = nI 12 from rfl, pk_mul 12 T_1242]
      refine lv_iload_n hx hb dX12_letter_34 rfl (lv_at hl 2 rfl) ?_
      refine lv_iadd hx hb dX12_letter_35 ?_
      rw [nI_add (12 * T_1242) N_1245]
      obtain ⟨f_1246, es1246, p0_1246⟩ := getr_lt hI
      refine hp_iald hx hb hK hh (q := 18) rfl (hI.1 _ (by decide)) es1246 (vp_in_nI (n := ((12 * T_1242) + N_1245)) (by omega) (by decide)) dX12_letter_36 ?_
      rw [nI_clamp (n := ((12 * T_1242) + N_1245)) (by omega)]
      obtain ⟨v_1247, hv_1247, hfv_1247⟩ := p0_1246 ((12 * T_1242) + N_1245) (by omega)
      rw [hfv_1247]
      refine lv_goto (tgt := 41) hx hb dX12_letter_37 (by decide) ?_
      have hc30 : (rdI (en 0) 30).toInt = (wo : Int) := by rw [es1241]; exact nI_toInt (by omega)
      have hc19 : (rdF (en 19) T_1242).toInt = (v_1244 : Int) := by rw [show rdF (en 19) = f_1243 from by rw [es1243]; rfl, hfv_1244]; exact nI_toInt (by omega)
      exact hp_iretR hx hb hr rfl hlocks hsz hh (Or.inr ⟨T_1242, rfl, by omega, ⟨hp_1242.1, by have := hp_1242.2; omega⟩, Or.inl ⟨⟨hp_1245.1, by have := hp_1245.2; omega⟩, (by rw [nI_clamp (n := N_1245) (by omega), show rdF (en 18) = f_1246 from by rw [es1246]; rfl]; exact hfv_1247.symm)⟩⟩) dX12_letter_41
    · obtain rfl : r_1245 = 0 := Eq.trans hw_1245 (if_neg (fun q => hp_1245 ((wj_m1 (by omega)).mp q)))
      refine lv_if_eq (tgt := 40) hx hb dX12_letter_23 (by decide) (fun _ => ?_) (fun c_0 => absurd c_0 (by decide))
      refine lv_iconst (v := (-1)) hx hb dX12_letter_40 (by decide) ?_
      have hc30 : (rdI (en 0) 30).toInt = (wo : Int) := by rw [es1241]; exact nI_toInt (by omega)
      have hc19 : (rdF (en 19) T_1242).toInt = (v_1244 : Int) := by rw [show rdF (en 19) = f_1243 from by rw [es1243]; rfl, hfv_1244]; exact nI_toInt (by omega)
      exact hp_iretR hx hb hr rfl hlocks hsz hh (Or.inr ⟨T_1242, rfl, by omega, ⟨hp_1242.1, by have := hp_1242.2; omega⟩, Or.inr ⟨fun q => hp_1245 ⟨q.1, by have := q.2; omega⟩, rfl⟩⟩) dX12_letter_41
  · obtain rfl : r_1242 = 0 := Eq.trans hw_1242 (if_neg hp_1242)
    refine lv_if_eq (tgt := 40) hx hb dX12_letter_5 (by decide) (fun _ => ?_) (fun c_0 => absurd c_0 (by decide))
    refine lv_iconst (v := (-1)) hx hb dX12_letter_40 (by decide) ?_
    have hc30 : (rdI (en 0) 30).toInt = (wo : Int) := by rw [es1241]; exact nI_toInt (by omega)
    exact hp_iretR hx hb hr rfl hlocks hsz hh (Or.inl ⟨fun q => hp_1242 ⟨q.1, by have := q.2; omega⟩, rfl⟩) dX12_letter_41
theorem kw_X12_letter {R : Room} {s : State} {args : Array Value} {own : String} {idx : Nat} (hts : ∀ w ∈ TB, w.before args s = true) (hl : Cond.methodLink own idx yX12_letter ∈ TB) (hR : 1 + 1 ≤ R.frames ∧ 8 + (3 + 11) + 40 * 1 ≤ R.locals) : CallW R s args own RX12 idx yX12_letter cX12_letter 3 (some .int) (Cond.code yX12_letter cX12_letter 3 (some .int) :: TB) (rmN 1) 0 0 2 := cwV 2 hts (TB_V hl tw_1180 tw_1181 tw_9 tw_1182) rfl rfl rfl (by decide +kernel) hR
set_option maxHeartbeats 4000000 in
set_option maxRecDepth 100000 in
/-- isAllowed -/
theorem c_X12_isAllowed (l : Launch) (D : va_G) (cy : Nat → ClassId) (sz : Nat) (cs : List Nat) (ad : Nat → Nat) (en : Nat → va_E) (hI : RX cy cs ad en) (n : Nat) (hn1 : 1 ≤ n) (hn12 : n ≤ 12)   : Met l yX12_isAllowed (Cond.code yX12_isAllowed cX12_isAllowed 3 (some .boolean) :: TB) (rmN 1) (va_Pc [.ref (ad 0), .int (nI n)] (Pre D cy cs ad en sz)) (va_Qi (S := Unit) (fun r _ => bI r (alM (rdF (en 2)) (rdF (en 12)) n)) (fun _ _ => True) (Nf sz)) 0 0 (Nf sz) := by
  refine Met.ofW (cc := cX12_isAllowed) (maxL := 3) (ret := (some .boolean)) (by decide) rfl ?_
  intro p e s m args below meth c s₁ B hml hv
  obtain ⟨rfl, hsz, hP, hK, hD0⟩ := hv
  have hx := B.exec
  have hb := B.bytes
  have hr := B.returns
  have hts : ∀ w ∈ TB, w.before _ s = true := fun w h => atoms_spec (ws := _ :: TB) B.pre w (List.mem_cons_of_mem _ h)
  have hown : s.vm.findClass RX12 = some m.cls := findClass_of_methodNamed B.named
  have hlocks := B.notSynchronized
  have hh : Hp D (Nf sz) (fun _ => True) s.heap s.heap [] cs ad en := ⟨hP, hD0, va_S.rf⟩
  have hA : ∀ q : Nat, s.heap.size ≤ q → Nf sz q := fun q h => by rw [hsz] at h; exact h
  have hl := lv_entry ([.ref (ad 0), .int (nI n)]) (n := 3) (Nat.le_of_ble_eq_true rfl)
  rw [lg_entry_eq]
  generalize (lg_sl ([.ref (ad 0), .int (nI n)]) ++ List.replicate (3 - (lg_sl ([.ref (ad 0), .int (nI n)])).length) Slot.unset).toArray = ls at hl ⊢
  have hl : lv_has ls 3 [(0, .ref (ad 0)), (1, .int (nI n))] := hl
  obtain ⟨fa, hi, wd, mo, tb, dp, many, grt, lst, nou, rm, rb, pr, wo, es1248, hwd2, hwd3, hmo, htb, hwo⟩ := getr_M hI
  obtain ⟨f_1249, es1249, p0_1249⟩ := getr_ak hI
  refine lv_iconst (v := 1) hx hb dX12_isAllowed_0 (by decide) ?_
  refine lv_istore_n (lv' := [(2, .int 1), (0, .ref (ad 0)), (1, .int (nI n))]) hx hb dX12_isAllowed_1 rfl hl (by decide) rfl (fun ls hl => ?_)
  have loop_1250 : ∀ (fu j1250 : Nat)   (ls : Array Slot) (H : Heap) (locs : List Loc), 1 ≤ j1250 → j1250 ≤ n → n < j1250 + fu →  (∀ i, 1 ≤ i → i < j1250 → rdF (en 2) (6 * (rdF (en 12) (i - 1)).toNatClampNeg + (rdF (en 12) i).toNatClampNeg) = 0) → lv_has ls 3 [(2, .int (nI j1250)), (0, .ref (ad 0)), (1, .int (nI n))] → Hp D (Nf sz) (fun _ => True) s.heap H locs cs ad en → W p l e (headSpec (Cond.code yX12_isAllowed cX12_isAllowed 3 (some .boolean) :: TB) (rmN 1)).room s m ([.ref (ad 0), .int (nI n)] : List Value).toArray below meth c H locs 0 0 (MQ below (va_Qi (S := Unit) (fun r _ => bI r (alM (rdF (en 2)) (rdF (en 12)) n)) (fun _ _ => True) (Nf sz)) ([.ref (ad 0), .int (nI n)] : List Value).toArray s 0 0 (Nf sz)) (F0 m 2 ls []) := by
    intro fu
    induction fu with
    | zero => intro j1250  ls H locs h0 h1 h2; exact absurd h2 (by omega)
    | succ fu ih_1250 =>
      intro j1250  ls H locs hj0_1250 hj_1250 hfu_1250 i0_1250 hl hh
      refine lv_iload_n hx hb dX12_isAllowed_2 rfl (lv_at hl 0 rfl) ?_
      refine lv_iload_n hx hb dX12_isAllowed_3 rfl (lv_at hl 2 rfl) ?_
      refine lv_icmp_ge (tgt := 36) hx hb dX12_isAllowed_4 (by decide) (fun c_1251 => ?_) (fun c_1251 => ?_)
      · have n_1251 : n ≤ j1250 := n_le (a := n) (b := j1250) c_1251 (by omega) (by omega)
        refine lv_iconst (v := 1) hx hb dX12_isAllowed_36 (by decide) ?_
        exact hp_iretR hx hb hr rfl hlocks hsz hh (Or.inl ⟨rfl, fun i h1 h2 => i0_1250 i h1 (by omega)⟩) dX12_isAllowed_37
      · have n_1251 : j1250 < n := n_nle (a := n) (b := j1250) c_1251 (by omega) (by omega)
        refine lv_aload_n hx hb dX12_isAllowed_7 rfl (lv_at hl 1 rfl) ?_
        refine lv_aload_n hx hb dX12_isAllowed_8 rfl (lv_at hl 1 rfl) ?_
        refine hp_get hx hb hts ix12 hown hK hh (q := 0) rfl (hI.1 _ (by decide)) es1248 rfl 21 (by decide) (hts _ tw_900) (fun _ h9 => h9) rfl dX12_isAllowed_9 ?_
        refine lv_iload_n hx hb dX12_isAllowed_12 rfl (lv_at hl 0 rfl) ?_
        refine lv_iconst (v := 1) hx hb dX12_isAllowed_13 (by decide) ?_
        refine lv_isub hx hb dX12_isAllowed_14 ?_
        rw [show (1 : Int32) = nI 1 from rfl, pk_sub (a := j1250) (b := 1) (by omega)]
        refine hp_iald hx hb hK hh (q := 12) rfl (hI.1 _ (by decide)) es1249 (vp_in_nI (n := (j1250 - 1)) (by omega) (by decide)) dX12_isAllowed_15 ?_
        rw [nI_clamp (n := (j1250 - 1)) (by omega)]
        obtain ⟨v_1252, hv_1252, hfv_1252⟩ := p0_1249 (j1250 - 1) (by omega)
        rw [hfv_1252]
        refine lv_aload_n hx hb dX12_isAllowed_16 rfl (lv_at hl 1 rfl) ?_
        refine hp_get hx hb hts ix12 hown hK hh (q := 0) rfl (hI.1 _ (by decide)) es1248 rfl 21 (by decide) (hts _ tw_900) (fun _ h9 => h9) rfl dX12_isAllowed_17 ?_
        refine lv_iload_n hx hb dX12_isAllowed_20 rfl (lv_at hl 0 rfl) ?_
        refine hp_iald hx hb hK hh (q := 12) rfl (hI.1 _ (by decide)) es1249 (vp_in_nI (n := j1250) (by omega) (by decide)) dX12_isAllowed_21 ?_
        rw [nI_clamp (n := j1250) (by omega)]
        obtain ⟨v_1253, hv_1253, hfv_1253⟩ := p0_1249 j1250 (by omega)
        rw [hfv_1253]
        refine hp_callRi (va_runV (As := [.int (nI v_1252), .int (nI v_1253)]) (rest := []) ⟨hx, hb, hml, hown, hts⟩ (c_X12_mayFollow l D cy _ cs ad en hI v_1252 v_1253 (by omega) (by omega)) (kw_X12_mayFollow hts tw_1029 ⟨by decide, by decide⟩) (preV_of hh hK (hI.1 _ (by decide)) es1248 rfl) rfl rfl hl.1 rfl (lv_room (Nat.le_of_ble_eq_true rfl)) dX12_isAllowed_22 ⟨Nat.le_of_ble_eq_true rfl, Nat.le_of_ble_eq_true rfl⟩) hh hA (fun r_1254 H locs hw_1254 hh => ?_)
        rcases Decidable.em (rdF (en 2) (6 * v_1252 + v_1253) = 0) with hp_1254 | hp_1254
        · obtain rfl : r_1254 = 1 := Eq.trans hw_1254 (if_pos hp_1254)
          refine lv_if_ne (tgt := 30) hx hb dX12_isAllowed_25 (by decide) (fun _ => ?_) (fun c_0 => absurd c_0 (by decide))
          refine lv_iinc (v := (nI (j1250 + 1))) (lv' := [(2, .int (nI (j1250 + 1))), (0, .ref (ad 0)), (1, .int (nI n))]) hx hb dX12_isAllowed_30 hl (k := 0) rfl (nI_1 _) (by decide) rfl (fun ls hl => ?_)
          refine lv_goto (tgt := 2) hx hb dX12_isAllowed_33 (by decide) ?_
          exact ih_1250 ((j1250 + 1))  ls H locs (by omega) (by omega) (by omega) (fun i h1 h2 => (Nat.lt_or_ge i j1250).elim (fun h => i0_1250 i h1 h) (fun h => by have e : i = j1250 := (by omega); rw [e]; exact (by rw [show rdF (en 12) = f_1249 from by rw [es1249]; rfl, hfv_1252, hfv_1253, nI_clamp (n := v_1252) (by omega), nI_clamp (n := v_1253) (by omega)]; exact hp_1254))) (lv_sub hl [0, 1, 2] rfl) hh
        · obtain rfl : r_1254 = 0 := Eq.trans hw_1254 (if_neg hp_1254)
          refine lv_if_ne (tgt := 30) hx hb dX12_isAllowed_25 (by decide) (fun c_0 => absurd c_0 (by decide)) (fun _ => ?_)
          refine lv_iconst (v := 0) hx hb dX12_isAllowed_28 (by decide) ?_
          exact hp_iretR hx hb hr rfl hlocks hsz hh (Or.inr ⟨rfl, fun q => hp_1254 (by have h9 := q j1250 (by omega) (by omega); rw [show rdF (en 12) = f_1249 from by rw [es1249]; rfl, hfv_1252, hfv_1253, nI_clamp (n := v_1252) (by omega), nI_clamp (n := v_1253) (by omega)] at h9; exact h9)⟩) dX12_isAllowed_29
  exact loop_1250 (n + 1) 1  ls _ _ (Nat.le_refl _) (by omega) (by omega) (fun i h1 h2 => absurd h2 (by omega)) (lv_sub hl [0, 1, 2] rfl) hh
theorem kw_X12_isAllowed {R : Room} {s : State} {args : Array Value} {own : String} {idx : Nat} (hts : ∀ w ∈ TB, w.before args s = true) (hl : Cond.methodLink own idx yX12_isAllowed ∈ TB) (hR : 1 + 1 ≤ R.frames ∧ 8 + (3 + 11) + 40 * 1 ≤ R.locals) : CallW R s args own RX12 idx yX12_isAllowed cX12_isAllowed 3 (some .boolean) (Cond.code yX12_isAllowed cX12_isAllowed 3 (some .boolean) :: TB) (rmN 1) 0 0 1 := cwV 1 hts (TB_V hl tw_1083 ts_46 tw_9 tw_1084) rfl rfl rfl (by decide +kernel) hR
set_option maxHeartbeats 4000000 in
set_option maxRecDepth 100000 in
/-- timesOf -/
theorem c_X12_timesOf (l : Launch) (D : va_G) (cy : Nat → ClassId) (sz : Nat) (cs : List Nat) (ad : Nat → Nat) (en : Nat → va_E) (hI : RX cy cs ad en) (n : Nat) (hn1 : 1 ≤ n) (hn12 : n ≤ 12)   : Met l yX12_timesOf (Cond.code yX12_timesOf cX12_timesOf 5 (some .int) :: TB) (rmN 0) (va_Pc [.ref (ad 0), .int (nI n)] (Pre D cy cs ad en sz)) (va_Qi (S := Unit) (fun r _ => repP (rdF (en 12)) n r) (fun _ _ => True) (Nf sz)) 0 0 (Nf sz) := by
  refine Met.ofW (cc := cX12_timesOf) (maxL := 5) (ret := (some .int)) (by decide) rfl ?_
  intro p e s m args below meth c s₁ B hml hv
  obtain ⟨rfl, hsz, hP, hK, hD0⟩ := hv
  have hx := B.exec
  have hb := B.bytes
  have hr := B.returns
  have hts : ∀ w ∈ TB, w.before _ s = true := fun w h => atoms_spec (ws := _ :: TB) B.pre w (List.mem_cons_of_mem _ h)
  have hown : s.vm.findClass RX12 = some m.cls := findClass_of_methodNamed B.named
  have hlocks := B.notSynchronized
  have hh : Hp D (Nf sz) (fun _ => True) s.heap s.heap [] cs ad en := ⟨hP, hD0, va_S.rf⟩
  have hA : ∀ q : Nat, s.heap.size ≤ q → Nf sz q := fun q h => by rw [hsz] at h; exact h
  have hl := lv_entry ([.ref (ad 0), .int (nI n)]) (n := 5) (Nat.le_of_ble_eq_true rfl)
  rw [lg_entry_eq]
  generalize (lg_sl ([.ref (ad 0), .int (nI n)]) ++ List.replicate (5 - (lg_sl ([.ref (ad 0), .int (nI n)])).length) Slot.unset).toArray = ls at hl ⊢
  have hl : lv_has ls 5 [(0, .ref (ad 0)), (1, .int (nI n))] := hl
  obtain ⟨fa, hi, wd, mo, tb, dp, many, grt, lst, nou, rm, rb, pr, wo, es1255, hwd2, hwd3, hmo, htb, hwo⟩ := getr_M hI
  obtain ⟨f_1256, es1256, p0_1256⟩ := getr_ak hI
  refine lv_iconst (v := 1) hx hb dX12_timesOf_0 (by decide) ?_
  refine lv_istore_n (lv' := [(2, .int 1), (0, .ref (ad 0)), (1, .int (nI n))]) hx hb dX12_timesOf_1 rfl hl (by decide) rfl (fun ls hl => ?_)
  have hak : rdF (en 12) = f_1256 := by rw [es1256]; rfl
  have loop_1257 : ∀ (fu j1257 : Nat)   (ls : Array Slot) (H : Heap) (locs : List Loc), 1 ≤ j1257 → j1257 ≤ n → n < j1257 + fu →  (∀ y, 1 ≤ y → y < j1257 → ¬ (n % y = 0 ∧ perP f_1256 n y)) → lv_has ls 5 [(2, .int (nI j1257)), (0, .ref (ad 0)), (1, .int (nI n))] → Hp D (Nf sz) (fun _ => True) s.heap H locs cs ad en → W p l e (headSpec (Cond.code yX12_timesOf cX12_timesOf 5 (some .int) :: TB) (rmN 0)).room s m ([.ref (ad 0), .int (nI n)] : List Value).toArray below meth c H locs 0 0 (MQ below (va_Qi (S := Unit) (fun r _ => repP (rdF (en 12)) n r) (fun _ _ => True) (Nf sz)) ([.ref (ad 0), .int (nI n)] : List Value).toArray s 0 0 (Nf sz)) (F0 m 2 ls []) := by
    intro fu
    induction fu with
    | zero => intro j1257  ls H locs h0 h1 h2; exact absurd h2 (by omega)
    | succ fu ih_1257 =>
      intro j1257  ls H locs hj0_1257 hj_1257 hfu_1257 i0_1257 hl hh
      refine lv_iload_n hx hb dX12_timesOf_2 rfl (lv_at hl 0 rfl) ?_
      refine lv_iload_n hx hb dX12_timesOf_3 rfl (lv_at hl 2 rfl) ?_
      refine lv_icmp_ge (tgt := 77) hx hb dX12_timesOf_4 (by decide) (fun c_1258 => ?_) (fun c_1258 => ?_)
      · have n_1258 : n ≤ j1257 := n_le (a := n) (b := j1257) c_1258 (by omega) (by omega)
        refine lv_iconst (v := 1) hx hb dX12_timesOf_77 (by decide) ?_
        exact hp_iretR hx hb hr rfl hlocks hsz hh (by rw [hak]; exact Or.inr ⟨rfl, fun y h1 h2 => i0_1257 y h1 (by omega)⟩) dX12_timesOf_78
      · have n_1258 : j1257 < n := n_nle (a := n) (b := j1257) c_1258 (by omega) (by omega)
        refine lv_iload_n hx hb dX12_timesOf_7 rfl (lv_at hl 2 rfl) ?_
        refine lv_iload_n hx hb dX12_timesOf_8 rfl (lv_at hl 0 rfl) ?_
        refine lv_irem hx hb dX12_timesOf_9 (nI_ne0 (by omega) (by omega)) ?_
        rw [pk_rem (a := n) (d := j1257) (by omega) (by omega) (by omega)]
        have hq_1259 : (n % j1257) ≤ n := Nat.mod_le _ _
        refine lv_if_ne (tgt := 17) hx hb dX12_timesOf_10 (by decide) (fun c_1260 => ?_) (fun c_1260 => ?_)
        · have n_1260 : (n % j1257) ≠ 0 := n_neq (a := (n % j1257)) (b := 0) c_1260 (by omega) (by decide)
          refine lv_iconst (v := 0) hx hb dX12_timesOf_17 (by decide) ?_
          refine lv_istore_n (lv' := [(3, .int 0), (2, .int (nI j1257)), (0, .ref (ad 0)), (1, .int (nI n))]) hx hb dX12_timesOf_18 rfl hl (by decide) rfl (fun ls hl => ?_)
          refine lv_iload_n hx hb dX12_timesOf_19 rfl (lv_at hl 1 rfl) ?_
          refine lv_istore (lv' := [(4, .int (nI j1257)), (3, .int 0), (2, .int (nI j1257)), (0, .ref (ad 0)), (1, .int (nI n))]) hx hb dX12_timesOf_20 hl (by decide) rfl (fun ls hl => ?_)
          have loop_1261 : ∀ (fu j1261 : Nat) (lk1261 : Int32)  (ls : Array Slot) (H : Heap) (locs : List Loc), j1257 ≤ j1261 → j1261 ≤ n → n < j1261 + fu →  (bI lk1261 (n % j1257 = 0 ∧ ∀ y, j1257 ≤ y → y < j1261 → f_1256 y = f_1256 (y - j1257))) → lv_has ls 5 [(4, .int (nI j1261)), (3, .int lk1261), (2, .int (nI j1257)), (0, .ref (ad 0)), (1, .int (nI n))] → Hp D (Nf sz) (fun _ => True) s.heap H locs cs ad en → W p l e (headSpec (Cond.code yX12_timesOf cX12_timesOf 5 (some .int) :: TB) (rmN 0)).room s m ([.ref (ad 0), .int (nI n)] : List Value).toArray below meth c H locs 0 0 (MQ below (va_Qi (S := Unit) (fun r _ => repP (rdF (en 12)) n r) (fun _ _ => True) (Nf sz)) ([.ref (ad 0), .int (nI n)] : List Value).toArray s 0 0 (Nf sz)) (F0 m 22 ls []) := by
            intro fu
            induction fu with
            | zero => intro j1261 lk1261 ls H locs h0 h1 h2; exact absurd h2 (by omega)
            | succ fu ih_1261 =>
              intro j1261 lk1261 ls H locs hj0_1261 hj_1261 hfu_1261 i0_1261 hl hh
              refine lv_iload hx hb dX12_timesOf_22 (lv_at hl 0 rfl) ?_
              refine lv_iload_n hx hb dX12_timesOf_24 rfl (lv_at hl 4 rfl) ?_
              refine lv_icmp_ge (tgt := 63) hx hb dX12_timesOf_25 (by decide) (fun c_1262 => ?_) (fun c_1262 => ?_)
              · have n_1262 : n ≤ j1261 := n_le (a := n) (b := j1261) c_1262 (by omega) (by omega)
                refine lv_iload_n hx hb dX12_timesOf_63 rfl (lv_at hl 1 rfl) ?_
                refine lv_if_eq (tgt := 71) hx hb dX12_timesOf_64 (by decide) (fun c_1263 => ?_) (fun c_1263 => ?_)
                · refine lv_iinc (v := (nI (j1257 + 1))) (lv' := [(2, .int (nI (j1257 + 1))), (4, .int (nI j1261)), (3, .int lk1261), (0, .ref (ad 0)), (1, .int (nI n))]) hx hb dX12_timesOf_71 hl (k := 2) rfl (nI_1 _) (by decide) rfl (fun ls hl => ?_)
                  refine lv_goto (tgt := 2) hx hb dX12_timesOf_74 (by decide) ?_
                  exact ih_1257 ((j1257 + 1))  ls H locs (by omega) (by omega) (by omega) (fun y h1 h2 q => (Nat.lt_or_ge y j1257).elim (fun h => i0_1257 y h1 h q) (fun h => by have e : y = j1257 := (by omega); rw [e] at q; exact bI_f i0_1261 c_1263 ⟨q.1, fun y h1 h2 => q.2 y h1 (by omega)⟩)) (lv_sub hl [0, 3, 4] rfl) hh
                · refine lv_iload_n hx hb dX12_timesOf_67 rfl (lv_at hl 4 rfl) ?_
                  refine lv_iload_n hx hb dX12_timesOf_68 rfl (lv_at hl 2 rfl) ?_
                  refine lv_idiv hx hb dX12_timesOf_69 (nI_ne0 (by omega) (by omega)) ?_
                  rw [pk_div (a := n) (d := j1257) (by omega) (by omega) (by omega)]
                  have hq_1264 : (n / j1257) ≤ n := Nat.div_le_self _ _
                  exact hp_iretR hx hb hr rfl hlocks hsz hh (by rw [hak]; exact Or.inl ⟨j1257, by omega, by omega, (bI_t i0_1261 c_1263).1, fun y h1 h2 => (bI_t i0_1261 c_1263).2 y h1 (by omega), rfl, i0_1257⟩) dX12_timesOf_70
              · have n_1262 : j1261 < n := n_nle (a := n) (b := j1261) c_1262 (by omega) (by omega)
                refine lv_iload_n hx hb dX12_timesOf_28 rfl (lv_at hl 1 rfl) ?_
                refine lv_if_eq (tgt := 63) hx hb dX12_timesOf_29 (by decide) (fun c_1265 => ?_) (fun c_1265 => ?_)
                · refine lv_iload_n hx hb dX12_timesOf_63 rfl (lv_at hl 1 rfl) ?_
                  refine lv_if_eq (tgt := 71) hx hb dX12_timesOf_64 (by decide) (fun c_1266 => ?_) (fun c_1266 => ?_)
                  · refine lv_iinc (v := (nI (j1257 + 1))) (lv' := [(2, .int (nI (j1257 + 1))), (4, .int (nI j1261)), (3, .int lk1261), (0, .ref (ad 0)), (1, .int (nI n))]) hx hb dX12_timesOf_71 hl (k := 2) rfl (nI_1 _) (by decide) rfl (fun ls hl => ?_)
                    refine lv_goto (tgt := 2) hx hb dX12_timesOf_74 (by decide) ?_
                    exact ih_1257 ((j1257 + 1))  ls H locs (by omega) (by omega) (by omega) (fun y h1 h2 q => (Nat.lt_or_ge y j1257).elim (fun h => i0_1257 y h1 h q) (fun h => by have e : y = j1257 := (by omega); rw [e] at q; exact bI_f i0_1261 c_1266 ⟨q.1, fun y h1 h2 => q.2 y h1 (by omega)⟩)) (lv_sub hl [0, 3, 4] rfl) hh
                  · refine lv_iload_n hx hb dX12_timesOf_67 rfl (lv_at hl 4 rfl) ?_
                    refine lv_iload_n hx hb dX12_timesOf_68 rfl (lv_at hl 2 rfl) ?_
                    refine lv_idiv hx hb dX12_timesOf_69 (nI_ne0 (by omega) (by omega)) ?_
                    rw [pk_div (a := n) (d := j1257) (by omega) (by omega) (by omega)]
                    have hq_1267 : (n / j1257) ≤ n := Nat.div_le_self _ _
                    exact hp_iretR hx hb hr rfl hlocks hsz hh (absurd c_1265 c_1266) dX12_timesOf_70
                · refine lv_aload_n hx hb dX12_timesOf_32 rfl (lv_at hl 3 rfl) ?_
                  refine hp_get hx hb hts ix12 hown hK hh (q := 0) rfl (hI.1 _ (by decide)) es1255 rfl 21 (by decide) (hts _ tw_900) (fun _ h9 => h9) rfl dX12_timesOf_33 ?_
                  refine lv_iload hx hb dX12_timesOf_36 (lv_at hl 0 rfl) ?_
                  refine hp_iald hx hb hK hh (q := 12) rfl (hI.1 _ (by decide)) es1256 (vp_in_nI (n := j1261) (by omega) (by decide)) dX12_timesOf_38 ?_
                  rw [nI_clamp (n := j1261) (by omega)]
                  obtain ⟨v_1268, hv_1268, hfv_1268⟩ := p0_1256 j1261 (by omega)
                  rw [hfv_1268]
                  refine lv_aload_n hx hb dX12_timesOf_39 rfl (lv_at hl 3 rfl) ?_
                  refine hp_get hx hb hts ix12 hown hK hh (q := 0) rfl (hI.1 _ (by decide)) es1255 rfl 21 (by decide) (hts _ tw_900) (fun _ h9 => h9) rfl dX12_timesOf_40 ?_
                  refine lv_iload hx hb dX12_timesOf_43 (lv_at hl 0 rfl) ?_
                  refine lv_iload_n hx hb dX12_timesOf_45 rfl (lv_at hl 2 rfl) ?_
                  refine lv_isub hx hb dX12_timesOf_46 ?_
                  rw [pk_sub (a := j1261) (b := j1257) (by omega)]
                  refine hp_iald hx hb hK hh (q := 12) rfl (hI.1 _ (by decide)) es1256 (vp_in_nI (n := (j1261 - j1257)) (by omega) (by decide)) dX12_timesOf_47 ?_
                  rw [nI_clamp (n := (j1261 - j1257)) (by omega)]
                  obtain ⟨v_1269, hv_1269, hfv_1269⟩ := p0_1256 (j1261 - j1257) (by omega)
                  rw [hfv_1269]
                  refine lv_icmp_ne (tgt := 55) hx hb dX12_timesOf_48 (by decide) (fun c_1270 => ?_) (fun c_1270 => ?_)
                  · have n_1270 : v_1268 ≠ v_1269 := n_neq (a := v_1268) (b := v_1269) c_1270 (by omega) (by omega)
                    refine lv_iconst (v := 0) hx hb dX12_timesOf_55 (by decide) ?_
                    refine lv_istore_n (lv' := [(3, .int 0), (4, .int (nI j1261)), (2, .int (nI j1257)), (0, .ref (ad 0)), (1, .int (nI n))]) hx hb dX12_timesOf_56 rfl hl (by decide) rfl (fun ls hl => ?_)
                    refine lv_iinc (v := (nI (j1261 + 1))) (lv' := [(4, .int (nI (j1261 + 1))), (3, .int 0), (2, .int (nI j1257)), (0, .ref (ad 0)), (1, .int (nI n))]) hx hb dX12_timesOf_57 hl (k := 1) rfl (nI_1 _) (by decide) rfl (fun ls hl => ?_)
                    refine lv_goto (tgt := 22) hx hb dX12_timesOf_60 (by decide) ?_
                    exact ih_1261 ((j1261 + 1)) 0 ls H locs (by omega) (by omega) (by omega) (Or.inr ⟨rfl, fun q => n_1270 (n_eq (hfv_1268.symm.trans ((q.2 j1261 (by omega) (by omega)).trans hfv_1269)) (by omega) (by omega))⟩) (lv_sub hl [0, 1, 2, 3, 4] rfl) hh
                  · have n_1270 : v_1268 = v_1269 := n_eq (a := v_1268) (b := v_1269) c_1270 (by omega) (by omega)
                    refine lv_iconst (v := 1) hx hb dX12_timesOf_51 (by decide) ?_
                    refine lv_goto (tgt := 56) hx hb dX12_timesOf_52 (by decide) ?_
                    refine lv_istore_n (lv' := [(3, .int 1), (4, .int (nI j1261)), (2, .int (nI j1257)), (0, .ref (ad 0)), (1, .int (nI n))]) hx hb dX12_timesOf_56 rfl hl (by decide) rfl (fun ls hl => ?_)
                    refine lv_iinc (v := (nI (j1261 + 1))) (lv' := [(4, .int (nI (j1261 + 1))), (3, .int 1), (2, .int (nI j1257)), (0, .ref (ad 0)), (1, .int (nI n))]) hx hb dX12_timesOf_57 hl (k := 1) rfl (nI_1 _) (by decide) rfl (fun ls hl => ?_)
                    refine lv_goto (tgt := 22) hx hb dX12_timesOf_60 (by decide) ?_
                    exact ih_1261 ((j1261 + 1)) 1 ls H locs (by omega) (by omega) (by omega) (Or.inl ⟨rfl, (bI_t i0_1261 c_1265).1, fun y h1 h2 => (Nat.lt_or_ge y j1261).elim (fun h => (bI_t i0_1261 c_1265).2 y h1 h) (fun h => by have e : y = j1261 := (by omega); rw [e, hfv_1268, hfv_1269, n_1270])⟩) (lv_sub hl [0, 1, 2, 3, 4] rfl) hh
          exact loop_1261 (n + 1) j1257 0 ls _ _ (Nat.le_refl _) (by omega) (by omega) (Or.inr ⟨rfl, fun q => n_1260 q.1⟩) (lv_sub hl [0, 1, 2, 3, 4] rfl) hh
        · have n_1260 : (n % j1257) = 0 := n_eq (a := (n % j1257)) (b := 0) c_1260 (by omega) (by decide)
          refine lv_iconst (v := 1) hx hb dX12_timesOf_13 (by decide) ?_
          refine lv_goto (tgt := 18) hx hb dX12_timesOf_14 (by decide) ?_
          refine lv_istore_n (lv' := [(3, .int 1), (2, .int (nI j1257)), (0, .ref (ad 0)), (1, .int (nI n))]) hx hb dX12_timesOf_18 rfl hl (by decide) rfl (fun ls hl => ?_)
          refine lv_iload_n hx hb dX12_timesOf_19 rfl (lv_at hl 1 rfl) ?_
          refine lv_istore (lv' := [(4, .int (nI j1257)), (3, .int 1), (2, .int (nI j1257)), (0, .ref (ad 0)), (1, .int (nI n))]) hx hb dX12_timesOf_20 hl (by decide) rfl (fun ls hl => ?_)
          have loop_1271 : ∀ (fu j1271 : Nat) (lk1271 : Int32)  (ls : Array Slot) (H : Heap) (locs : List Loc), j1257 ≤ j1271 → j1271 ≤ n → n < j1271 + fu →  (bI lk1271 (n % j1257 = 0 ∧ ∀ y, j1257 ≤ y → y < j1271 → f_1256 y = f_1256 (y - j1257))) → lv_has ls 5 [(4, .int (nI j1271)), (3, .int lk1271), (2, .int (nI j1257)), (0, .ref (ad 0)), (1, .int (nI n))] → Hp D (Nf sz) (fun _ => True) s.heap H locs cs ad en → W p l e (headSpec (Cond.code yX12_timesOf cX12_timesOf 5 (some .int) :: TB) (rmN 0)).room s m ([.ref (ad 0), .int (nI n)] : List Value).toArray below meth c H locs 0 0 (MQ below (va_Qi (S := Unit) (fun r _ => repP (rdF (en 12)) n r) (fun _ _ => True) (Nf sz)) ([.ref (ad 0), .int (nI n)] : List Value).toArray s 0 0 (Nf sz)) (F0 m 22 ls []) := by
            intro fu
            induction fu with
            | zero => intro j1271 lk1271 ls H locs h0 h1 h2; exact absurd h2 (by omega)
            | succ fu ih_1271 =>
              intro j1271 lk1271 ls H locs hj0_1271 hj_1271 hfu_1271 i0_1271 hl hh
              refine lv_iload hx hb dX12_timesOf_22 (lv_at hl 0 rfl) ?_
              refine lv_iload_n hx hb dX12_timesOf_24 rfl (lv_at hl 4 rfl) ?_
              refine lv_icmp_ge (tgt := 63) hx hb dX12_timesOf_25 (by decide) (fun c_1272 => ?_) (fun c_1272 => ?_)
              · have n_1272 : n ≤ j1271 := n_le (a := n) (b := j1271) c_1272 (by omega) (by omega)
                refine lv_iload_n hx hb dX12_timesOf_63 rfl (lv_at hl 1 rfl) ?_
                refine lv_if_eq (tgt := 71) hx hb dX12_timesOf_64 (by decide) (fun c_1273 => ?_) (fun c_1273 => ?_)
                · refine lv_iinc (v := (nI (j1257 + 1))) (lv' := [(2, .int (nI (j1257 + 1))), (4, .int (nI j1271)), (3, .int lk1271), (0, .ref (ad 0)), (1, .int (nI n))]) hx hb dX12_timesOf_71 hl (k := 2) rfl (nI_1 _) (by decide) rfl (fun ls hl => ?_)
                  refine lv_goto (tgt := 2) hx hb dX12_timesOf_74 (by decide) ?_
                  exact ih_1257 ((j1257 + 1))  ls H locs (by omega) (by omega) (by omega) (fun y h1 h2 q => (Nat.lt_or_ge y j1257).elim (fun h => i0_1257 y h1 h q) (fun h => by have e : y = j1257 := (by omega); rw [e] at q; exact bI_f i0_1271 c_1273 ⟨q.1, fun y h1 h2 => q.2 y h1 (by omega)⟩)) (lv_sub hl [0, 3, 4] rfl) hh
                · refine lv_iload_n hx hb dX12_timesOf_67 rfl (lv_at hl 4 rfl) ?_
                  refine lv_iload_n hx hb dX12_timesOf_68 rfl (lv_at hl 2 rfl) ?_
                  refine lv_idiv hx hb dX12_timesOf_69 (nI_ne0 (by omega) (by omega)) ?_
                  rw [pk_div (a := n) (d := j1257) (by omega) (by omega) (by omega)]
                  have hq_1274 : (n / j1257) ≤ n := Nat.div_le_self _ _
                  exact hp_iretR hx hb hr rfl hlocks hsz hh (by rw [hak]; exact Or.inl ⟨j1257, by omega, by omega, (bI_t i0_1271 c_1273).1, fun y h1 h2 => (bI_t i0_1271 c_1273).2 y h1 (by omega), rfl, i0_1257⟩) dX12_timesOf_70
              · have n_1272 : j1271 < n := n_nle (a := n) (b := j1271) c_1272 (by omega) (by omega)
                refine lv_iload_n hx hb dX12_timesOf_28 rfl (lv_at hl 1 rfl) ?_
                refine lv_if_eq (tgt := 63) hx hb dX12_timesOf_29 (by decide) (fun c_1275 => ?_) (fun c_1275 => ?_)
                · refine lv_iload_n hx hb dX12_timesOf_63 rfl (lv_at hl 1 rfl) ?_
                  refine lv_if_eq (tgt := 71) hx hb dX12_timesOf_64 (by decide) (fun c_1276 => ?_) (fun c_1276 => ?_)
                  · refine lv_iinc (v := (nI (j1257 + 1))) (lv' := [(2, .int (nI (j1257 + 1))), (4, .int (nI j1271)), (3, .int lk1271), (0, .ref (ad 0)), (1, .int (nI n))]) hx hb dX12_timesOf_71 hl (k := 2) rfl (nI_1 _) (by decide) rfl (fun ls hl => ?_)
                    refine lv_goto (tgt := 2) hx hb dX12_timesOf_74 (by decide) ?_
                    exact ih_1257 ((j1257 + 1))  ls H locs (by omega) (by omega) (by omega) (fun y h1 h2 q => (Nat.lt_or_ge y j1257).elim (fun h => i0_1257 y h1 h q) (fun h => by have e : y = j1257 := (by omega); rw [e] at q; exact bI_f i0_1271 c_1276 ⟨q.1, fun y h1 h2 => q.2 y h1 (by omega)⟩)) (lv_sub hl [0, 3, 4] rfl) hh
                  · refine lv_iload_n hx hb dX12_timesOf_67 rfl (lv_at hl 4 rfl) ?_
                    refine lv_iload_n hx hb dX12_timesOf_68 rfl (lv_at hl 2 rfl) ?_
                    refine lv_idiv hx hb dX12_timesOf_69 (nI_ne0 (by omega) (by omega)) ?_
                    rw [pk_div (a := n) (d := j1257) (by omega) (by omega) (by omega)]
                    have hq_1277 : (n / j1257) ≤ n := Nat.div_le_self _ _
                    exact hp_iretR hx hb hr rfl hlocks hsz hh (absurd c_1275 c_1276) dX12_timesOf_70
                · refine lv_aload_n hx hb dX12_timesOf_32 rfl (lv_at hl 3 rfl) ?_
                  refine hp_get hx hb hts ix12 hown hK hh (q := 0) rfl (hI.1 _ (by decide)) es1255 rfl 21 (by decide) (hts _ tw_900) (fun _ h9 => h9) rfl dX12_timesOf_33 ?_
                  refine lv_iload hx hb dX12_timesOf_36 (lv_at hl 0 rfl) ?_
                  refine hp_iald hx hb hK hh (q := 12) rfl (hI.1 _ (by decide)) es1256 (vp_in_nI (n := j1271) (by omega) (by decide)) dX12_timesOf_38 ?_
                  rw [nI_clamp (n := j1271) (by omega)]
                  obtain ⟨v_1278, hv_1278, hfv_1278⟩ := p0_1256 j1271 (by omega)
                  rw [hfv_1278]
                  refine lv_aload_n hx hb dX12_timesOf_39 rfl (lv_at hl 3 rfl) ?_
                  refine hp_get hx hb hts ix12 hown hK hh (q := 0) rfl (hI.1 _ (by decide)) es1255 rfl 21 (by decide) (hts _ tw_900) (fun _ h9 => h9) rfl dX12_timesOf_40 ?_
                  refine lv_iload hx hb dX12_timesOf_43 (lv_at hl 0 rfl) ?_
                  refine lv_iload_n hx hb dX12_timesOf_45 rfl (lv_at hl 2 rfl) ?_
                  refine lv_isub hx hb dX12_timesOf_46 ?_
                  rw [pk_sub (a := j1271) (b := j1257) (by omega)]
                  refine hp_iald hx hb hK hh (q := 12) rfl (hI.1 _ (by decide)) es1256 (vp_in_nI (n := (j1271 - j1257)) (by omega) (by decide)) dX12_timesOf_47 ?_
                  rw [nI_clamp (n := (j1271 - j1257)) (by omega)]
                  obtain ⟨v_1279, hv_1279, hfv_1279⟩ := p0_1256 (j1271 - j1257) (by omega)
                  rw [hfv_1279]
                  refine lv_icmp_ne (tgt := 55) hx hb dX12_timesOf_48 (by decide) (fun c_1280 => ?_) (fun c_1280 => ?_)
                  · have n_1280 : v_1278 ≠ v_1279 := n_neq (a := v_1278) (b := v_1279) c_1280 (by omega) (by omega)
                    refine lv_iconst (v := 0) hx hb dX12_timesOf_55 (by decide) ?_
                    refine lv_istore_n (lv' := [(3, .int 0), (4, .int (nI j1271)), (2, .int (nI j1257)), (0, .ref (ad 0)), (1, .int (nI n))]) hx hb dX12_timesOf_56 rfl hl (by decide) rfl (fun ls hl => ?_)
                    refine lv_iinc (v := (nI (j1271 + 1))) (lv' := [(4, .int (nI (j1271 + 1))), (3, .int 0), (2, .int (nI j1257)), (0, .ref (ad 0)), (1, .int (nI n))]) hx hb dX12_timesOf_57 hl (k := 1) rfl (nI_1 _) (by decide) rfl (fun ls hl => ?_)
                    refine lv_goto (tgt := 22) hx hb dX12_timesOf_60 (by decide) ?_
                    exact ih_1271 ((j1271 + 1)) 0 ls H locs (by omega) (by omega) (by omega) (Or.inr ⟨rfl, fun q => n_1280 (n_eq (hfv_1278.symm.trans ((q.2 j1271 (by omega) (by omega)).trans hfv_1279)) (by omega) (by omega))⟩) (lv_sub hl [0, 1, 2, 3, 4] rfl) hh
                  · have n_1280 : v_1278 = v_1279 := n_eq (a := v_1278) (b := v_1279) c_1280 (by omega) (by omega)
                    refine lv_iconst (v := 1) hx hb dX12_timesOf_51 (by decide) ?_
                    refine lv_goto (tgt := 56) hx hb dX12_timesOf_52 (by decide) ?_
                    refine lv_istore_n (lv' := [(3, .int 1), (4, .int (nI j1271)), (2, .int (nI j1257)), (0, .ref (ad 0)), (1, .int (nI n))]) hx hb dX12_timesOf_56 rfl hl (by decide) rfl (fun ls hl => ?_)
                    refine lv_iinc (v := (nI (j1271 + 1))) (lv' := [(4, .int (nI (j1271 + 1))), (3, .int 1), (2, .int (nI j1257)), (0, .ref (ad 0)), (1, .int (nI n))]) hx hb dX12_timesOf_57 hl (k := 1) rfl (nI_1 _) (by decide) rfl (fun ls hl => ?_)
                    refine lv_goto (tgt := 22) hx hb dX12_timesOf_60 (by decide) ?_
                    exact ih_1271 ((j1271 + 1)) 1 ls H locs (by omega) (by omega) (by omega) (Or.inl ⟨rfl, (bI_t i0_1271 c_1275).1, fun y h1 h2 => (Nat.lt_or_ge y j1271).elim (fun h => (bI_t i0_1271 c_1275).2 y h1 h) (fun h => by have e : y = j1271 := (by omega); rw [e, hfv_1278, hfv_1279, n_1280])⟩) (lv_sub hl [0, 1, 2, 3, 4] rfl) hh
          exact loop_1271 (n + 1) j1257 1 ls _ _ (Nat.le_refl _) (by omega) (by omega) (Or.inl ⟨rfl, n_1260, fun y h1 h2 => absurd h2 (by omega)⟩) (lv_sub hl [0, 1, 2, 3, 4] rfl) hh
  exact loop_1257 (n + 1) 1  ls _ _ (Nat.le_refl _) (by omega) (by omega) (fun y h1 h2 => absurd h2 (by omega)) (lv_sub hl [0, 1, 2] rfl) hh
theorem kw_X12_timesOf {R : Room} {s : State} {args : Array Value} {own : String} {idx : Nat} (hts : ∀ w ∈ TB, w.before args s = true) (hl : Cond.methodLink own idx yX12_timesOf ∈ TB) (hR : 0 + 1 ≤ R.frames ∧ 8 + (5 + 11) + 40 * 0 ≤ R.locals) : CallW R s args own RX12 idx yX12_timesOf cX12_timesOf 5 (some .int) (Cond.code yX12_timesOf cX12_timesOf 5 (some .int) :: TB) (rmN 0) 0 0 1 := cwV 1 hts (TB_V hl tw_1087 ts_47 tw_9 tw_1088) rfl rfl rfl (by decide +kernel) hR
set_option maxHeartbeats 4000000 in
set_option maxRecDepth 100000 in
/-- isFirstTurn -/
theorem c_X12_isFirstTurn (l : Launch) (D : va_G) (cy : Nat → ClassId) (sz : Nat) (cs : List Nat) (ad : Nat → Nat) (en : Nat → va_E) (hI : RX cy cs ad en) (n : Nat) (hn1 : 1 ≤ n) (hn12 : n ≤ 12)   : Met l yX12_isFirstTurn (Cond.code yX12_isFirstTurn cX12_isFirstTurn 4 (some .boolean) :: TB) (rmN 0) (va_Pc [.ref (ad 0), .int (nI n)] (Pre D cy cs ad en sz)) (va_Qi (S := Unit) (fun r _ => bI r (ftP (rdF (en 12)) n)) (fun _ _ => True) (Nf sz)) 0 0 (Nf sz) := by
  refine Met.ofW (cc := cX12_isFirstTurn) (maxL := 4) (ret := (some .boolean)) (by decide) rfl ?_
  intro p e s m args below meth c s₁ B hml hv
  obtain ⟨rfl, hsz, hP, hK, hD0⟩ := hv
  have hx := B.exec
  have hb := B.bytes
  have hr := B.returns
  have hts : ∀ w ∈ TB, w.before _ s = true := fun w h => atoms_spec (ws := _ :: TB) B.pre w (List.mem_cons_of_mem _ h)
  have hown : s.vm.findClass RX12 = some m.cls := findClass_of_methodNamed B.named
  have hlocks := B.notSynchronized
  have hh : Hp D (Nf sz) (fun _ => True) s.heap s.heap [] cs ad en := ⟨hP, hD0, va_S.rf⟩
  have hA : ∀ q : Nat, s.heap.size ≤ q → Nf sz q := fun q h => by rw [hsz] at h; exact h
  have hl := lv_entry ([.ref (ad 0), .int (nI n)]) (n := 4) (Nat.le_of_ble_eq_true rfl)
  rw [lg_entry_eq]
  generalize (lg_sl ([.ref (ad 0), .int (nI n)]) ++ List.replicate (4 - (lg_sl ([.ref (ad 0), .int (nI n)])).length) Slot.unset).toArray = ls at hl ⊢
  have hl : lv_has ls 4 [(0, .ref (ad 0)), (1, .int (nI n))] := hl
  obtain ⟨fa, hi, wd, mo, tb, dp, many, grt, lst, nou, rm, rb, pr, wo, es1281, hwd2, hwd3, hmo, htb, hwo⟩ := getr_M hI
  obtain ⟨f_1282, es1282, p0_1282⟩ := getr_ak hI
  refine lv_iconst (v := 1) hx hb dX12_isFirstTurn_0 (by decide) ?_
  refine lv_istore_n (lv' := [(2, .int 1), (0, .ref (ad 0)), (1, .int (nI n))]) hx hb dX12_isFirstTurn_1 rfl hl (by decide) rfl (fun ls hl => ?_)
  have hak : rdF (en 12) = f_1282 := by rw [es1282]; rfl
  have loop_1283 : ∀ (fu j1283 : Nat)   (ls : Array Slot) (H : Heap) (locs : List Loc), 1 ≤ j1283 → j1283 ≤ n → n < j1283 + fu →  (∀ m, 1 ≤ m → m < j1283 → ¬ baP f_1282 n m) → lv_has ls 4 [(2, .int (nI j1283)), (0, .ref (ad 0)), (1, .int (nI n))] → Hp D (Nf sz) (fun _ => True) s.heap H locs cs ad en → W p l e (headSpec (Cond.code yX12_isFirstTurn cX12_isFirstTurn 4 (some .boolean) :: TB) (rmN 0)).room s m ([.ref (ad 0), .int (nI n)] : List Value).toArray below meth c H locs 0 0 (MQ below (va_Qi (S := Unit) (fun r _ => bI r (ftP (rdF (en 12)) n)) (fun _ _ => True) (Nf sz)) ([.ref (ad 0), .int (nI n)] : List Value).toArray s 0 0 (Nf sz)) (F0 m 2 ls []) := by
    intro fu
    induction fu with
    | zero => intro j1283  ls H locs h0 h1 h2; exact absurd h2 (by omega)
    | succ fu ih_1283 =>
      intro j1283  ls H locs hj0_1283 hj_1283 hfu_1283 i0_1283 hl hh
      refine lv_iload_n hx hb dX12_isFirstTurn_2 rfl (lv_at hl 0 rfl) ?_
      refine lv_iload_n hx hb dX12_isFirstTurn_3 rfl (lv_at hl 2 rfl) ?_
      refine lv_icmp_ge (tgt := 71) hx hb dX12_isFirstTurn_4 (by decide) (fun c_1284 => ?_) (fun c_1284 => ?_)
      · have n_1284 : n ≤ j1283 := n_le (a := n) (b := j1283) c_1284 (by omega) (by omega)
        refine lv_iconst (v := 1) hx hb dX12_isFirstTurn_71 (by decide) ?_
        exact hp_iretR hx hb hr rfl hlocks hsz hh (by rw [hak]; exact Or.inl ⟨rfl, fun m h1 h2 => i0_1283 m h1 (by omega)⟩) dX12_isFirstTurn_72
      · have n_1284 : j1283 < n := n_nle (a := n) (b := j1283) c_1284 (by omega) (by omega)
        refine lv_iconst (v := 0) hx hb dX12_isFirstTurn_7 (by decide) ?_
        refine lv_istore_n (lv' := [(3, .int 0), (2, .int (nI j1283)), (0, .ref (ad 0)), (1, .int (nI n))]) hx hb dX12_isFirstTurn_8 rfl hl (by decide) rfl (fun ls hl => ?_)
        have loop_1285 : ∀ (fu j1285 : Nat)   (ls : Array Slot) (H : Heap) (locs : List Loc), 0 ≤ j1285 → j1285 ≤ n → n < j1285 + fu →  (∀ y, y < j1285 → f_1282 y = f_1282 ((y + j1283) % n)) → lv_has ls 4 [(3, .int (nI j1285)), (2, .int (nI j1283)), (0, .ref (ad 0)), (1, .int (nI n))] → Hp D (Nf sz) (fun _ => True) s.heap H locs cs ad en → W p l e (headSpec (Cond.code yX12_isFirstTurn cX12_isFirstTurn 4 (some .boolean) :: TB) (rmN 0)).room s m ([.ref (ad 0), .int (nI n)] : List Value).toArray below meth c H locs 0 0 (MQ below (va_Qi (S := Unit) (fun r _ => bI r (ftP (rdF (en 12)) n)) (fun _ _ => True) (Nf sz)) ([.ref (ad 0), .int (nI n)] : List Value).toArray s 0 0 (Nf sz)) (F0 m 9 ls []) := by
          intro fu
          induction fu with
          | zero => intro j1285  ls H locs h0 h1 h2; exact absurd h2 (by omega)
          | succ fu ih_1285 =>
            intro j1285  ls H locs hj0_1285 hj_1285 hfu_1285 i0_1285 hl hh
            refine lv_iload_n hx hb dX12_isFirstTurn_9 rfl (lv_at hl 0 rfl) ?_
            refine lv_iload_n hx hb dX12_isFirstTurn_10 rfl (lv_at hl 3 rfl) ?_
            refine lv_icmp_ge (tgt := 39) hx hb dX12_isFirstTurn_11 (by decide) (fun c_1286 => ?_) (fun c_1286 => ?_)
            · have n_1286 : n ≤ j1285 := n_le (a := n) (b := j1285) c_1286 (by omega) (by omega)
              refine lv_iload_n hx hb dX12_isFirstTurn_39 rfl (lv_at hl 0 rfl) ?_
              refine lv_iload_n hx hb dX12_isFirstTurn_40 rfl (lv_at hl 3 rfl) ?_
              refine lv_icmp_ge (tgt := 65) hx hb dX12_isFirstTurn_41 (by decide) (fun c_1287 => ?_) (fun c_1287 => ?_)
              · have n_1287 : n ≤ j1285 := n_le (a := n) (b := j1285) c_1287 (by omega) (by omega)
                refine lv_iinc (v := (nI (j1283 + 1))) (lv' := [(2, .int (nI (j1283 + 1))), (3, .int (nI j1285)), (0, .ref (ad 0)), (1, .int (nI n))]) hx hb dX12_isFirstTurn_65 hl (k := 1) rfl (nI_1 _) (by decide) rfl (fun ls hl => ?_)
                refine lv_goto (tgt := 2) hx hb dX12_isFirstTurn_68 (by decide) ?_
                exact ih_1283 ((j1283 + 1))  ls H locs (by omega) (by omega) (by omega) (fun m h1 h2 q => (Nat.lt_or_ge m j1283).elim (fun h => i0_1283 m h1 h q) (fun h => by have e : m = j1283 := (by omega); rw [e] at q; obtain ⟨i, hi, he, hl⟩ := q; have h9 := i_lt hl; rw [← i0_1285 i (by omega)] at h9; omega)) (lv_sub hl [0, 2, 3] rfl) hh
              · have n_1287 : j1285 < n := n_nle (a := n) (b := j1285) c_1287 (by omega) (by omega)
                refine lv_aload_n hx hb dX12_isFirstTurn_44 rfl (lv_at hl 2 rfl) ?_
                refine hp_get hx hb hts ix12 hown hK hh (q := 0) rfl (hI.1 _ (by decide)) es1281 rfl 21 (by decide) (hts _ tw_900) (fun _ h9 => h9) rfl dX12_isFirstTurn_45 ?_
                refine lv_iload_n hx hb dX12_isFirstTurn_48 rfl (lv_at hl 0 rfl) ?_
                refine lv_iload_n hx hb dX12_isFirstTurn_49 rfl (lv_at hl 1 rfl) ?_
                refine lv_iadd hx hb dX12_isFirstTurn_50 ?_
                rw [nI_add j1285 j1283]
                refine lv_iload_n hx hb dX12_isFirstTurn_51 rfl (lv_at hl 3 rfl) ?_
                refine lv_irem hx hb dX12_isFirstTurn_52 (nI_ne0 (by omega) (by omega)) ?_
                rw [pk_rem (a := (j1285 + j1283)) (d := n) (by omega) (by omega) (by omega)]
                have hq_1288 : ((j1285 + j1283) % n) ≤ (j1285 + j1283) := Nat.mod_le _ _
                have hm_1289 : ((j1285 + j1283) % n) < n := Nat.mod_lt _ (by omega)
                refine hp_iald hx hb hK hh (q := 12) rfl (hI.1 _ (by decide)) es1282 (vp_in_nI (n := ((j1285 + j1283) % n)) (by omega) (by decide)) dX12_isFirstTurn_53 ?_
                rw [nI_clamp (n := ((j1285 + j1283) % n)) (by omega)]
                obtain ⟨v_1290, hv_1290, hfv_1290⟩ := p0_1282 ((j1285 + j1283) % n) (by omega)
                rw [hfv_1290]
                refine lv_aload_n hx hb dX12_isFirstTurn_54 rfl (lv_at hl 2 rfl) ?_
                refine hp_get hx hb hts ix12 hown hK hh (q := 0) rfl (hI.1 _ (by decide)) es1281 rfl 21 (by decide) (hts _ tw_900) (fun _ h9 => h9) rfl dX12_isFirstTurn_55 ?_
                refine lv_iload_n hx hb dX12_isFirstTurn_58 rfl (lv_at hl 0 rfl) ?_
                refine hp_iald hx hb hK hh (q := 12) rfl (hI.1 _ (by decide)) es1282 (vp_in_nI (n := j1285) (by omega) (by decide)) dX12_isFirstTurn_59 ?_
                rw [nI_clamp (n := j1285) (by omega)]
                obtain ⟨v_1291, hv_1291, hfv_1291⟩ := p0_1282 j1285 (by omega)
                rw [hfv_1291]
                refine lv_icmp_ge (tgt := 65) hx hb dX12_isFirstTurn_60 (by decide) (fun c_1292 => ?_) (fun c_1292 => ?_)
                · have n_1292 : v_1291 ≤ v_1290 := n_le (a := v_1291) (b := v_1290) c_1292 (by omega) (by omega)
                  refine lv_iinc (v := (nI (j1283 + 1))) (lv' := [(2, .int (nI (j1283 + 1))), (3, .int (nI j1285)), (0, .ref (ad 0)), (1, .int (nI n))]) hx hb dX12_isFirstTurn_65 hl (k := 1) rfl (nI_1 _) (by decide) rfl (fun ls hl => ?_)
                  refine lv_goto (tgt := 2) hx hb dX12_isFirstTurn_68 (by decide) ?_
                  exact ih_1283 ((j1283 + 1))  ls H locs (by omega) (by omega) (by omega) (fun m h1 h2 q => (Nat.lt_or_ge m j1283).elim (fun h => i0_1283 m h1 h q) (fun h => by have e : m = j1283 := (by omega); rw [e] at q; omega)) (lv_sub hl [0, 2, 3] rfl) hh
                · have n_1292 : v_1290 < v_1291 := n_nle (a := v_1291) (b := v_1290) c_1292 (by omega) (by omega)
                  refine lv_iconst (v := 0) hx hb dX12_isFirstTurn_63 (by decide) ?_
                  exact hp_iretR hx hb hr rfl hlocks hsz hh (absurd (show j1285 < n by omega) (by omega)) dX12_isFirstTurn_64
            · have n_1286 : j1285 < n := n_nle (a := n) (b := j1285) c_1286 (by omega) (by omega)
              refine lv_aload_n hx hb dX12_isFirstTurn_14 rfl (lv_at hl 2 rfl) ?_
              refine hp_get hx hb hts ix12 hown hK hh (q := 0) rfl (hI.1 _ (by decide)) es1281 rfl 21 (by decide) (hts _ tw_900) (fun _ h9 => h9) rfl dX12_isFirstTurn_15 ?_
              refine lv_iload_n hx hb dX12_isFirstTurn_18 rfl (lv_at hl 0 rfl) ?_
              refine lv_iload_n hx hb dX12_isFirstTurn_19 rfl (lv_at hl 1 rfl) ?_
              refine lv_iadd hx hb dX12_isFirstTurn_20 ?_
              rw [nI_add j1285 j1283]
              refine lv_iload_n hx hb dX12_isFirstTurn_21 rfl (lv_at hl 3 rfl) ?_
              refine lv_irem hx hb dX12_isFirstTurn_22 (nI_ne0 (by omega) (by omega)) ?_
              rw [pk_rem (a := (j1285 + j1283)) (d := n) (by omega) (by omega) (by omega)]
              have hq_1293 : ((j1285 + j1283) % n) ≤ (j1285 + j1283) := Nat.mod_le _ _
              have hm_1294 : ((j1285 + j1283) % n) < n := Nat.mod_lt _ (by omega)
              refine hp_iald hx hb hK hh (q := 12) rfl (hI.1 _ (by decide)) es1282 (vp_in_nI (n := ((j1285 + j1283) % n)) (by omega) (by decide)) dX12_isFirstTurn_23 ?_
              rw [nI_clamp (n := ((j1285 + j1283) % n)) (by omega)]
              obtain ⟨v_1295, hv_1295, hfv_1295⟩ := p0_1282 ((j1285 + j1283) % n) (by omega)
              rw [hfv_1295]
              refine lv_aload_n hx hb dX12_isFirstTurn_24 rfl (lv_at hl 2 rfl) ?_
              refine hp_get hx hb hts ix12 hown hK hh (q := 0) rfl (hI.1 _ (by decide)) es1281 rfl 21 (by decide) (hts _ tw_900) (fun _ h9 => h9) rfl dX12_isFirstTurn_25 ?_
              refine lv_iload_n hx hb dX12_isFirstTurn_28 rfl (lv_at hl 0 rfl) ?_
              refine hp_iald hx hb hK hh (q := 12) rfl (hI.1 _ (by decide)) es1282 (vp_in_nI (n := j1285) (by omega) (by decide)) dX12_isFirstTurn_29 ?_
              rw [nI_clamp (n := j1285) (by omega)]
              obtain ⟨v_1296, hv_1296, hfv_1296⟩ := p0_1282 j1285 (by omega)
              rw [hfv_1296]
              refine lv_icmp_ne (tgt := 39) hx hb dX12_isFirstTurn_30 (by decide) (fun c_1297 => ?_) (fun c_1297 => ?_)
              · have n_1297 : v_1295 ≠ v_1296 := n_neq (a := v_1295) (b := v_1296) c_1297 (by omega) (by omega)
                refine lv_iload_n hx hb dX12_isFirstTurn_39 rfl (lv_at hl 0 rfl) ?_
                refine lv_iload_n hx hb dX12_isFirstTurn_40 rfl (lv_at hl 3 rfl) ?_
                refine lv_icmp_ge (tgt := 65) hx hb dX12_isFirstTurn_41 (by decide) (fun c_1298 => ?_) (fun c_1298 => ?_)
                · have n_1298 : n ≤ j1285 := n_le (a := n) (b := j1285) c_1298 (by omega) (by omega)
                  refine lv_iinc (v := (nI (j1283 + 1))) (lv' := [(2, .int (nI (j1283 + 1))), (3, .int (nI j1285)), (0, .ref (ad 0)), (1, .int (nI n))]) hx hb dX12_isFirstTurn_65 hl (k := 1) rfl (nI_1 _) (by decide) rfl (fun ls hl => ?_)
                  refine lv_goto (tgt := 2) hx hb dX12_isFirstTurn_68 (by decide) ?_
                  exact ih_1283 ((j1283 + 1))  ls H locs (by omega) (by omega) (by omega) (fun m h1 h2 q => (Nat.lt_or_ge m j1283).elim (fun h => i0_1283 m h1 h q) (fun h => by have e : m = j1283 := (by omega); rw [e] at q; omega)) (lv_sub hl [0, 2, 3] rfl) hh
                · have n_1298 : j1285 < n := n_nle (a := n) (b := j1285) c_1298 (by omega) (by omega)
                  refine lv_aload_n hx hb dX12_isFirstTurn_44 rfl (lv_at hl 2 rfl) ?_
                  refine hp_get hx hb hts ix12 hown hK hh (q := 0) rfl (hI.1 _ (by decide)) es1281 rfl 21 (by decide) (hts _ tw_900) (fun _ h9 => h9) rfl dX12_isFirstTurn_45 ?_
                  refine lv_iload_n hx hb dX12_isFirstTurn_48 rfl (lv_at hl 0 rfl) ?_
                  refine lv_iload_n hx hb dX12_isFirstTurn_49 rfl (lv_at hl 1 rfl) ?_
                  refine lv_iadd hx hb dX12_isFirstTurn_50 ?_
                  rw [nI_add j1285 j1283]
                  refine lv_iload_n hx hb dX12_isFirstTurn_51 rfl (lv_at hl 3 rfl) ?_
                  refine lv_irem hx hb dX12_isFirstTurn_52 (nI_ne0 (by omega) (by omega)) ?_
                  rw [pk_rem (a := (j1285 + j1283)) (d := n) (by omega) (by omega) (by omega)]
                  have hq_1299 : ((j1285 + j1283) % n) ≤ (j1285 + j1283) := Nat.mod_le _ _
                  have hm_1300 : ((j1285 + j1283) % n) < n := Nat.mod_lt _ (by omega)
                  refine hp_iald hx hb hK hh (q := 12) rfl (hI.1 _ (by decide)) es1282 (vp_in_nI (n := ((j1285 + j1283) % n)) (by omega) (by decide)) dX12_isFirstTurn_53 ?_
                  rw [nI_clamp (n := ((j1285 + j1283) % n)) (by omega)]
                  rw [hfv_1295]
                  refine lv_aload_n hx hb dX12_isFirstTurn_54 rfl (lv_at hl 2 rfl) ?_
                  refine hp_get hx hb hts ix12 hown hK hh (q := 0) rfl (hI.1 _ (by decide)) es1281 rfl 21 (by decide) (hts _ tw_900) (fun _ h9 => h9) rfl dX12_isFirstTurn_55 ?_
                  refine lv_iload_n hx hb dX12_isFirstTurn_58 rfl (lv_at hl 0 rfl) ?_
                  refine hp_iald hx hb hK hh (q := 12) rfl (hI.1 _ (by decide)) es1282 (vp_in_nI (n := j1285) (by omega) (by decide)) dX12_isFirstTurn_59 ?_
                  rw [nI_clamp (n := j1285) (by omega)]
                  rw [hfv_1296]
                  refine lv_icmp_ge (tgt := 65) hx hb dX12_isFirstTurn_60 (by decide) (fun c_1301 => ?_) (fun c_1301 => ?_)
                  · have n_1301 : v_1296 ≤ v_1295 := n_le (a := v_1296) (b := v_1295) c_1301 (by omega) (by omega)
                    refine lv_iinc (v := (nI (j1283 + 1))) (lv' := [(2, .int (nI (j1283 + 1))), (3, .int (nI j1285)), (0, .ref (ad 0)), (1, .int (nI n))]) hx hb dX12_isFirstTurn_65 hl (k := 1) rfl (nI_1 _) (by decide) rfl (fun ls hl => ?_)
                    refine lv_goto (tgt := 2) hx hb dX12_isFirstTurn_68 (by decide) ?_
                    exact ih_1283 ((j1283 + 1))  ls H locs (by omega) (by omega) (by omega) (fun m h1 h2 q => (Nat.lt_or_ge m j1283).elim (fun h => i0_1283 m h1 h q) (fun h => by have e : m = j1283 := (by omega); rw [e] at q; obtain ⟨i, hi, he, hl⟩ := q; have h9 := i_lt hl; rcases Nat.lt_trichotomy i j1285 with h | h | h; (rw [← i0_1285 i h] at h9; omega); (rw [h, hfv_1295, hfv_1296, nI_toInt (n := v_1295) (by omega), nI_toInt (n := v_1296) (by omega)] at h9; omega); (have h8 := he j1285 h; rw [hfv_1295, hfv_1296] at h8; exact n_1297 (n_eq h8 (by omega) (by omega)).symm))) (lv_sub hl [0, 2, 3] rfl) hh
                  · have n_1301 : v_1295 < v_1296 := n_nle (a := v_1296) (b := v_1295) c_1301 (by omega) (by omega)
                    refine lv_iconst (v := 0) hx hb dX12_isFirstTurn_63 (by decide) ?_
                    exact hp_iretR hx hb hr rfl hlocks hsz hh (by rw [hak]; exact Or.inr ⟨rfl, fun q => q j1283 (by omega) (by omega) ⟨j1285, by omega, i0_1285, by rw [hfv_1295, hfv_1296]; exact nI_lt9 n_1301 (by omega)⟩⟩) dX12_isFirstTurn_64
              · have n_1297 : v_1295 = v_1296 := n_eq (a := v_1295) (b := v_1296) c_1297 (by omega) (by omega)
                refine lv_iinc (v := (nI (j1285 + 1))) (lv' := [(3, .int (nI (j1285 + 1))), (2, .int (nI j1283)), (0, .ref (ad 0)), (1, .int (nI n))]) hx hb dX12_isFirstTurn_33 hl (k := 0) rfl (nI_1 _) (by decide) rfl (fun ls hl => ?_)
                refine lv_goto (tgt := 9) hx hb dX12_isFirstTurn_36 (by decide) ?_
                exact ih_1285 ((j1285 + 1))  ls H locs (by omega) (by omega) (by omega) (fun y h2 => (Nat.lt_or_ge y j1285).elim (fun h => i0_1285 y h) (fun h => by have e : y = j1285 := (by omega); rw [e, hfv_1296, hfv_1295, n_1297])) (lv_sub hl [0, 1, 2, 3] rfl) hh
        exact loop_1285 (n + 1) 0  ls _ _ (Nat.le_refl _) (by omega) (by omega) (fun y h => absurd h (Nat.not_lt_zero y)) (lv_sub hl [0, 1, 2, 3] rfl) hh
  exact loop_1283 (n + 1) 1  ls _ _ (Nat.le_refl _) (by omega) (by omega) (fun m h1 h2 => absurd h2 (by omega)) (lv_sub hl [0, 1, 2] rfl) hh
theorem kw_X12_isFirstTurn {R : Room} {s : State} {args : Array Value} {own : String} {idx : Nat} (hts : ∀ w ∈ TB, w.before args s = true) (hl : Cond.methodLink own idx yX12_isFirstTurn ∈ TB) (hR : 0 + 1 ≤ R.frames ∧ 8 + (4 + 11) + 40 * 0 ≤ R.locals) : CallW R s args own RX12 idx yX12_isFirstTurn cX12_isFirstTurn 4 (some .boolean) (Cond.code yX12_isFirstTurn cX12_isFirstTurn 4 (some .boolean) :: TB) (rmN 0) 0 0 1 := cwV 1 hts (TB_V hl tw_1091 ts_48 tw_9 tw_1092) rfl rfl rfl (by decide +kernel) hR
set_option maxHeartbeats 4000000 in
set_option maxRecDepth 100000 in
/-- isRing -/
theorem c_X12_isRing (l : Launch) (D : va_G) (cy : Nat → ClassId) (sz : Nat) (cs : List Nat) (ad : Nat → Nat) (en : Nat → va_E) (hI : RX cy cs ad en) (n : Nat) (hn1 : 1 ≤ n) (hn12 : n ≤ 12)   : Met l yX12_isRing (Cond.code yX12_isRing cX12_isRing 2 (some .boolean) :: TB) (rmN 2) (va_Pc [.ref (ad 0), .int (nI n)] (Pre D cy cs ad en sz)) (va_Qi (S := Unit) (fun r _ => bI r (rgM (rdF (en 2)) (rdF (en 12)) n)) (fun _ _ => True) (Nf sz)) 0 0 (Nf sz) := by
  refine Met.ofW (cc := cX12_isRing) (maxL := 2) (ret := (some .boolean)) (by decide) rfl ?_
  intro p e s m args below meth c s₁ B hml hv
  obtain ⟨rfl, hsz, hP, hK, hD0⟩ := hv
  have hx := B.exec
  have hb := B.bytes
  have hr := B.returns
  have hts : ∀ w ∈ TB, w.before _ s = true := fun w h => atoms_spec (ws := _ :: TB) B.pre w (List.mem_cons_of_mem _ h)
  have hown : s.vm.findClass RX12 = some m.cls := findClass_of_methodNamed B.named
  have hlocks := B.notSynchronized
  have hh : Hp D (Nf sz) (fun _ => True) s.heap s.heap [] cs ad en := ⟨hP, hD0, va_S.rf⟩
  have hA : ∀ q : Nat, s.heap.size ≤ q → Nf sz q := fun q h => by rw [hsz] at h; exact h
  have hl := lv_entry ([.ref (ad 0), .int (nI n)]) (n := 2) (Nat.le_of_ble_eq_true rfl)
  rw [lg_entry_eq]
  generalize (lg_sl ([.ref (ad 0), .int (nI n)]) ++ List.replicate (2 - (lg_sl ([.ref (ad 0), .int (nI n)])).length) Slot.unset).toArray = ls at hl ⊢
  have hl : lv_has ls 2 [(0, .ref (ad 0)), (1, .int (nI n))] := hl
  obtain ⟨fa, hi, wd, mo, tb, dp, many, grt, lst, nou, rm, rb, pr, wo, es1302, hwd2, hwd3, hmo, htb, hwo⟩ := getr_M hI
  obtain ⟨f_1303, es1303, p0_1303⟩ := getr_ak hI
  refine lv_aload_n hx hb dX12_isRing_0 rfl (lv_at hl 0 rfl) ?_
  refine lv_iload_n hx hb dX12_isRing_1 rfl (lv_at hl 1 rfl) ?_
  refine hp_callRi (va_runV (As := [.int (nI n)]) (rest := []) ⟨hx, hb, hml, hown, hts⟩ (c_X12_isAllowed l D cy _ cs ad en hI n (by omega) (by omega)) (kw_X12_isAllowed hts tw_1081 ⟨by decide, by decide⟩) (preV_of hh hK (hI.1 _ (by decide)) es1302 rfl) rfl rfl hl.1 rfl (lv_room (Nat.le_of_ble_eq_true rfl)) dX12_isRing_2 ⟨Nat.le_of_ble_eq_true rfl, Nat.le_of_ble_eq_true rfl⟩) hh hA (fun r_1304 H locs hw_1304 hh => ?_)
  rcases hw_1304 with ⟨hb_1304, hy_1304⟩ | ⟨hb_1304, hy_1304⟩
  · obtain rfl : r_1304 = 1 := hb_1304
    refine lv_if_eq (tgt := 50) hx hb dX12_isRing_5 (by decide) (fun c_0 => absurd c_0 (by decide)) (fun _ => ?_)
    refine lv_aload_n hx hb dX12_isRing_8 rfl (lv_at hl 0 rfl) ?_
    refine lv_aload_n hx hb dX12_isRing_9 rfl (lv_at hl 0 rfl) ?_
    refine hp_get hx hb hts ix12 hown hK hh (q := 0) rfl (hI.1 _ (by decide)) es1302 rfl 21 (by decide) (hts _ tw_900) (fun _ h9 => h9) rfl dX12_isRing_10 ?_
    refine lv_iload_n hx hb dX12_isRing_13 rfl (lv_at hl 1 rfl) ?_
    refine lv_iconst (v := 1) hx hb dX12_isRing_14 (by decide) ?_
    refine lv_isub hx hb dX12_isRing_15 ?_
    rw [show (1 : Int32) = nI 1 from rfl, pk_sub (a := n) (b := 1) (by omega)]
    refine hp_iald hx hb hK hh (q := 12) rfl (hI.1 _ (by decide)) es1303 (vp_in_nI (n := (n - 1)) (by omega) (by decide)) dX12_isRing_16 ?_
    rw [nI_clamp (n := (n - 1)) (by omega)]
    obtain ⟨v_1305, hv_1305, hfv_1305⟩ := p0_1303 (n - 1) (by omega)
    rw [hfv_1305]
    refine lv_aload_n hx hb dX12_isRing_17 rfl (lv_at hl 0 rfl) ?_
    refine hp_get hx hb hts ix12 hown hK hh (q := 0) rfl (hI.1 _ (by decide)) es1302 rfl 21 (by decide) (hts _ tw_900) (fun _ h9 => h9) rfl dX12_isRing_18 ?_
    refine lv_iconst (v := 0) hx hb dX12_isRing_21 (by decide) ?_
    rw [show (0 : Int32) = nI 0 from rfl]
    refine hp_iald hx hb hK hh (q := 12) rfl (hI.1 _ (by decide)) es1303 (vp_in_nI (n := 0) (by decide) (by decide)) dX12_isRing_22 ?_
    rw [nI_clamp (n := 0) (by decide)]
    obtain ⟨v_1306, hv_1306, hfv_1306⟩ := p0_1303 0 (by decide)
    rw [hfv_1306]
    refine hp_callRi (va_runV (As := [.int (nI v_1305), .int (nI v_1306)]) (rest := []) ⟨hx, hb, hml, hown, hts⟩ (c_X12_mayFollow l D cy _ cs ad en hI v_1305 v_1306 (by omega) (by omega)) (kw_X12_mayFollow hts tw_1029 ⟨by decide, by decide⟩) (preV_of hh hK (hI.1 _ (by decide)) es1302 rfl) rfl rfl hl.1 rfl (lv_room (Nat.le_of_ble_eq_true rfl)) dX12_isRing_23 ⟨Nat.le_of_ble_eq_true rfl, Nat.le_of_ble_eq_true rfl⟩) hh hA (fun r_1307 H locs hw_1307 hh => ?_)
    rcases Decidable.em (rdF (en 2) (6 * v_1305 + v_1306) = 0) with hp_1307 | hp_1307
    · obtain rfl : r_1307 = 1 := Eq.trans hw_1307 (if_pos hp_1307)
      refine lv_if_eq (tgt := 50) hx hb dX12_isRing_26 (by decide) (fun c_0 => absurd c_0 (by decide)) (fun _ => ?_)
      refine lv_aload_n hx hb dX12_isRing_29 rfl (lv_at hl 0 rfl) ?_
      refine lv_iload_n hx hb dX12_isRing_30 rfl (lv_at hl 1 rfl) ?_
      refine hp_callRi (va_runV (As := [.int (nI n)]) (rest := []) ⟨hx, hb, hml, hown, hts⟩ (c_X12_timesOf l D cy _ cs ad en hI n (by omega) (by omega)) (kw_X12_timesOf hts tw_1085 ⟨by decide, by decide⟩) (preV_of hh hK (hI.1 _ (by decide)) es1302 rfl) rfl rfl hl.1 rfl (lv_room (Nat.le_of_ble_eq_true rfl)) dX12_isRing_31 ⟨Nat.le_of_ble_eq_true rfl, Nat.le_of_ble_eq_true rfl⟩) hh hA (fun r_1308 H locs hw_1308 hh => ?_)
      refine lv_iconst (v := 1) hx hb dX12_isRing_34 (by decide) ?_
      refine lv_icmp_ne (tgt := 50) hx hb dX12_isRing_35 (by decide) (fun c_1309 => ?_) (fun c_1309 => ?_)
      · refine lv_iconst (v := 0) hx hb dX12_isRing_50 (by decide) ?_
        have htu : tuM (rdF (en 2)) (rdF (en 12)) n ↔ rdF (en 2) (6 * v_1305 + v_1306) = 0 := by unfold tuM; rw [show rdF (en 12) = f_1303 from by rw [es1303]; rfl, hfv_1305, hfv_1306, nI_clamp (n := v_1305) (by omega), nI_clamp (n := v_1306) (by omega)]
        exact hp_iretR hx hb hr rfl hlocks hsz hh (Or.inr ⟨rfl, fun q => c_1309 ((rep_1 hn12 hw_1308).2 q.2.2.1)⟩) dX12_isRing_51
      · refine lv_aload_n hx hb dX12_isRing_38 rfl (lv_at hl 0 rfl) ?_
        refine lv_iload_n hx hb dX12_isRing_39 rfl (lv_at hl 1 rfl) ?_
        refine hp_callRi (va_runV (As := [.int (nI n)]) (rest := []) ⟨hx, hb, hml, hown, hts⟩ (c_X12_isFirstTurn l D cy _ cs ad en hI n (by omega) (by omega)) (kw_X12_isFirstTurn hts tw_1089 ⟨by decide, by decide⟩) (preV_of hh hK (hI.1 _ (by decide)) es1302 rfl) rfl rfl hl.1 rfl (lv_room (Nat.le_of_ble_eq_true rfl)) dX12_isRing_40 ⟨Nat.le_of_ble_eq_true rfl, Nat.le_of_ble_eq_true rfl⟩) hh hA (fun r_1310 H locs hw_1310 hh => ?_)
        rcases hw_1310 with ⟨hb_1310, hy_1310⟩ | ⟨hb_1310, hy_1310⟩
        · obtain rfl : r_1310 = 1 := hb_1310
          refine lv_if_eq (tgt := 50) hx hb dX12_isRing_43 (by decide) (fun c_0 => absurd c_0 (by decide)) (fun _ => ?_)
          refine lv_iconst (v := 1) hx hb dX12_isRing_46 (by decide) ?_
          refine lv_goto (tgt := 51) hx hb dX12_isRing_47 (by decide) ?_
          have htu : tuM (rdF (en 2)) (rdF (en 12)) n ↔ rdF (en 2) (6 * v_1305 + v_1306) = 0 := by unfold tuM; rw [show rdF (en 12) = f_1303 from by rw [es1303]; rfl, hfv_1305, hfv_1306, nI_clamp (n := v_1305) (by omega), nI_clamp (n := v_1306) (by omega)]
          exact hp_iretR hx hb hr rfl hlocks hsz hh (Or.inl ⟨rfl, hy_1304, htu.mpr hp_1307, (rep_1 hn12 hw_1308).1 c_1309, hy_1310⟩) dX12_isRing_51
        · obtain rfl : r_1310 = 0 := hb_1310
          refine lv_if_eq (tgt := 50) hx hb dX12_isRing_43 (by decide) (fun _ => ?_) (fun c_0 => absurd c_0 (by decide))
          refine lv_iconst (v := 0) hx hb dX12_isRing_50 (by decide) ?_
          have htu : tuM (rdF (en 2)) (rdF (en 12)) n ↔ rdF (en 2) (6 * v_1305 + v_1306) = 0 := by unfold tuM; rw [show rdF (en 12) = f_1303 from by rw [es1303]; rfl, hfv_1305, hfv_1306, nI_clamp (n := v_1305) (by omega), nI_clamp (n := v_1306) (by omega)]
          exact hp_iretR hx hb hr rfl hlocks hsz hh (Or.inr ⟨rfl, fun q => hy_1310 q.2.2.2⟩) dX12_isRing_51
    · obtain rfl : r_1307 = 0 := Eq.trans hw_1307 (if_neg hp_1307)
      refine lv_if_eq (tgt := 50) hx hb dX12_isRing_26 (by decide) (fun _ => ?_) (fun c_0 => absurd c_0 (by decide))
      refine lv_iconst (v := 0) hx hb dX12_isRing_50 (by decide) ?_
      have htu : tuM (rdF (en 2)) (rdF (en 12)) n ↔ rdF (en 2) (6 * v_1305 + v_1306) = 0 := by unfold tuM; rw [show rdF (en 12) = f_1303 from by rw [es1303]; rfl, hfv_1305, hfv_1306, nI_clamp (n := v_1305) (by omega), nI_clamp (n := v_1306) (by omega)]
      exact hp_iretR hx hb hr rfl hlocks hsz hh (Or.inr ⟨rfl, fun q => hp_1307 (htu.mp q.2.1)⟩) dX12_isRing_51
  · obtain rfl : r_1304 = 0 := hb_1304
    refine lv_if_eq (tgt := 50) hx hb dX12_isRing_5 (by decide) (fun _ => ?_) (fun c_0 => absurd c_0 (by decide))
    refine lv_iconst (v := 0) hx hb dX12_isRing_50 (by decide) ?_
    exact hp_iretR hx hb hr rfl hlocks hsz hh (Or.inr ⟨rfl, fun q => hy_1304 q.1⟩) dX12_isRing_51
theorem kw_X12_isRing {R : Room} {s : State} {args : Array Value} {own : String} {idx : Nat} (hts : ∀ w ∈ TB, w.before args s = true) (hl : Cond.methodLink own idx yX12_isRing ∈ TB) (hR : 2 + 1 ≤ R.frames ∧ 8 + (2 + 11) + 40 * 2 ≤ R.locals) : CallW R s args own RX12 idx yX12_isRing cX12_isRing 2 (some .boolean) (Cond.code yX12_isRing cX12_isRing 2 (some .boolean) :: TB) (rmN 2) 0 0 1 := cwV 1 hts (TB_V hl tw_1079 ts_45 tw_9 tw_1080) rfl rfl rfl (by decide +kernel) hR
