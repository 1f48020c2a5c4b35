set_option maxHeartbeats 4000000 in
set_option maxRecDepth 100000 in
/-- sheet -/
theorem c_X12_sheet (l : Launch) (D : va_G) (cy : Nat → ClassId) (sz : Nat) (cs : List Nat) (ad : Nat → Nat) (en : Nat → va_E) (hI : RX cy cs ad en) (k9 la9 n9 : Int32)   : Met l yX12_sheet (Cond.code yX12_sheet cX12_sheet 5 (some .int) :: TB) (rmN 1) (va_Pc [.ref (ad 0), .int k9, .int la9, .int n9] (Pre D cy cs ad en sz)) (va_Qi (S := Nat → va_E) (fun r en1 => RX cy cs ad en1 ∧ (∀ c, (c ≠ 0 ∧ c ≠ 3 ∧ c ≠ 4 ∧ c ≠ 5) → en1 c = en c) ∧ RSH k9 la9 n9 r en en1 ∧ KP en en1) (PostM D cs ad) (Af cs ad sz)) 0 0 (Af cs ad sz) := by
  refine Met.ofW (cc := cX12_sheet) (maxL := 5) (ret := (some .int)) (by decide) rfl ?_
  intro p e s m args below meth c s₁ B hml hv
  obtain ⟨rfl, hsz, hP, hK, hD0⟩ := hv
  have hx := B.exec
  have hb := B.bytes
  have hr := B.returns
  have hts : ∀ w ∈ TB, w.before _ s = true := fun w h => atoms_spec (ws := _ :: TB) B.pre w (List.mem_cons_of_mem _ h)
  have hown : s.vm.findClass RX12 = some m.cls := findClass_of_methodNamed B.named
  have hlocks := B.notSynchronized
  have hh : Hp D (Af cs ad sz) (Af cs ad sz) s.heap s.heap [] cs ad en := ⟨hP, Af_self hD0, va_S.rf⟩
  have hA : ∀ q : Nat, s.heap.size ≤ q → Af cs ad sz q := fun q h => Or.inr (by rw [hsz] at h; exact h)
  have hl := lv_entry ([.ref (ad 0), .int k9, .int la9, .int n9]) (n := 5) (Nat.le_of_ble_eq_true rfl)
  rw [lg_entry_eq]
  generalize (lg_sl ([.ref (ad 0), .int k9, .int la9, .int n9]) ++ List.replicate (5 - (lg_sl ([.ref (ad 0), .int k9, .int la9, .int n9])).length) Slot.unset).toArray = ls at hl ⊢
  have hl : lv_has ls 5 [(0, .ref (ad 0)), (1, .int k9), (2, .int la9), (3, .int n9)] := hl
  have hf0 : ∀ c, (c ≠ 0 ∧ c ≠ 3 ∧ c ≠ 4 ∧ c ≠ 5) → en c = en c := fun _ _ => rfl
  obtain ⟨fa, hi, wd, mo, tb, dp, many, grt, lst, nou, rm, rb, pr, wo, es1115, hwd2, hwd3, hmo, htb, hwo⟩ := getr_M hI
  obtain ⟨f_1116, es1116⟩ := getr_la hI
  obtain ⟨f_1117, es1117, p0_1117⟩ := getr_sl hI
  obtain ⟨f_1118, es1118⟩ := getr_ce hI
  refine lv_aload_n hx hb dX12_sheet_0 rfl (lv_at hl 0 rfl) ?_
  refine lv_iconst (v := 0) hx hb dX12_sheet_1 (by decide) ?_
  refine hp_put hx hb hts ix12 tyX12 tyX12_ok nmX12 hown hK hh (q := 0) rfl (hI.1 _ (by decide)) es1115 rfl 0 (by decide) (hts _ tw_879) (fun _ h9 => h9) rfl (ty := .int) (by decide +kernel) rfl rfl (Nat.le_of_ble_eq_true rfl) dX12_sheet_2 (fun H locs en_1119 hen_1119 hh => ?_)
  have es1116_1119 : en_1119 3 = .inl (cy 0, 4, .inl f_1116) := by rw [hen_1119, va_up_ne _ _ (by decide)]; exact es1116
  have es1117_1119 : en_1119 4 = .inl (cy 0, 4, .inl f_1117) := by rw [hen_1119, va_up_ne _ _ (by decide)]; exact es1117
  have es1118_1119 : en_1119 5 = .inl (cy 0, 160, .inl f_1118) := by rw [hen_1119, va_up_ne _ _ (by decide)]; exact es1118
  have es1115_1119 : en_1119 0 = .inr (11, [.int 0, .int hi, .int (nI wd), .int (nI mo), .int (nI tb), .ref (ad 1), .ref (ad 2), .ref (ad 3), .ref (ad 4), .ref (ad 5), .ref (ad 6), .ref (ad 7), .ref (ad 8), .ref (ad 9), .int dp, .long many, .long grt, .long lst, .long nou, .ref (ad 10), .ref (ad 11), .ref (ad 12), .int rm, .long rb, .ref (ad 13), .int pr, .ref (ad 14), .ref (ad 15), .ref (ad 16), .ref (ad 17), .int (nI wo), .ref (ad 18), .ref (ad 19)]) := by rw [hen_1119]; exact va_up_self _ _ _
  have hI_1119 : RX cy cs ad en_1119 := by rw [hen_1119]; exact upr_M hI ⟨0, hi, wd, mo, tb, dp, many, grt, lst, nou, rm, rb, pr, wo, rfl, hwd2, hwd3, hmo, htb, hwo⟩
  have hf_1119 : ∀ c, (c ≠ 0 ∧ c ≠ 3 ∧ c ≠ 4 ∧ c ≠ 5) → en_1119 c = en c := fun c hc => Eq.trans (show en_1119 c = en c from by rw [hen_1119, va_up_ne _ _ (by omega)]) (hf0 c hc)
  have hkc3_1119 : en_1119 3 = en 3 := (show en_1119 3 = en 3 from by rw [hen_1119, va_up_ne _ _ (by decide)]).trans rfl
  have hkc4_1119 : en_1119 4 = en 4 := (show en_1119 4 = en 4 from by rw [hen_1119, va_up_ne _ _ (by decide)]).trans rfl
  have hkc5_1119 : en_1119 5 = en 5 := (show en_1119 5 = en 5 from by rw [hen_1119, va_up_ne _ _ (by decide)]).trans rfl
  have hkp_1119 : KP en en_1119 := KP_fv (KP_rf en) es1115 es1115_1119 hi (nI wd) (nI mo) (nI tb) pr (nI wo) rfl rfl rfl rfl rfl rfl rfl rfl rfl rfl rfl rfl
  refine lv_iload_n hx hb dX12_sheet_5 rfl (lv_at hl 1 rfl) ?_
  refine lv_i2l hx hb dX12_sheet_6 rfl ?_
  refine lv_lconst (v := 0) hx hb dX12_sheet_7 (by decide) ?_
  refine lv_ldc2 hx hb hown (hts _ tw_984) dX12_sheet_8 ?_
  refine hp_callRi (va_runS (As := [.long k9.toInt64, .long 0, .long 3]) (rest := []) ⟨hx, hb, hml, hown, hts⟩ (c_X12_within l D cy _ cs ad en_1119 k9.toInt64 0 3) (kw_X12_within hts tw_985 ⟨by decide, by decide⟩) (preS_of hh hK) rfl rfl hl.1 rfl (lv_room (Nat.le_of_ble_eq_true rfl)) dX12_sheet_11 ⟨Nat.le_of_ble_eq_true rfl, Nat.le_of_ble_eq_true rfl⟩) hh hA (fun r_1120 H locs hw_1120 hh => ?_)
  rcases Decidable.em (wi k9 0 3) with hp_1120 | hp_1120
  · obtain rfl : r_1120 = 1 := Eq.trans hw_1120 (if_pos ((wj_32 (by decide) (by decide)).mpr hp_1120))
    obtain ⟨N_1120, rfl, hA_1120, hB_1120⟩ := wi_natB hp_1120 0 3 (by decide) (by decide)
    refine lv_if_ne (tgt := 19) hx hb dX12_sheet_14 (by decide) (fun _ => ?_) (fun c_0 => absurd c_0 (by decide))
    refine lv_iload_n hx hb dX12_sheet_19 rfl (lv_at hl 2 rfl) ?_
    refine lv_i2l hx hb dX12_sheet_20 rfl ?_
    refine lv_lconst (v := 0) hx hb dX12_sheet_21 (by decide) ?_
    refine lv_ldc2 hx hb hown (hts _ tw_983) dX12_sheet_22 ?_
    refine hp_callRi (va_runS (As := [.long la9.toInt64, .long 0, .long 2]) (rest := []) ⟨hx, hb, hml, hown, hts⟩ (c_X12_within l D cy _ cs ad en_1119 la9.toInt64 0 2) (kw_X12_within hts tw_985 ⟨by decide, by decide⟩) (preS_of hh hK) rfl rfl hl.1 rfl (lv_room (Nat.le_of_ble_eq_true rfl)) dX12_sheet_25 ⟨Nat.le_of_ble_eq_true rfl, Nat.le_of_ble_eq_true rfl⟩) hh hA (fun r_1121 H locs hw_1121 hh => ?_)
    rcases Decidable.em (wi la9 0 2) with hp_1121 | hp_1121
    · obtain rfl : r_1121 = 1 := Eq.trans hw_1121 (if_pos ((wj_32 (by decide) (by decide)).mpr hp_1121))
      obtain ⟨N_1121, rfl, hA_1121, hB_1121⟩ := wi_natB hp_1121 0 2 (by decide) (by decide)
      refine lv_if_eq (tgt := 37) hx hb dX12_sheet_28 (by decide) (fun c_0 => absurd c_0 (by decide)) (fun _ => ?_)
      refine lv_iload_n hx hb dX12_sheet_31 rfl (lv_at hl 3 rfl) ?_
      refine lv_bipush (v := 40) hx hb dX12_sheet_32 (by decide) ?_
      refine lv_icmp_le (tgt := 40) hx hb dX12_sheet_34 (by decide) (fun c_1122 => ?_) (fun c_1122 => ?_)
      · refine lv_iload_n hx hb dX12_sheet_40 rfl (lv_at hl 3 rfl) ?_
        refine lv_if_ge (tgt := 50) hx hb dX12_sheet_41 (by decide) (fun c_1123 => ?_) (fun c_1123 => ?_)
        · obtain ⟨N9, hN9, rfl⟩ := nat_of (Int32.not_lt.mpr c_1123)
          have hN40 : N9 ≤ 40 := n_le (a := N9) (b := 40) c_1122 hN9 (by decide)
          refine lv_aload_n hx hb dX12_sheet_50 rfl (lv_at hl 0 rfl) ?_
          refine hp_get hx hb hts ix12 hown hK hh (q := 0) rfl (hI.1 _ (by decide)) es1115_1119 rfl 7 (by decide) (hts _ tw_886) (fun _ h9 => h9) rfl dX12_sheet_51 ?_
          refine lv_iload_n hx hb dX12_sheet_54 rfl (lv_at hl 1 rfl) ?_
          refine lv_iload_n hx hb dX12_sheet_55 rfl (lv_at hl 2 rfl) ?_
          refine hp_iast hx hb hK hh (q := 3) rfl (hI.1 _ (by decide)) es1116_1119 (vp_in_nI (n := N_1120) (by omega) (by decide)) dX12_sheet_56 (fun H locs en_1124 hen_1124 hh => ?_)
          rw [nI_clamp (n := N_1120) (by omega)] at hen_1124
          have es1117_1124 : en_1124 4 = .inl (cy 0, 4, .inl f_1117) := by rw [hen_1124, va_up_ne _ _ (by decide)]; exact es1117_1119
          have es1118_1124 : en_1124 5 = .inl (cy 0, 160, .inl f_1118) := by rw [hen_1124, va_up_ne _ _ (by decide)]; exact es1118_1119
          have es1115_1124 : en_1124 0 = .inr (11, [.int 0, .int hi, .int (nI wd), .int (nI mo), .int (nI tb), .ref (ad 1), .ref (ad 2), .ref (ad 3), .ref (ad 4), .ref (ad 5), .ref (ad 6), .ref (ad 7), .ref (ad 8), .ref (ad 9), .int dp, .long many, .long grt, .long lst, .long nou, .ref (ad 10), .ref (ad 11), .ref (ad 12), .int rm, .long rb, .ref (ad 13), .int pr, .ref (ad 14), .ref (ad 15), .ref (ad 16), .ref (ad 17), .int (nI wo), .ref (ad 18), .ref (ad 19)]) := by rw [hen_1124, va_up_ne _ _ (by decide)]; exact es1115_1119
          have es1116_1124 : en_1124 3 = .inl (cy 0, 4, .inl (upd f_1116 N_1120 (nI N_1121))) := by rw [hen_1124]; exact va_up_self _ _ _
          have hI_1124 : RX cy cs ad en_1124 := by rw [hen_1124]; exact upr_la hI_1119 ⟨(upd f_1116 N_1120 (nI N_1121)), rfl⟩
          have hf_1124 : ∀ c, (c ≠ 0 ∧ c ≠ 3 ∧ c ≠ 4 ∧ c ≠ 5) → en_1124 c = en c := fun c hc => Eq.trans (show en_1124 c = en_1119 c from by rw [hen_1124, va_up_ne _ _ (by omega)]) (hf_1119 c hc)
          have hkc4_1124 : en_1124 4 = en 4 := (show en_1124 4 = en_1119 4 from by rw [hen_1124, va_up_ne _ _ (by decide)]).trans hkc4_1119
          have hkc5_1124 : en_1124 5 = en 5 := (show en_1124 5 = en_1119 5 from by rw [hen_1124, va_up_ne _ _ (by decide)]).trans hkc5_1119
          have hkp_1124 : KP en en_1124 := KP_same hkp_1119 (show en_1124 0 = en_1119 0 from by rw [hen_1124, va_up_ne _ _ (by decide)])
          refine lv_aload_n hx hb dX12_sheet_57 rfl (lv_at hl 0 rfl) ?_
          refine hp_get hx hb hts ix12 hown hK hh (q := 0) rfl (hI.1 _ (by decide)) es1115_1124 rfl 8 (by decide) (hts _ tw_887) (fun _ h9 => h9) rfl dX12_sheet_58 ?_
          refine lv_iload_n hx hb dX12_sheet_61 rfl (lv_at hl 1 rfl) ?_
          refine lv_iload_n hx hb dX12_sheet_62 rfl (lv_at hl 3 rfl) ?_
          refine hp_iast hx hb hK hh (q := 4) rfl (hI.1 _ (by decide)) es1117_1124 (vp_in_nI (n := N_1120) (by omega) (by decide)) dX12_sheet_63 (fun H locs en_1125 hen_1125 hh => ?_)
          rw [nI_clamp (n := N_1120) (by omega)] at hen_1125
          have es1118_1125 : en_1125 5 = .inl (cy 0, 160, .inl f_1118) := by rw [hen_1125, va_up_ne _ _ (by decide)]; exact es1118_1124
          have es1115_1125 : en_1125 0 = .inr (11, [.int 0, .int hi, .int (nI wd), .int (nI mo), .int (nI tb), .ref (ad 1), .ref (ad 2), .ref (ad 3), .ref (ad 4), .ref (ad 5), .ref (ad 6), .ref (ad 7), .ref (ad 8), .ref (ad 9), .int dp, .long many, .long grt, .long lst, .long nou, .ref (ad 10), .ref (ad 11), .ref (ad 12), .int rm, .long rb, .ref (ad 13), .int pr, .ref (ad 14), .ref (ad 15), .ref (ad 16), .ref (ad 17), .int (nI wo), .ref (ad 18), .ref (ad 19)]) := by rw [hen_1125, va_up_ne _ _ (by decide)]; exact es1115_1124
          have es1116_1125 : en_1125 3 = .inl (cy 0, 4, .inl (upd f_1116 N_1120 (nI N_1121))) := by rw [hen_1125, va_up_ne _ _ (by decide)]; exact es1116_1124
          have es1117_1125 : en_1125 4 = .inl (cy 0, 4, .inl (upd f_1117 N_1120 (nI N9))) := by rw [hen_1125]; exact va_up_self _ _ _
          have hI_1125 : RX cy cs ad en_1125 := by rw [hen_1125]; exact upr_sl hI_1124 ⟨(upd f_1117 N_1120 (nI N9)), rfl, (vals_updB p0_1117 (by omega))⟩
          have hf_1125 : ∀ c, (c ≠ 0 ∧ c ≠ 3 ∧ c ≠ 4 ∧ c ≠ 5) → en_1125 c = en c := fun c hc => Eq.trans (show en_1125 c = en_1124 c from by rw [hen_1125, va_up_ne _ _ (by omega)]) (hf_1124 c hc)
          have hkc5_1125 : en_1125 5 = en 5 := (show en_1125 5 = en_1124 5 from by rw [hen_1125, va_up_ne _ _ (by decide)]).trans hkc5_1124
          have hkp_1125 : KP en en_1125 := KP_same hkp_1124 (show en_1125 0 = en_1124 0 from by rw [hen_1125, va_up_ne _ _ (by decide)])
          refine lv_iconst (v := 0) hx hb dX12_sheet_64 (by decide) ?_
          refine lv_istore (lv' := [(4, .int 0), (0, .ref (ad 0)), (1, .int (nI N_1120)), (2, .int (nI N_1121)), (3, .int (nI N9))]) hx hb dX12_sheet_65 hl (by decide) rfl (fun ls hl => ?_)
          have loop_1126 : ∀ (fu j1126 : Nat)  (en_1126 : Nat → va_E) (ls : Array Slot) (H : Heap) (locs : List Loc), 0 ≤ j1126 → j1126 ≤ 40 → 40 < j1126 + fu → RX cy cs ad en_1126 → (∀ c, (c ≠ 0 ∧ c ≠ 3 ∧ c ≠ 4 ∧ c ≠ 5) → en_1126 c = en c) → (rdF (en_1126 3) = upd (rdF (en 3)) N_1120 (nI N_1121)) → (rdF (en_1126 4) = upd (rdF (en 4)) N_1120 (nI N9)) → (∀ i, rdF (en_1126 5) i = if 40 * N_1120 ≤ i ∧ i < 40 * N_1120 + j1126 then 0 else rdF (en 5) i) → (KP en en_1126) → lv_has ls 5 [(4, .int (nI j1126)), (0, .ref (ad 0)), (1, .int (nI N_1120)), (2, .int (nI N_1121)), (3, .int (nI N9))] → Hp D (Af cs ad sz) (Af cs ad sz) s.heap H locs cs ad en_1126 → W p l e (headSpec (Cond.code yX12_sheet cX12_sheet 5 (some .int) :: TB) (rmN 1)).room s m ([.ref (ad 0), .int (nI N_1120), .int (nI N_1121), .int (nI N9)] : List Value).toArray below meth c H locs 0 0 (MQ below (va_Qi (S := Nat → va_E) (fun r en1 => RX cy cs ad en1 ∧ (∀ c, (c ≠ 0 ∧ c ≠ 3 ∧ c ≠ 4 ∧ c ≠ 5) → en1 c = en c) ∧ RSH (nI N_1120) (nI N_1121) (nI N9) r en en1 ∧ KP en en1) (PostM D cs ad) (Af cs ad sz)) ([.ref (ad 0), .int (nI N_1120), .int (nI N_1121), .int (nI N9)] : List Value).toArray s 0 0 (Af cs ad sz)) (F0 m 67 ls []) := by
            intro fu
            induction fu with
            | zero => intro j1126  en_1126 ls H locs h0 h1 h2; exact absurd h2 (by omega)
            | succ fu ih_1126 =>
              intro j1126  en_1126 ls H locs hj0_1126 hj_1126 hfu_1126 hI_1126 hf_1126 i0_1126 i1_1126 i2_1126 i3_1126 hl hh
              refine lv_iload hx hb dX12_sheet_67 (lv_at hl 0 rfl) ?_
              refine lv_bipush (v := 40) hx hb dX12_sheet_69 (by decide) ?_
              refine lv_icmp_ge (tgt := 93) hx hb dX12_sheet_71 (by decide) (fun c_1127 => ?_) (fun c_1127 => ?_)
              · have n_1127 : 40 ≤ j1126 := n_le (a := 40) (b := j1126) c_1127 (by decide) (by omega)
                refine lv_iconst (v := 1) hx hb dX12_sheet_93 (by decide) ?_
                have h40 : (40 : Int32).toInt = 40 := by decide
                have h00 : (0 : Int32).toInt = 0 := by decide
                exact hp_iretM hx hb hr rfl hlocks hh (⟨hI_1126, hf_1126, ⟨(by have h8 := i_le c_1122; have h9 := i_le c_1123; unfold spSheet; rw [if_pos hp_1120, if_pos ⟨hp_1121, by omega⟩, if_neg (by omega)]), Or.inr ⟨rfl, N_1120, N9, rfl, rfl, by omega, hN40, i0_1126, i1_1126, by have e9 : j1126 = 40 := (by omega); rw [e9] at i2_1126; exact i2_1126⟩⟩, i3_1126⟩) dX12_sheet_94
              · have n_1127 : j1126 < 40 := n_nle (a := 40) (b := j1126) c_1127 (by decide) (by omega)
                refine lv_aload_n hx hb dX12_sheet_74 rfl (lv_at hl 1 rfl) ?_
                obtain ⟨fa_1128, hi_1128, wd_1128, mo_1128, tb_1128, dp_1128, many_1128, grt_1128, lst_1128, nou_1128, rm_1128, rb_1128, pr_1128, wo_1128, es1128, p0_1128, p1_1128, p2_1128, p3_1128, p4_1128⟩ := getr_M hI_1126
                have hq2_1129 : wd_1128 = wd := n_eq ((show nI wd_1128 = rdI (en_1126 0) 2 from by rw [es1128]; rfl).trans (i3_1126.2.1.trans (show rdI (en 0) 2 = nI wd from by rw [es1115]; rfl))) (by omega) (by omega)
                have hq3_1129 : mo_1128 = mo := n_eq ((show nI mo_1128 = rdI (en_1126 0) 3 from by rw [es1128]; rfl).trans (i3_1126.2.2.1.trans (show rdI (en 0) 3 = nI mo from by rw [es1115]; rfl))) (by omega) (by omega)
                have hq4_1129 : tb_1128 = tb := n_eq ((show nI tb_1128 = rdI (en_1126 0) 4 from by rw [es1128]; rfl).trans (i3_1126.2.2.2.1.trans (show rdI (en 0) 4 = nI tb from by rw [es1115]; rfl))) (by omega) (by omega)
                have hq30_1129 : wo_1128 = wo := n_eq ((show nI wo_1128 = rdI (en_1126 0) 30 from by rw [es1128]; rfl).trans (i3_1126.2.2.2.2.2.trans (show rdI (en 0) 30 = nI wo from by rw [es1115]; rfl))) (by omega) (by omega)
                rw [hq2_1129, hq3_1129, hq4_1129, hq30_1129] at es1128
                refine hp_get hx hb hts ix12 hown hK hh (q := 0) rfl (hI.1 _ (by decide)) es1128 rfl 9 (by decide) (hts _ tw_888) (fun _ h9 => h9) rfl dX12_sheet_75 ?_
                refine lv_bipush (v := 40) hx hb dX12_sheet_78 (by decide) ?_
                refine lv_iload_n hx hb dX12_sheet_80 rfl (lv_at hl 2 rfl) ?_
                refine lv_imul hx hb dX12_sheet_81 ?_
                rw [show (40 : Int32) = nI 40 from rfl, pk_mul 40 N_1120]
                refine lv_iload hx hb dX12_sheet_82 (lv_at hl 0 rfl) ?_
                refine lv_iadd hx hb dX12_sheet_84 ?_
                rw [nI_add (40 * N_1120) j1126]
                refine lv_iconst (v := 0) hx hb dX12_sheet_85 (by decide) ?_
                obtain ⟨f_1130, es1130⟩ := getr_ce hI_1126
                refine hp_iast hx hb hK hh (q := 5) rfl (hI.1 _ (by decide)) es1130 (vp_in_nI (n := ((40 * N_1120) + j1126)) (by omega) (by decide)) dX12_sheet_86 (fun H locs en_1131 hen_1131 hh => ?_)
                rw [nI_clamp (n := ((40 * N_1120) + j1126)) (by omega)] at hen_1131
                have es1128_1131 : en_1131 0 = .inr (11, [.int fa_1128, .int hi_1128, .int (nI wd), .int (nI mo), .int (nI tb), .ref (ad 1), .ref (ad 2), .ref (ad 3), .ref (ad 4), .ref (ad 5), .ref (ad 6), .ref (ad 7), .ref (ad 8), .ref (ad 9), .int dp_1128, .long many_1128, .long grt_1128, .long lst_1128, .long nou_1128, .ref (ad 10), .ref (ad 11), .ref (ad 12), .int rm_1128, .long rb_1128, .ref (ad 13), .int pr_1128, .ref (ad 14), .ref (ad 15), .ref (ad 16), .ref (ad 17), .int (nI wo), .ref (ad 18), .ref (ad 19)]) := by rw [hen_1131, va_up_ne _ _ (by decide)]; exact es1128
                have es1130_1131 : en_1131 5 = .inl (cy 0, 160, .inl (upd f_1130 ((40 * N_1120) + j1126) 0)) := by rw [hen_1131]; exact va_up_self _ _ _
                have hI_1131 : RX cy cs ad en_1131 := by rw [hen_1131]; exact upr_ce hI_1126 ⟨(upd f_1130 ((40 * N_1120) + j1126) 0), rfl⟩
                have hf_1131 : ∀ c, (c ≠ 0 ∧ c ≠ 3 ∧ c ≠ 4 ∧ c ≠ 5) → en_1131 c = en c := fun c hc => Eq.trans (show en_1131 c = en_1126 c from by rw [hen_1131, va_up_ne _ _ (by omega)]) (hf_1126 c hc)
                have hkp_1131 : KP en en_1131 := KP_same i3_1126 (show en_1131 0 = en_1126 0 from by rw [hen_1131, va_up_ne _ _ (by decide)])
                refine lv_iinc (v := (nI (j1126 + 1))) (lv' := [(4, .int (nI (j1126 + 1))), (0, .ref (ad 0)), (1, .int (nI N_1120)), (2, .int (nI N_1121)), (3, .int (nI N9))]) hx hb dX12_sheet_87 hl (k := 0) rfl (nI_1 _) (by decide) rfl (fun ls hl => ?_)
                refine lv_goto (tgt := 67) hx hb dX12_sheet_90 (by decide) ?_
                exact ih_1126 ((j1126 + 1))  en_1131 ls H locs (by omega) (by omega) (by omega) hI_1131 hf_1131 (by rw [hen_1131, va_up_ne _ _ (by decide)]; exact i0_1126) (by rw [hen_1131, va_up_ne _ _ (by decide)]; exact i1_1126) (fun i => by rw [es1130_1131]; exact z_40 (fun i => (show f_1130 i = rdF (en_1126 5) i from by rw [es1130]; rfl).trans (i2_1126 i)) i) (hkp_1131) (lv_sub hl [0, 1, 2, 3, 4] rfl) hh
          exact loop_1126 (40 + 1) 0  en_1125 ls _ _ (Nat.le_refl _) (by omega) (by omega) hI_1125 hf_1125 (by rw [es1116_1125, es1116]; rfl) (by rw [es1117_1125, es1117]; rfl) (fun i => by rw [hkc5_1125, if_neg (by omega)]) (hkp_1125) (lv_sub hl [0, 1, 2, 3, 4] rfl) hh
        · refine lv_aload_n hx hb dX12_sheet_44 rfl (lv_at hl 0 rfl) ?_
          refine lv_iconst (v := 4) hx hb dX12_sheet_45 (by decide) ?_
          refine hp_callMi (va_runV (As := [.int 4]) (rest := []) ⟨hx, hb, hml, hown, hts⟩ (c_X12_fails l D cy _ cs ad en_1119 (hI.1 _ (by decide)) 0 hi wd mo tb dp many grt lst nou rm rb pr wo 4 es1115_1119) (kw_X12_fails hts tw_997 ⟨by decide, by decide⟩) (preV_of hh hK (hI.1 _ (by decide)) es1115_1119 rfl) rfl rfl hl.1 rfl (lv_room (Nat.le_of_ble_eq_true rfl)) dX12_sheet_46 ⟨Nat.le_of_ble_eq_true rfl, Nat.le_of_ble_eq_true rfl⟩) hh hA (fun r_1132 H locs en_1132 hw_1132 hh => ?_)
          obtain ⟨hr_1132, hen_1132⟩ := hw_1132
          have es1116_1132 : en_1132 3 = .inl (cy 0, 4, .inl f_1116) := by rw [hen_1132, va_up_ne _ _ (by decide)]; exact es1116_1119
          have es1117_1132 : en_1132 4 = .inl (cy 0, 4, .inl f_1117) := by rw [hen_1132, va_up_ne _ _ (by decide)]; exact es1117_1119
          have es1118_1132 : en_1132 5 = .inl (cy 0, 160, .inl f_1118) := by rw [hen_1132, va_up_ne _ _ (by decide)]; exact es1118_1119
          have es1115_1132 : en_1132 0 = .inr (11, [.int 4, .int hi, .int (nI wd), .int (nI mo), .int (nI tb), .ref (ad 1), .ref (ad 2), .ref (ad 3), .ref (ad 4), .ref (ad 5), .ref (ad 6), .ref (ad 7), .ref (ad 8), .ref (ad 9), .int dp, .long many, .long grt, .long lst, .long nou, .ref (ad 10), .ref (ad 11), .ref (ad 12), .int rm, .long rb, .ref (ad 13), .int pr, .ref (ad 14), .ref (ad 15), .ref (ad 16), .ref (ad 17), .int (nI wo), .ref (ad 18), .ref (ad 19)]) := by rw [hen_1132]; exact va_up_self _ _ _
          have hI_1132 : RX cy cs ad en_1132 := by rw [hen_1132]; exact upr_M hI_1119 ⟨4, hi, wd, mo, tb, dp, many, grt, lst, nou, rm, rb, pr, wo, rfl, hwd2, hwd3, hmo, htb, hwo⟩
          have hf_1132 : ∀ c, (c ≠ 0 ∧ c ≠ 3 ∧ c ≠ 4 ∧ c ≠ 5) → en_1132 c = en c := fun c hc => Eq.trans (show en_1132 c = en_1119 c from by rw [hen_1132, va_up_ne _ _ (by omega)]) (hf_1119 c hc)
          have hkc3_1132 : en_1132 3 = en 3 := (show en_1132 3 = en_1119 3 from by rw [hen_1132, va_up_ne _ _ (by decide)]).trans hkc3_1119
          have hkc4_1132 : en_1132 4 = en 4 := (show en_1132 4 = en_1119 4 from by rw [hen_1132, va_up_ne _ _ (by decide)]).trans hkc4_1119
          have hkc5_1132 : en_1132 5 = en 5 := (show en_1132 5 = en_1119 5 from by rw [hen_1132, va_up_ne _ _ (by decide)]).trans hkc5_1119
          have hkp_1132 : KP en en_1132 := KP_fv hkp_1119 es1115_1119 es1115_1132 hi (nI wd) (nI mo) (nI tb) pr (nI wo) rfl rfl rfl rfl rfl rfl rfl rfl rfl rfl rfl rfl
          obtain rfl : r_1132 = (-14) := hr_1132.trans (by decide)
          have h40 : (40 : Int32).toInt = 40 := by decide
          have h00 : (0 : Int32).toInt = 0 := by decide
          exact hp_iretM hx hb hr rfl hlocks hh (⟨hI_1132, hf_1132, ⟨(by have h8 := i_le c_1122; have h9 := i_nle c_1123; unfold spSheet; rw [if_pos hp_1120, if_pos ⟨hp_1121, by omega⟩, if_pos (by omega)]), Or.inl ⟨by decide, hkc3_1132, hkc4_1132, hkc5_1132⟩⟩, hkp_1132⟩) dX12_sheet_49
      · refine lv_bipush (v := (-2)) hx hb dX12_sheet_37 (by decide) ?_
        have h40 : (40 : Int32).toInt = 40 := by decide
        have h00 : (0 : Int32).toInt = 0 := by decide
        exact hp_iretM hx hb hr rfl hlocks hh (⟨hI_1119, hf_1119, ⟨(by have h9 := i_nle c_1122; unfold spSheet; rw [if_pos hp_1120, if_neg (fun q => absurd q.2 (by omega))]), Or.inl ⟨by decide, hkc3_1119, hkc4_1119, hkc5_1119⟩⟩, hkp_1119⟩) dX12_sheet_39
    · obtain rfl : r_1121 = 0 := Eq.trans hw_1121 (if_neg (fun q => hp_1121 ((wj_32 (by decide) (by decide)).mp q)))
      refine lv_if_eq (tgt := 37) hx hb dX12_sheet_28 (by decide) (fun _ => ?_) (fun c_0 => absurd c_0 (by decide))
      refine lv_bipush (v := (-2)) hx hb dX12_sheet_37 (by decide) ?_
      have h40 : (40 : Int32).toInt = 40 := by decide
      have h00 : (0 : Int32).toInt = 0 := by decide
      exact hp_iretM hx hb hr rfl hlocks hh (⟨hI_1119, hf_1119, ⟨(by unfold spSheet; rw [if_pos hp_1120, if_neg (fun q => hp_1121 q.1)]), Or.inl ⟨by decide, hkc3_1119, hkc4_1119, hkc5_1119⟩⟩, hkp_1119⟩) dX12_sheet_39
  · obtain rfl : r_1120 = 0 := Eq.trans hw_1120 (if_neg (fun q => hp_1120 ((wj_32 (by decide) (by decide)).mp q)))
    refine lv_if_ne (tgt := 19) hx hb dX12_sheet_14 (by decide) (fun c_0 => absurd c_0 (by decide)) (fun _ => ?_)
    refine lv_iconst (v := (-1)) hx hb dX12_sheet_17 (by decide) ?_
    have h40 : (40 : Int32).toInt = 40 := by decide
    have h00 : (0 : Int32).toInt = 0 := by decide
    exact hp_iretM hx hb hr rfl hlocks hh (⟨hI_1119, hf_1119, ⟨(by unfold spSheet; rw [if_neg hp_1120]), Or.inl ⟨by decide, hkc3_1119, hkc4_1119, hkc5_1119⟩⟩, hkp_1119⟩) dX12_sheet_18
theorem kw_X12_sheet {R : Room} {s : State} {args : Array Value} {own : String} {idx : Nat} (hts : ∀ w ∈ TB, w.before args s = true) (hl : Cond.methodLink own idx yX12_sheet ∈ TB) (hR : 1 + 1 ≤ R.frames ∧ 8 + (5 + 11) + 40 * 1 ≤ R.locals) : CallW R s args own RX12 idx yX12_sheet cX12_sheet 5 (some .int) (Cond.code yX12_sheet cX12_sheet 5 (some .int) :: TB) (rmN 1) 0 0 3 := cwV 3 hts (TB_V hl tw_1200 tw_1201 tw_9 tw_1202) rfl rfl rfl (by decide +kernel) hR
set_option maxHeartbeats 4000000 in
set_option maxRecDepth 100000 in
/-- lose -/
theorem c_X12_lose (l : Launch) (D : va_G) (cy : Nat → ClassId) (sz : Nat) (cs : List Nat) (ad : Nat → Nat) (en : Nat → va_E) (hI : RX cy cs ad en) (k9 : Int32)   : Met l yX12_lose (Cond.code yX12_lose cX12_lose 3 (some .int) :: TB) (rmN 1) (va_Pc [.ref (ad 0), .int k9] (Pre D cy cs ad en sz)) (va_Qi (S := Nat → va_E) (fun r en1 => RX cy cs ad en1 ∧ (∀ c, (c ≠ 3) → en1 c = en c) ∧ RLO k9 r en en1) (PostM D cs ad) (Af cs ad sz)) 0 0 (Af cs ad sz) := by
  refine Met.ofW (cc := cX12_lose) (maxL := 3) (ret := (some .int)) (by decide) rfl ?_
  intro p e s m args below meth c s₁ B hml hv
  obtain ⟨rfl, hsz, hP, hK, hD0⟩ := hv
  have hx := B.exec
  have hb := B.bytes
  have hr := B.returns
  have hts : ∀ w ∈ TB, w.before _ s = true := fun w h => atoms_spec (ws := _ :: TB) B.pre w (List.mem_cons_of_mem _ h)
  have hown : s.vm.findClass RX12 = some m.cls := findClass_of_methodNamed B.named
  have hlocks := B.notSynchronized
  have hh : Hp D (Af cs ad sz) (Af cs ad sz) s.heap s.heap [] cs ad en := ⟨hP, Af_self hD0, va_S.rf⟩
  have hA : ∀ q : Nat, s.heap.size ≤ q → Af cs ad sz q := fun q h => Or.inr (by rw [hsz] at h; exact h)
  have hl := lv_entry ([.ref (ad 0), .int k9]) (n := 3) (Nat.le_of_ble_eq_true rfl)
  rw [lg_entry_eq]
  generalize (lg_sl ([.ref (ad 0), .int k9]) ++ List.replicate (3 - (lg_sl ([.ref (ad 0), .int k9])).length) Slot.unset).toArray = ls at hl ⊢
  have hl : lv_has ls 3 [(0, .ref (ad 0)), (1, .int k9)] := hl
  have hf0 : ∀ c, (c ≠ 3) → en c = en c := fun _ _ => rfl
  obtain ⟨fa, hi, wd, mo, tb, dp, many, grt, lst, nou, rm, rb, pr, wo, es1133, hwd2, hwd3, hmo, htb, hwo⟩ := getr_M hI
  obtain ⟨f_1134, es1134⟩ := getr_la hI
  refine lv_iload_n hx hb dX12_lose_0 rfl (lv_at hl 1 rfl) ?_
  refine lv_i2l hx hb dX12_lose_1 rfl ?_
  refine lv_lconst (v := 0) hx hb dX12_lose_2 (by decide) ?_
  refine lv_ldc2 hx hb hown (hts _ tw_984) dX12_lose_3 ?_
  refine hp_callRi (va_runS (As := [.long k9.toInt64, .long 0, .long 3]) (rest := []) ⟨hx, hb, hml, hown, hts⟩ (c_X12_within l D cy _ cs ad en k9.toInt64 0 3) (kw_X12_within hts tw_985 ⟨by decide, by decide⟩) (preS_of hh hK) rfl rfl hl.1 rfl (lv_room (Nat.le_of_ble_eq_true rfl)) dX12_lose_6 ⟨Nat.le_of_ble_eq_true rfl, Nat.le_of_ble_eq_true rfl⟩) hh hA (fun r_1135 H locs hw_1135 hh => ?_)
  rcases Decidable.em (wi k9 0 3) with hp_1135 | hp_1135
  · obtain rfl : r_1135 = 1 := Eq.trans hw_1135 (if_pos ((wj_32 (by decide) (by decide)).mpr hp_1135))
    obtain ⟨N_1135, rfl, hA_1135, hB_1135⟩ := wi_natB hp_1135 0 3 (by decide) (by decide)
    refine lv_if_ne (tgt := 14) hx hb dX12_lose_9 (by decide) (fun _ => ?_) (fun c_0 => absurd c_0 (by decide))
    refine lv_aload_n hx hb dX12_lose_14 rfl (lv_at hl 0 rfl) ?_
    refine hp_get hx hb hts ix12 hown hK hh (q := 0) rfl (hI.1 _ (by decide)) es1133 rfl 7 (by decide) (hts _ tw_886) (fun _ h9 => h9) rfl dX12_lose_15 ?_
    refine lv_iload_n hx hb dX12_lose_18 rfl (lv_at hl 1 rfl) ?_
    refine hp_iald hx hb hK hh (q := 3) rfl (hI.1 _ (by decide)) es1134 (vp_in_nI (n := N_1135) (by omega) (by decide)) dX12_lose_19 ?_
    rw [nI_clamp (n := N_1135) (by omega)]
    refine lv_bipush (v := (-9)) hx hb dX12_lose_20 (by decide) ?_
    refine lv_icmp_ne (tgt := 29) hx hb dX12_lose_22 (by decide) (fun c_1136 => ?_) (fun c_1136 => ?_)
    · refine lv_iconst (v := 1) hx hb dX12_lose_29 (by decide) ?_
      refine lv_istore_n (lv' := [(2, .int 1), (0, .ref (ad 0)), (1, .int (nI N_1135))]) hx hb dX12_lose_30 rfl hl (by decide) rfl (fun ls hl => ?_)
      refine lv_aload_n hx hb dX12_lose_31 rfl (lv_at hl 1 rfl) ?_
      refine hp_get hx hb hts ix12 hown hK hh (q := 0) rfl (hI.1 _ (by decide)) es1133 rfl 7 (by decide) (hts _ tw_886) (fun _ h9 => h9) rfl dX12_lose_32 ?_
      refine lv_iload_n hx hb dX12_lose_35 rfl (lv_at hl 2 rfl) ?_
      refine lv_bipush (v := (-9)) hx hb dX12_lose_36 (by decide) ?_
      refine hp_iast hx hb hK hh (q := 3) rfl (hI.1 _ (by decide)) es1134 (vp_in_nI (n := N_1135) (by omega) (by decide)) dX12_lose_38 (fun H locs en_1137 hen_1137 hh => ?_)
      rw [nI_clamp (n := N_1135) (by omega)] at hen_1137
      have es1133_1137 : en_1137 0 = .inr (11, [.int fa, .int hi, .int (nI wd), .int (nI mo), .int (nI tb), .ref (ad 1), .ref (ad 2), .ref (ad 3), .ref (ad 4), .ref (ad 5), .ref (ad 6), .ref (ad 7), .ref (ad 8), .ref (ad 9), .int dp, .long many, .long grt, .long lst, .long nou, .ref (ad 10), .ref (ad 11), .ref (ad 12), .int rm, .long rb, .ref (ad 13), .int pr, .ref (ad 14), .ref (ad 15), .ref (ad 16), .ref (ad 17), .int (nI wo), .ref (ad 18), .ref (ad 19)]) := by rw [hen_1137, va_up_ne _ _ (by decide)]; exact es1133
      have es1134_1137 : en_1137 3 = .inl (cy 0, 4, .inl (upd f_1134 N_1135 (-9))) := by rw [hen_1137]; exact va_up_self _ _ _
      have hI_1137 : RX cy cs ad en_1137 := by rw [hen_1137]; exact upr_la hI ⟨(upd f_1134 N_1135 (-9)), rfl⟩
      have hf_1137 : ∀ c, (c ≠ 3) → en_1137 c = en c := fun c hc => Eq.trans (show en_1137 c = en c from by rw [hen_1137, va_up_ne _ _ (by omega)]) (hf0 c hc)
      refine lv_iload_n hx hb dX12_lose_39 rfl (lv_at hl 0 rfl) ?_
      exact hp_iretM hx hb hr rfl hlocks hh (⟨hI_1137, hf_1137, Or.inr ⟨N_1135, rfl, by omega, Or.inr ⟨fun q => c_1136 ((show rdF (en 3) N_1135 = f_1134 N_1135 from by rw [es1134]; rfl).symm.trans q), rfl⟩, (by rw [es1134_1137, es1134]; rfl)⟩⟩) dX12_lose_40
    · refine lv_iconst (v := 0) hx hb dX12_lose_25 (by decide) ?_
      refine lv_goto (tgt := 30) hx hb dX12_lose_26 (by decide) ?_
      refine lv_istore_n (lv' := [(2, .int 0), (0, .ref (ad 0)), (1, .int (nI N_1135))]) hx hb dX12_lose_30 rfl hl (by decide) rfl (fun ls hl => ?_)
      refine lv_aload_n hx hb dX12_lose_31 rfl (lv_at hl 1 rfl) ?_
      refine hp_get hx hb hts ix12 hown hK hh (q := 0) rfl (hI.1 _ (by decide)) es1133 rfl 7 (by decide) (hts _ tw_886) (fun _ h9 => h9) rfl dX12_lose_32 ?_
      refine lv_iload_n hx hb dX12_lose_35 rfl (lv_at hl 2 rfl) ?_
      refine lv_bipush (v := (-9)) hx hb dX12_lose_36 (by decide) ?_
      refine hp_iast hx hb hK hh (q := 3) rfl (hI.1 _ (by decide)) es1134 (vp_in_nI (n := N_1135) (by omega) (by decide)) dX12_lose_38 (fun H locs en_1138 hen_1138 hh => ?_)
      rw [nI_clamp (n := N_1135) (by omega)] at hen_1138
      have es1133_1138 : en_1138 0 = .inr (11, [.int fa, .int hi, .int (nI wd), .int (nI mo), .int (nI tb), .ref (ad 1), .ref (ad 2), .ref (ad 3), .ref (ad 4), .ref (ad 5), .ref (ad 6), .ref (ad 7), .ref (ad 8), .ref (ad 9), .int dp, .long many, .long grt, .long lst, .long nou, .ref (ad 10), .ref (ad 11), .ref (ad 12), .int rm, .long rb, .ref (ad 13), .int pr, .ref (ad 14), .ref (ad 15), .ref (ad 16), .ref (ad 17), .int (nI wo), .ref (ad 18), .ref (ad 19)]) := by rw [hen_1138, va_up_ne _ _ (by decide)]; exact es1133
      have es1134_1138 : en_1138 3 = .inl (cy 0, 4, .inl (upd f_1134 N_1135 (-9))) := by rw [hen_1138]; exact va_up_self _ _ _
      have hI_1138 : RX cy cs ad en_1138 := by rw [hen_1138]; exact upr_la hI ⟨(upd f_1134 N_1135 (-9)), rfl⟩
      have hf_1138 : ∀ c, (c ≠ 3) → en_1138 c = en c := fun c hc => Eq.trans (show en_1138 c = en c from by rw [hen_1138, va_up_ne _ _ (by omega)]) (hf0 c hc)
      refine lv_iload_n hx hb dX12_lose_39 rfl (lv_at hl 0 rfl) ?_
      exact hp_iretM hx hb hr rfl hlocks hh (⟨hI_1138, hf_1138, Or.inr ⟨N_1135, rfl, by omega, Or.inl ⟨(show rdF (en 3) N_1135 = f_1134 N_1135 from by rw [es1134]; rfl).trans c_1136, rfl⟩, (by rw [es1134_1138, es1134]; rfl)⟩⟩) dX12_lose_40
  · obtain rfl : r_1135 = 0 := Eq.trans hw_1135 (if_neg (fun q => hp_1135 ((wj_32 (by decide) (by decide)).mp q)))
    refine lv_if_ne (tgt := 14) hx hb dX12_lose_9 (by decide) (fun c_0 => absurd c_0 (by decide)) (fun _ => ?_)
    refine lv_iconst (v := (-1)) hx hb dX12_lose_12 (by decide) ?_
    exact hp_iretM hx hb hr rfl hlocks hh (⟨hI, hf0, Or.inl ⟨hp_1135, rfl, rfl⟩⟩) dX12_lose_13
theorem kw_X12_lose {R : Room} {s : State} {args : Array Value} {own : String} {idx : Nat} (hts : ∀ w ∈ TB, w.before args s = true) (hl : Cond.methodLink own idx yX12_lose ∈ TB) (hR : 1 + 1 ≤ R.frames ∧ 8 + (3 + 11) + 40 * 1 ≤ R.locals) : CallW R s args own RX12 idx yX12_lose cX12_lose 3 (some .int) (Cond.code yX12_lose cX12_lose 3 (some .int) :: TB) (rmN 1) 0 0 1 := cwV 1 hts (TB_V hl tw_1204 tw_1205 tw_9 tw_1206) rfl rfl rfl (by decide +kernel) hR
set_option maxHeartbeats 4000000 in
set_option maxRecDepth 100000 in
/-- put -/
theorem c_X12_put (l : Launch) (D : va_G) (cy : Nat → ClassId) (sz : Nat) (cs : List Nat) (ad : Nat → Nat) (en : Nat → va_E) (hI : RX cy cs ad en) (k9 i9 v9 : Int32)   : Met l yX12_put (Cond.code yX12_put cX12_put 4 (some .int) :: TB) (rmN 1) (va_Pc [.ref (ad 0), .int k9, .int i9, .int v9] (Pre D cy cs ad en sz)) (va_Qi (S := Nat → va_E) (fun r en1 => RX cy cs ad en1 ∧ (∀ c, (c ≠ 0 ∧ c ≠ 5) → en1 c = en c) ∧ RPU k9 i9 v9 r en en1 ∧ KP en en1) (PostM D cs ad) (Af cs ad sz)) 0 0 (Af cs ad sz) := by
  refine Met.ofW (cc := cX12_put) (maxL := 4) (ret := (some .int)) (by decide) rfl ?_
  intro p e s m args below meth c s₁ B hml hv
  obtain ⟨rfl, hsz, hP, hK, hD0⟩ := hv
  have hx := B.exec
  have hb := B.bytes
  have hr := B.returns
  have hts : ∀ w ∈ TB, w.before _ s = true := fun w h => atoms_spec (ws := _ :: TB) B.pre w (List.mem_cons_of_mem _ h)
  have hown : s.vm.findClass RX12 = some m.cls := findClass_of_methodNamed B.named
  have hlocks := B.notSynchronized
  have hh : Hp D (Af cs ad sz) (Af cs ad sz) s.heap s.heap [] cs ad en := ⟨hP, Af_self hD0, va_S.rf⟩
  have hA : ∀ q : Nat, s.heap.size ≤ q → Af cs ad sz q := fun q h => Or.inr (by rw [hsz] at h; exact h)
  have hl := lv_entry ([.ref (ad 0), .int k9, .int i9, .int v9]) (n := 4) (Nat.le_of_ble_eq_true rfl)
  rw [lg_entry_eq]
  generalize (lg_sl ([.ref (ad 0), .int k9, .int i9, .int v9]) ++ List.replicate (4 - (lg_sl ([.ref (ad 0), .int k9, .int i9, .int v9])).length) Slot.unset).toArray = ls at hl ⊢
  have hl : lv_has ls 4 [(0, .ref (ad 0)), (1, .int k9), (2, .int i9), (3, .int v9)] := hl
  have hf0 : ∀ c, (c ≠ 0 ∧ c ≠ 5) → en c = en c := fun _ _ => rfl
  obtain ⟨fa, hi, wd, mo, tb, dp, many, grt, lst, nou, rm, rb, pr, wo, es1139, hwd2, hwd3, hmo, htb, hwo⟩ := getr_M hI
  obtain ⟨f_1140, es1140⟩ := getr_la hI
  obtain ⟨f_1141, es1141, p0_1141⟩ := getr_sl hI
  obtain ⟨f_1142, es1142⟩ := getr_ce hI
  refine lv_aload_n hx hb dX12_put_0 rfl (lv_at hl 0 rfl) ?_
  refine lv_iconst (v := 0) hx hb dX12_put_1 (by decide) ?_
  refine hp_put hx hb hts ix12 tyX12 tyX12_ok nmX12 hown hK hh (q := 0) rfl (hI.1 _ (by decide)) es1139 rfl 0 (by decide) (hts _ tw_879) (fun _ h9 => h9) rfl (ty := .int) (by decide +kernel) rfl rfl (Nat.le_of_ble_eq_true rfl) dX12_put_2 (fun H locs en_1143 hen_1143 hh => ?_)
  have es1140_1143 : en_1143 3 = .inl (cy 0, 4, .inl f_1140) := by rw [hen_1143, va_up_ne _ _ (by decide)]; exact es1140
  have es1141_1143 : en_1143 4 = .inl (cy 0, 4, .inl f_1141) := by rw [hen_1143, va_up_ne _ _ (by decide)]; exact es1141
  have es1142_1143 : en_1143 5 = .inl (cy 0, 160, .inl f_1142) := by rw [hen_1143, va_up_ne _ _ (by decide)]; exact es1142
  have es1139_1143 : en_1143 0 = .inr (11, [.int 0, .int hi, .int (nI wd), .int (nI mo), .int (nI tb), .ref (ad 1), .ref (ad 2), .ref (ad 3), .ref (ad 4), .ref (ad 5), .ref (ad 6), .ref (ad 7), .ref (ad 8), .ref (ad 9), .int dp, .long many, .long grt, .long lst, .long nou, .ref (ad 10), .ref (ad 11), .ref (ad 12), .int rm, .long rb, .ref (ad 13), .int pr, .ref (ad 14), .ref (ad 15), .ref (ad 16), .ref (ad 17), .int (nI wo), .ref (ad 18), .ref (ad 19)]) := by rw [hen_1143]; exact va_up_self _ _ _
  have hI_1143 : RX cy cs ad en_1143 := by rw [hen_1143]; exact upr_M hI ⟨0, hi, wd, mo, tb, dp, many, grt, lst, nou, rm, rb, pr, wo, rfl, hwd2, hwd3, hmo, htb, hwo⟩
  have hf_1143 : ∀ c, (c ≠ 0 ∧ c ≠ 5) → en_1143 c = en c := fun c hc => Eq.trans (show en_1143 c = en c from by rw [hen_1143, va_up_ne _ _ (by omega)]) (hf0 c hc)
  have hkc5_1143 : en_1143 5 = en 5 := (show en_1143 5 = en 5 from by rw [hen_1143, va_up_ne _ _ (by decide)]).trans rfl
  have hkp_1143 : KP en en_1143 := KP_fv (KP_rf en) es1139 es1139_1143 hi (nI wd) (nI mo) (nI tb) pr (nI wo) rfl rfl rfl rfl rfl rfl rfl rfl rfl rfl rfl rfl
  refine lv_iload_n hx hb dX12_put_5 rfl (lv_at hl 1 rfl) ?_
  refine lv_i2l hx hb dX12_put_6 rfl ?_
  refine lv_lconst (v := 0) hx hb dX12_put_7 (by decide) ?_
  refine lv_ldc2 hx hb hown (hts _ tw_984) dX12_put_8 ?_
  refine hp_callRi (va_runS (As := [.long k9.toInt64, .long 0, .long 3]) (rest := []) ⟨hx, hb, hml, hown, hts⟩ (c_X12_within l D cy _ cs ad en_1143 k9.toInt64 0 3) (kw_X12_within hts tw_985 ⟨by decide, by decide⟩) (preS_of hh hK) rfl rfl hl.1 rfl (lv_room (Nat.le_of_ble_eq_true rfl)) dX12_put_11 ⟨Nat.le_of_ble_eq_true rfl, Nat.le_of_ble_eq_true rfl⟩) hh hA (fun r_1144 H locs hw_1144 hh => ?_)
  rcases Decidable.em (wi k9 0 3) with hp_1144 | hp_1144
  · obtain rfl : r_1144 = 1 := Eq.trans hw_1144 (if_pos ((wj_32 (by decide) (by decide)).mpr hp_1144))
    obtain ⟨N_1144, rfl, hA_1144, hB_1144⟩ := wi_natB hp_1144 0 3 (by decide) (by decide)
    refine lv_if_ne (tgt := 19) hx hb dX12_put_14 (by decide) (fun _ => ?_) (fun c_0 => absurd c_0 (by decide))
    refine lv_aload_n hx hb dX12_put_19 rfl (lv_at hl 0 rfl) ?_
    refine hp_get hx hb hts ix12 hown hK hh (q := 0) rfl (hI.1 _ (by decide)) es1139_1143 rfl 7 (by decide) (hts _ tw_886) (fun _ h9 => h9) rfl dX12_put_20 ?_
    refine lv_iload_n hx hb dX12_put_23 rfl (lv_at hl 1 rfl) ?_
    refine hp_iald hx hb hK hh (q := 3) rfl (hI.1 _ (by decide)) es1140_1143 (vp_in_nI (n := N_1144) (by omega) (by decide)) dX12_put_24 ?_
    rw [nI_clamp (n := N_1144) (by omega)]
    refine lv_bipush (v := (-9)) hx hb dX12_put_25 (by decide) ?_
    refine lv_icmp_ne (tgt := 36) hx hb dX12_put_27 (by decide) (fun c_1145 => ?_) (fun c_1145 => ?_)
    · refine lv_iload_n hx hb dX12_put_36 rfl (lv_at hl 2 rfl) ?_
      refine lv_i2l hx hb dX12_put_37 rfl ?_
      refine lv_lconst (v := 0) hx hb dX12_put_38 (by decide) ?_
      refine lv_aload_n hx hb dX12_put_39 rfl (lv_at hl 0 rfl) ?_
      refine hp_get hx hb hts ix12 hown hK hh (q := 0) rfl (hI.1 _ (by decide)) es1139_1143 rfl 8 (by decide) (hts _ tw_887) (fun _ h9 => h9) rfl dX12_put_40 ?_
      refine lv_iload_n hx hb dX12_put_43 rfl (lv_at hl 1 rfl) ?_
      refine hp_iald hx hb hK hh (q := 4) rfl (hI.1 _ (by decide)) es1141_1143 (vp_in_nI (n := N_1144) (by omega) (by decide)) dX12_put_44 ?_
      rw [nI_clamp (n := N_1144) (by omega)]
      obtain ⟨v_1146, hv_1146, hfv_1146⟩ := p0_1141 N_1144 (by omega)
      rw [hfv_1146]
      refine lv_i2l hx hb dX12_put_45 rfl ?_
      refine lv_lconst (v := 1) hx hb dX12_put_46 (by decide) ?_
      refine lv_lsub hx hb dX12_put_47 ?_
      refine hp_callRi (va_runS (As := [.long i9.toInt64, .long 0, .long ((nI v_1146).toInt64 - 1)]) (rest := []) ⟨hx, hb, hml, hown, hts⟩ (c_X12_within l D cy _ cs ad en_1143 i9.toInt64 0 ((nI v_1146).toInt64 - 1)) (kw_X12_within hts tw_985 ⟨by decide, by decide⟩) (preS_of hh hK) rfl rfl hl.1 rfl (lv_room (Nat.le_of_ble_eq_true rfl)) dX12_put_48 ⟨Nat.le_of_ble_eq_true rfl, Nat.le_of_ble_eq_true rfl⟩) hh hA (fun r_1147 H locs hw_1147 hh => ?_)
      rcases Decidable.em (0 ≤ i9.toInt ∧ i9.toInt < (v_1146 : Int)) with hp_1147 | hp_1147
      · obtain rfl : r_1147 = 1 := Eq.trans hw_1147 (if_pos ((wj_m1 (by omega)).mpr hp_1147))
        obtain ⟨N_1147, rfl, hB_1147⟩ := has_nat hp_1147
        refine lv_if_ne (tgt := 60) hx hb dX12_put_51 (by decide) (fun _ => ?_) (fun c_0 => absurd c_0 (by decide))
        refine lv_aload_n hx hb dX12_put_60 rfl (lv_at hl 0 rfl) ?_
        refine hp_get hx hb hts ix12 hown hK hh (q := 0) rfl (hI.1 _ (by decide)) es1139_1143 rfl 9 (by decide) (hts _ tw_888) (fun _ h9 => h9) rfl dX12_put_61 ?_
        refine lv_bipush (v := 40) hx hb dX12_put_64 (by decide) ?_
        refine lv_iload_n hx hb dX12_put_66 rfl (lv_at hl 1 rfl) ?_
        refine lv_imul hx hb dX12_put_67 ?_
        rw [show (40 : Int32) = nI 40 from rfl, pk_mul 40 N_1144]
        refine lv_iload_n hx hb dX12_put_68 rfl (lv_at hl 2 rfl) ?_
        refine lv_iadd hx hb dX12_put_69 ?_
        rw [nI_add (40 * N_1144) N_1147]
        refine lv_aload_n hx hb dX12_put_70 rfl (lv_at hl 0 rfl) ?_
        refine hp_get hx hb hts ix12 hown hK hh (q := 0) rfl (hI.1 _ (by decide)) es1139_1143 rfl 7 (by decide) (hts _ tw_886) (fun _ h9 => h9) rfl dX12_put_71 ?_
        refine lv_iload_n hx hb dX12_put_74 rfl (lv_at hl 1 rfl) ?_
        refine hp_iald hx hb hK hh (q := 3) rfl (hI.1 _ (by decide)) es1140_1143 (vp_in_nI (n := N_1144) (by omega) (by decide)) dX12_put_75 ?_
        rw [nI_clamp (n := N_1144) (by omega)]
        refine lv_if_ne (tgt := 84) hx hb dX12_put_76 (by decide) (fun c_1148 => ?_) (fun c_1148 => ?_)
        · refine lv_aload_n hx hb dX12_put_84 rfl (lv_at hl 0 rfl) ?_
          refine hp_get hx hb hts ix12 hown hK hh (q := 0) rfl (hI.1 _ (by decide)) es1139_1143 rfl 7 (by decide) (hts _ tw_886) (fun _ h9 => h9) rfl dX12_put_85 ?_
          refine lv_iload_n hx hb dX12_put_88 rfl (lv_at hl 1 rfl) ?_
          refine hp_iald hx hb hK hh (q := 3) rfl (hI.1 _ (by decide)) es1140_1143 (vp_in_nI (n := N_1144) (by omega) (by decide)) dX12_put_89 ?_
          rw [nI_clamp (n := N_1144) (by omega)]
          refine lv_iconst (v := 1) hx hb dX12_put_90 (by decide) ?_
          refine lv_icmp_ne (tgt := 99) hx hb dX12_put_91 (by decide) (fun c_1149 => ?_) (fun c_1149 => ?_)
          · refine lv_iload_n hx hb dX12_put_99 rfl (lv_at hl 3 rfl) ?_
            refine hp_iast hx hb hK hh (q := 5) rfl (hI.1 _ (by decide)) es1142_1143 (vp_in_nI (n := ((40 * N_1144) + N_1147)) (by omega) (by decide)) dX12_put_100 (fun H locs en_1150 hen_1150 hh => ?_)
            rw [nI_clamp (n := ((40 * N_1144) + N_1147)) (by omega)] at hen_1150
            have es1140_1150 : en_1150 3 = .inl (cy 0, 4, .inl f_1140) := by rw [hen_1150, va_up_ne _ _ (by decide)]; exact es1140_1143
            have es1141_1150 : en_1150 4 = .inl (cy 0, 4, .inl f_1141) := by rw [hen_1150, va_up_ne _ _ (by decide)]; exact es1141_1143
            have es1139_1150 : en_1150 0 = .inr (11, [.int 0, .int hi, .int (nI wd), .int (nI mo), .int (nI tb), .ref (ad 1), .ref (ad 2), .ref (ad 3), .ref (ad 4), .ref (ad 5), .ref (ad 6), .ref (ad 7), .ref (ad 8), .ref (ad 9), .int dp, .long many, .long grt, .long lst, .long nou, .ref (ad 10), .ref (ad 11), .ref (ad 12), .int rm, .long rb, .ref (ad 13), .int pr, .ref (ad 14), .ref (ad 15), .ref (ad 16), .ref (ad 17), .int (nI wo), .ref (ad 18), .ref (ad 19)]) := by rw [hen_1150, va_up_ne _ _ (by decide)]; exact es1139_1143
            have es1142_1150 : en_1150 5 = .inl (cy 0, 160, .inl (upd f_1142 ((40 * N_1144) + N_1147) v9)) := by rw [hen_1150]; exact va_up_self _ _ _
            have hI_1150 : RX cy cs ad en_1150 := by rw [hen_1150]; exact upr_ce hI_1143 ⟨(upd f_1142 ((40 * N_1144) + N_1147) v9), rfl⟩
            have hf_1150 : ∀ c, (c ≠ 0 ∧ c ≠ 5) → en_1150 c = en c := fun c hc => Eq.trans (show en_1150 c = en_1143 c from by rw [hen_1150, va_up_ne _ _ (by omega)]) (hf_1143 c hc)
            have hkp_1150 : KP en en_1150 := KP_same hkp_1143 (show en_1150 0 = en_1143 0 from by rw [hen_1150, va_up_ne _ _ (by decide)])
            refine lv_iconst (v := 1) hx hb dX12_put_101 (by decide) ?_
            exact hp_iretM hx hb hr rfl hlocks hh (⟨hI_1150, hf_1150, ⟨(by (try rw [nI_clamp (n := N_1144) (by omega)]); rw [show rdF (en 3) = f_1140 from by rw [es1140]; rfl, show rdF (en 4) = f_1141 from by rw [es1141]; rfl]; unfold putR; rw [if_pos hp_1144, if_neg c_1145, hfv_1146, nI_toInt (n := v_1146) (by omega), if_pos hp_1147]), Or.inr ⟨rfl, N_1144, N_1147, rfl, rfl, by omega, by omega, (by rw [es1142_1150, show rdF (en 5) = f_1142 from by rw [es1142]; rfl, show rdF (en 3) = f_1140 from by rw [es1140]; rfl]; unfold narV; rw [if_neg c_1148, if_neg c_1149]; rfl)⟩⟩, hkp_1150⟩) dX12_put_102
          · refine lv_iload_n hx hb dX12_put_94 rfl (lv_at hl 3 rfl) ?_
            refine lv_i2s hx hb dX12_put_95 rfl ?_
            refine lv_goto (tgt := 100) hx hb dX12_put_96 (by decide) ?_
            refine hp_iast hx hb hK hh (q := 5) rfl (hI.1 _ (by decide)) es1142_1143 (vp_in_nI (n := ((40 * N_1144) + N_1147)) (by omega) (by decide)) dX12_put_100 (fun H locs en_1151 hen_1151 hh => ?_)
            rw [nI_clamp (n := ((40 * N_1144) + N_1147)) (by omega)] at hen_1151
            have es1140_1151 : en_1151 3 = .inl (cy 0, 4, .inl f_1140) := by rw [hen_1151, va_up_ne _ _ (by decide)]; exact es1140_1143
            have es1141_1151 : en_1151 4 = .inl (cy 0, 4, .inl f_1141) := by rw [hen_1151, va_up_ne _ _ (by decide)]; exact es1141_1143
            have es1139_1151 : en_1151 0 = .inr (11, [.int 0, .int hi, .int (nI wd), .int (nI mo), .int (nI tb), .ref (ad 1), .ref (ad 2), .ref (ad 3), .ref (ad 4), .ref (ad 5), .ref (ad 6), .ref (ad 7), .ref (ad 8), .ref (ad 9), .int dp, .long many, .long grt, .long lst, .long nou, .ref (ad 10), .ref (ad 11), .ref (ad 12), .int rm, .long rb, .ref (ad 13), .int pr, .ref (ad 14), .ref (ad 15), .ref (ad 16), .ref (ad 17), .int (nI wo), .ref (ad 18), .ref (ad 19)]) := by rw [hen_1151, va_up_ne _ _ (by decide)]; exact es1139_1143
            have es1142_1151 : en_1151 5 = .inl (cy 0, 160, .inl (upd f_1142 ((40 * N_1144) + N_1147) v9.toInt16.toInt32)) := by rw [hen_1151]; exact va_up_self _ _ _
            have hI_1151 : RX cy cs ad en_1151 := by rw [hen_1151]; exact upr_ce hI_1143 ⟨(upd f_1142 ((40 * N_1144) + N_1147) v9.toInt16.toInt32), rfl⟩
            have hf_1151 : ∀ c, (c ≠ 0 ∧ c ≠ 5) → en_1151 c = en c := fun c hc => Eq.trans (show en_1151 c = en_1143 c from by rw [hen_1151, va_up_ne _ _ (by omega)]) (hf_1143 c hc)
            have hkp_1151 : KP en en_1151 := KP_same hkp_1143 (show en_1151 0 = en_1143 0 from by rw [hen_1151, va_up_ne _ _ (by decide)])
            refine lv_iconst (v := 1) hx hb dX12_put_101 (by decide) ?_
            exact hp_iretM hx hb hr rfl hlocks hh (⟨hI_1151, hf_1151, ⟨(by (try rw [nI_clamp (n := N_1144) (by omega)]); rw [show rdF (en 3) = f_1140 from by rw [es1140]; rfl, show rdF (en 4) = f_1141 from by rw [es1141]; rfl]; unfold putR; rw [if_pos hp_1144, if_neg c_1145, hfv_1146, nI_toInt (n := v_1146) (by omega), if_pos hp_1147]), Or.inr ⟨rfl, N_1144, N_1147, rfl, rfl, by omega, by omega, (by rw [es1142_1151, show rdF (en 5) = f_1142 from by rw [es1142]; rfl, show rdF (en 3) = f_1140 from by rw [es1140]; rfl]; unfold narV; rw [if_neg c_1148, if_pos c_1149]; rfl)⟩⟩, hkp_1151⟩) dX12_put_102
        · refine lv_iload_n hx hb dX12_put_79 rfl (lv_at hl 3 rfl) ?_
          refine lv_i2b hx hb dX12_put_80 rfl ?_
          refine lv_goto (tgt := 100) hx hb dX12_put_81 (by decide) ?_
          refine hp_iast hx hb hK hh (q := 5) rfl (hI.1 _ (by decide)) es1142_1143 (vp_in_nI (n := ((40 * N_1144) + N_1147)) (by omega) (by decide)) dX12_put_100 (fun H locs en_1152 hen_1152 hh => ?_)
          rw [nI_clamp (n := ((40 * N_1144) + N_1147)) (by omega)] at hen_1152
          have es1140_1152 : en_1152 3 = .inl (cy 0, 4, .inl f_1140) := by rw [hen_1152, va_up_ne _ _ (by decide)]; exact es1140_1143
          have es1141_1152 : en_1152 4 = .inl (cy 0, 4, .inl f_1141) := by rw [hen_1152, va_up_ne _ _ (by decide)]; exact es1141_1143
          have es1139_1152 : en_1152 0 = .inr (11, [.int 0, .int hi, .int (nI wd), .int (nI mo), .int (nI tb), .ref (ad 1), .ref (ad 2), .ref (ad 3), .ref (ad 4), .ref (ad 5), .ref (ad 6), .ref (ad 7), .ref (ad 8), .ref (ad 9), .int dp, .long many, .long grt, .long lst, .long nou, .ref (ad 10), .ref (ad 11), .ref (ad 12), .int rm, .long rb, .ref (ad 13), .int pr, .ref (ad 14), .ref (ad 15), .ref (ad 16), .ref (ad 17), .int (nI wo), .ref (ad 18), .ref (ad 19)]) := by rw [hen_1152, va_up_ne _ _ (by decide)]; exact es1139_1143
          have es1142_1152 : en_1152 5 = .inl (cy 0, 160, .inl (upd f_1142 ((40 * N_1144) + N_1147) v9.toInt8.toInt32)) := by rw [hen_1152]; exact va_up_self _ _ _
          have hI_1152 : RX cy cs ad en_1152 := by rw [hen_1152]; exact upr_ce hI_1143 ⟨(upd f_1142 ((40 * N_1144) + N_1147) v9.toInt8.toInt32), rfl⟩
          have hf_1152 : ∀ c, (c ≠ 0 ∧ c ≠ 5) → en_1152 c = en c := fun c hc => Eq.trans (show en_1152 c = en_1143 c from by rw [hen_1152, va_up_ne _ _ (by omega)]) (hf_1143 c hc)
          have hkp_1152 : KP en en_1152 := KP_same hkp_1143 (show en_1152 0 = en_1143 0 from by rw [hen_1152, va_up_ne _ _ (by decide)])
          refine lv_iconst (v := 1) hx hb dX12_put_101 (by decide) ?_
          exact hp_iretM hx hb hr rfl hlocks hh (⟨hI_1152, hf_1152, ⟨(by (try rw [nI_clamp (n := N_1144) (by omega)]); rw [show rdF (en 3) = f_1140 from by rw [es1140]; rfl, show rdF (en 4) = f_1141 from by rw [es1141]; rfl]; unfold putR; rw [if_pos hp_1144, if_neg c_1145, hfv_1146, nI_toInt (n := v_1146) (by omega), if_pos hp_1147]), Or.inr ⟨rfl, N_1144, N_1147, rfl, rfl, by omega, by omega, (by rw [es1142_1152, show rdF (en 5) = f_1142 from by rw [es1142]; rfl, show rdF (en 3) = f_1140 from by rw [es1140]; rfl]; unfold narV; rw [if_pos c_1148]; rfl)⟩⟩, hkp_1152⟩) dX12_put_102
      · obtain rfl : r_1147 = 0 := Eq.trans hw_1147 (if_neg (fun q => hp_1147 ((wj_m1 (by omega)).mp q)))
        refine lv_if_ne (tgt := 60) hx hb dX12_put_51 (by decide) (fun c_0 => absurd c_0 (by decide)) (fun _ => ?_)
        refine lv_aload_n hx hb dX12_put_54 rfl (lv_at hl 0 rfl) ?_
        refine lv_iconst (v := 3) hx hb dX12_put_55 (by decide) ?_
        refine hp_callMi (va_runV (As := [.int 3]) (rest := []) ⟨hx, hb, hml, hown, hts⟩ (c_X12_fails l D cy _ cs ad en_1143 (hI.1 _ (by decide)) 0 hi wd mo tb dp many grt lst nou rm rb pr wo 3 es1139_1143) (kw_X12_fails hts tw_997 ⟨by decide, by decide⟩) (preV_of hh hK (hI.1 _ (by decide)) es1139_1143 rfl) rfl rfl hl.1 rfl (lv_room (Nat.le_of_ble_eq_true rfl)) dX12_put_56 ⟨Nat.le_of_ble_eq_true rfl, Nat.le_of_ble_eq_true rfl⟩) hh hA (fun r_1153 H locs en_1153 hw_1153 hh => ?_)
        obtain ⟨hr_1153, hen_1153⟩ := hw_1153
        have es1140_1153 : en_1153 3 = .inl (cy 0, 4, .inl f_1140) := by rw [hen_1153, va_up_ne _ _ (by decide)]; exact es1140_1143
        have es1141_1153 : en_1153 4 = .inl (cy 0, 4, .inl f_1141) := by rw [hen_1153, va_up_ne _ _ (by decide)]; exact es1141_1143
        have es1142_1153 : en_1153 5 = .inl (cy 0, 160, .inl f_1142) := by rw [hen_1153, va_up_ne _ _ (by decide)]; exact es1142_1143
        have es1139_1153 : en_1153 0 = .inr (11, [.int 3, .int hi, .int (nI wd), .int (nI mo), .int (nI tb), .ref (ad 1), .ref (ad 2), .ref (ad 3), .ref (ad 4), .ref (ad 5), .ref (ad 6), .ref (ad 7), .ref (ad 8), .ref (ad 9), .int dp, .long many, .long grt, .long lst, .long nou, .ref (ad 10), .ref (ad 11), .ref (ad 12), .int rm, .long rb, .ref (ad 13), .int pr, .ref (ad 14), .ref (ad 15), .ref (ad 16), .ref (ad 17), .int (nI wo), .ref (ad 18), .ref (ad 19)]) := by rw [hen_1153]; exact va_up_self _ _ _
        have hI_1153 : RX cy cs ad en_1153 := by rw [hen_1153]; exact upr_M hI_1143 ⟨3, hi, wd, mo, tb, dp, many, grt, lst, nou, rm, rb, pr, wo, rfl, hwd2, hwd3, hmo, htb, hwo⟩
        have hf_1153 : ∀ c, (c ≠ 0 ∧ c ≠ 5) → en_1153 c = en c := fun c hc => Eq.trans (show en_1153 c = en_1143 c from by rw [hen_1153, va_up_ne _ _ (by omega)]) (hf_1143 c hc)
        have hkc5_1153 : en_1153 5 = en 5 := (show en_1153 5 = en_1143 5 from by rw [hen_1153, va_up_ne _ _ (by decide)]).trans hkc5_1143
        have hkp_1153 : KP en en_1153 := KP_fv hkp_1143 es1139_1143 es1139_1153 hi (nI wd) (nI mo) (nI tb) pr (nI wo) rfl rfl rfl rfl rfl rfl rfl rfl rfl rfl rfl rfl
        obtain rfl : r_1153 = (-13) := hr_1153.trans (by decide)
        exact hp_iretM hx hb hr rfl hlocks hh (⟨hI_1153, hf_1153, ⟨(by (try rw [nI_clamp (n := N_1144) (by omega)]); rw [show rdF (en 3) = f_1140 from by rw [es1140]; rfl, show rdF (en 4) = f_1141 from by rw [es1141]; rfl]; unfold putR; rw [if_pos hp_1144, if_neg c_1145, hfv_1146, nI_toInt (n := v_1146) (by omega), if_neg hp_1147]), Or.inl ⟨by decide, hkc5_1153⟩⟩, hkp_1153⟩) dX12_put_59
    · refine lv_aload_n hx hb dX12_put_30 rfl (lv_at hl 0 rfl) ?_
      refine lv_iconst (v := 1) hx hb dX12_put_31 (by decide) ?_
      refine hp_callMi (va_runV (As := [.int 1]) (rest := []) ⟨hx, hb, hml, hown, hts⟩ (c_X12_fails l D cy _ cs ad en_1143 (hI.1 _ (by decide)) 0 hi wd mo tb dp many grt lst nou rm rb pr wo 1 es1139_1143) (kw_X12_fails hts tw_997 ⟨by decide, by decide⟩) (preV_of hh hK (hI.1 _ (by decide)) es1139_1143 rfl) rfl rfl hl.1 rfl (lv_room (Nat.le_of_ble_eq_true rfl)) dX12_put_32 ⟨Nat.le_of_ble_eq_true rfl, Nat.le_of_ble_eq_true rfl⟩) hh hA (fun r_1154 H locs en_1154 hw_1154 hh => ?_)
      obtain ⟨hr_1154, hen_1154⟩ := hw_1154
      have es1140_1154 : en_1154 3 = .inl (cy 0, 4, .inl f_1140) := by rw [hen_1154, va_up_ne _ _ (by decide)]; exact es1140_1143
      have es1141_1154 : en_1154 4 = .inl (cy 0, 4, .inl f_1141) := by rw [hen_1154, va_up_ne _ _ (by decide)]; exact es1141_1143
      have es1142_1154 : en_1154 5 = .inl (cy 0, 160, .inl f_1142) := by rw [hen_1154, va_up_ne _ _ (by decide)]; exact es1142_1143
      have es1139_1154 : en_1154 0 = .inr (11, [.int 1, .int hi, .int (nI wd), .int (nI mo), .int (nI tb), .ref (ad 1), .ref (ad 2), .ref (ad 3), .ref (ad 4), .ref (ad 5), .ref (ad 6), .ref (ad 7), .ref (ad 8), .ref (ad 9), .int dp, .long many, .long grt, .long lst, .long nou, .ref (ad 10), .ref (ad 11), .ref (ad 12), .int rm, .long rb, .ref (ad 13), .int pr, .ref (ad 14), .ref (ad 15), .ref (ad 16), .ref (ad 17), .int (nI wo), .ref (ad 18), .ref (ad 19)]) := by rw [hen_1154]; exact va_up_self _ _ _
      have hI_1154 : RX cy cs ad en_1154 := by rw [hen_1154]; exact upr_M hI_1143 ⟨1, hi, wd, mo, tb, dp, many, grt, lst, nou, rm, rb, pr, wo, rfl, hwd2, hwd3, hmo, htb, hwo⟩
      have hf_1154 : ∀ c, (c ≠ 0 ∧ c ≠ 5) → en_1154 c = en c := fun c hc => Eq.trans (show en_1154 c = en_1143 c from by rw [hen_1154, va_up_ne _ _ (by omega)]) (hf_1143 c hc)
      have hkc5_1154 : en_1154 5 = en 5 := (show en_1154 5 = en_1143 5 from by rw [hen_1154, va_up_ne _ _ (by decide)]).trans hkc5_1143
      have hkp_1154 : KP en en_1154 := KP_fv hkp_1143 es1139_1143 es1139_1154 hi (nI wd) (nI mo) (nI tb) pr (nI wo) rfl rfl rfl rfl rfl rfl rfl rfl rfl rfl rfl rfl
      obtain rfl : r_1154 = (-11) := hr_1154.trans (by decide)
      exact hp_iretM hx hb hr rfl hlocks hh (⟨hI_1154, hf_1154, ⟨(by (try rw [nI_clamp (n := N_1144) (by omega)]); rw [show rdF (en 3) = f_1140 from by rw [es1140]; rfl, show rdF (en 4) = f_1141 from by rw [es1141]; rfl]; unfold putR; rw [if_pos hp_1144, if_pos c_1145]), Or.inl ⟨by decide, hkc5_1154⟩⟩, hkp_1154⟩) dX12_put_35
  · obtain rfl : r_1144 = 0 := Eq.trans hw_1144 (if_neg (fun q => hp_1144 ((wj_32 (by decide) (by decide)).mp q)))
    refine lv_if_ne (tgt := 19) hx hb dX12_put_14 (by decide) (fun c_0 => absurd c_0 (by decide)) (fun _ => ?_)
    refine lv_iconst (v := (-1)) hx hb dX12_put_17 (by decide) ?_
    exact hp_iretM hx hb hr rfl hlocks hh (⟨hI_1143, hf_1143, ⟨(by unfold putR; rw [if_neg hp_1144]), Or.inl ⟨by decide, hkc5_1143⟩⟩, hkp_1143⟩) dX12_put_18
theorem kw_X12_put {R : Room} {s : State} {args : Array Value} {own : String} {idx : Nat} (hts : ∀ w ∈ TB, w.before args s = true) (hl : Cond.methodLink own idx yX12_put ∈ TB) (hR : 1 + 1 ≤ R.frames ∧ 8 + (4 + 11) + 40 * 1 ≤ R.locals) : CallW R s args own RX12 idx yX12_put cX12_put 4 (some .int) (Cond.code yX12_put cX12_put 4 (some .int) :: TB) (rmN 1) 0 0 3 := cwV 3 hts (TB_V hl tw_1208 tw_1209 tw_9 tw_1210) rfl rfl rfl (by decide +kernel) hR
set_option maxHeartbeats 4000000 in
set_option maxRecDepth 100000 in
/-- at -/
theorem c_X12_at (l : Launch) (D : va_G) (cy : Nat → ClassId) (sz : Nat) (cs : List Nat) (ad : Nat → Nat) (en : Nat → va_E) (hI : RX cy cs ad en) (k9 i9 la9 : Int32)   : Met l yX12_at (Cond.code yX12_at cX12_at 4 (some .long) :: TB) (rmN 1) (va_Pc [.ref (ad 0), .int k9, .int i9, .int la9] (Pre D cy cs ad en sz)) (va_Ql (S := Nat → va_E) (fun r en1 => RX cy cs ad en1 ∧ (∀ c, (c ≠ 0) → en1 c = en c) ∧ RAT k9 i9 la9 r en ∧ KP en en1) (PostM D cs ad) (Af cs ad sz)) 0 0 (Af cs ad sz) := by
  refine Met.ofW (cc := cX12_at) (maxL := 4) (ret := (some .long)) (by decide) rfl ?_
  intro p e s m args below meth c s₁ B hml hv
  obtain ⟨rfl, hsz, hP, hK, hD0⟩ := hv
  have hx := B.exec
  have hb := B.bytes
  have hr := B.returns
  have hts : ∀ w ∈ TB, w.before _ s = true := fun w h => atoms_spec (ws := _ :: TB) B.pre w (List.mem_cons_of_mem _ h)
  have hown : s.vm.findClass RX12 = some m.cls := findClass_of_methodNamed B.named
  have hlocks := B.notSynchronized
  have hh : Hp D (Af cs ad sz) (Af cs ad sz) s.heap s.heap [] cs ad en := ⟨hP, Af_self hD0, va_S.rf⟩
  have hA : ∀ q : Nat, s.heap.size ≤ q → Af cs ad sz q := fun q h => Or.inr (by rw [hsz] at h; exact h)
  have hl := lv_entry ([.ref (ad 0), .int k9, .int i9, .int la9]) (n := 4) (Nat.le_of_ble_eq_true rfl)
  rw [lg_entry_eq]
  generalize (lg_sl ([.ref (ad 0), .int k9, .int i9, .int la9]) ++ List.replicate (4 - (lg_sl ([.ref (ad 0), .int k9, .int i9, .int la9])).length) Slot.unset).toArray = ls at hl ⊢
  have hl : lv_has ls 4 [(0, .ref (ad 0)), (1, .int k9), (2, .int i9), (3, .int la9)] := hl
  have hf0 : ∀ c, (c ≠ 0) → en c = en c := fun _ _ => rfl
  obtain ⟨fa, hi, wd, mo, tb, dp, many, grt, lst, nou, rm, rb, pr, wo, es1155, hwd2, hwd3, hmo, htb, hwo⟩ := getr_M hI
  obtain ⟨f_1156, es1156⟩ := getr_la hI
  obtain ⟨f_1157, es1157, p0_1157⟩ := getr_sl hI
  obtain ⟨f_1158, es1158⟩ := getr_ce hI
  refine lv_aload_n hx hb dX12_at_0 rfl (lv_at hl 0 rfl) ?_
  refine lv_iconst (v := 0) hx hb dX12_at_1 (by decide) ?_
  refine hp_put hx hb hts ix12 tyX12 tyX12_ok nmX12 hown hK hh (q := 0) rfl (hI.1 _ (by decide)) es1155 rfl 0 (by decide) (hts _ tw_879) (fun _ h9 => h9) rfl (ty := .int) (by decide +kernel) rfl rfl (Nat.le_of_ble_eq_true rfl) dX12_at_2 (fun H locs en_1159 hen_1159 hh => ?_)
  have es1156_1159 : en_1159 3 = .inl (cy 0, 4, .inl f_1156) := by rw [hen_1159, va_up_ne _ _ (by decide)]; exact es1156
  have es1157_1159 : en_1159 4 = .inl (cy 0, 4, .inl f_1157) := by rw [hen_1159, va_up_ne _ _ (by decide)]; exact es1157
  have es1158_1159 : en_1159 5 = .inl (cy 0, 160, .inl f_1158) := by rw [hen_1159, va_up_ne _ _ (by decide)]; exact es1158
  have es1155_1159 : en_1159 0 = .inr (11, [.int 0, .int hi, .int (nI wd), .int (nI mo), .int (nI tb), .ref (ad 1), .ref (ad 2), .ref (ad 3), .ref (ad 4), .ref (ad 5), .ref (ad 6), .ref (ad 7), .ref (ad 8), .ref (ad 9), .int dp, .long many, .long grt, .long lst, .long nou, .ref (ad 10), .ref (ad 11), .ref (ad 12), .int rm, .long rb, .ref (ad 13), .int pr, .ref (ad 14), .ref (ad 15), .ref (ad 16), .ref (ad 17), .int (nI wo), .ref (ad 18), .ref (ad 19)]) := by rw [hen_1159]; exact va_up_self _ _ _
  have hI_1159 : RX cy cs ad en_1159 := by rw [hen_1159]; exact upr_M hI ⟨0, hi, wd, mo, tb, dp, many, grt, lst, nou, rm, rb, pr, wo, rfl, hwd2, hwd3, hmo, htb, hwo⟩
  have hf_1159 : ∀ c, (c ≠ 0) → en_1159 c = en c := fun c hc => Eq.trans (show en_1159 c = en c from by rw [hen_1159, va_up_ne _ _ (by omega)]) (hf0 c hc)
  have hkp_1159 : KP en en_1159 := KP_fv (KP_rf en) es1155 es1155_1159 hi (nI wd) (nI mo) (nI tb) pr (nI wo) rfl rfl rfl rfl rfl rfl rfl rfl rfl rfl rfl rfl
  refine lv_iload_n hx hb dX12_at_5 rfl (lv_at hl 1 rfl) ?_
  refine lv_i2l hx hb dX12_at_6 rfl ?_
  refine lv_lconst (v := 0) hx hb dX12_at_7 (by decide) ?_
  refine lv_ldc2 hx hb hown (hts _ tw_984) dX12_at_8 ?_
  refine hp_callRi (va_runS (As := [.long k9.toInt64, .long 0, .long 3]) (rest := []) ⟨hx, hb, hml, hown, hts⟩ (c_X12_within l D cy _ cs ad en_1159 k9.toInt64 0 3) (kw_X12_within hts tw_985 ⟨by decide, by decide⟩) (preS_of hh hK) rfl rfl hl.1 rfl (lv_room (Nat.le_of_ble_eq_true rfl)) dX12_at_11 ⟨Nat.le_of_ble_eq_true rfl, Nat.le_of_ble_eq_true rfl⟩) hh hA (fun r_1160 H locs hw_1160 hh => ?_)
  rcases Decidable.em (wi k9 0 3) with hp_1160 | hp_1160
  · obtain rfl : r_1160 = 1 := Eq.trans hw_1160 (if_pos ((wj_32 (by decide) (by decide)).mpr hp_1160))
    obtain ⟨N_1160, rfl, hA_1160, hB_1160⟩ := wi_natB hp_1160 0 3 (by decide) (by decide)
    refine lv_if_eq (tgt := 29) hx hb dX12_at_14 (by decide) (fun c_0 => absurd c_0 (by decide)) (fun _ => ?_)
    refine lv_iload_n hx hb dX12_at_17 rfl (lv_at hl 3 rfl) ?_
    refine lv_i2l hx hb dX12_at_18 rfl ?_
    refine lv_lconst (v := 0) hx hb dX12_at_19 (by decide) ?_
    refine lv_ldc2 hx hb hown (hts _ tw_983) dX12_at_20 ?_
    refine hp_callRi (va_runS (As := [.long la9.toInt64, .long 0, .long 2]) (rest := []) ⟨hx, hb, hml, hown, hts⟩ (c_X12_within l D cy _ cs ad en_1159 la9.toInt64 0 2) (kw_X12_within hts tw_985 ⟨by decide, by decide⟩) (preS_of hh hK) rfl rfl hl.1 rfl (lv_room (Nat.le_of_ble_eq_true rfl)) dX12_at_23 ⟨Nat.le_of_ble_eq_true rfl, Nat.le_of_ble_eq_true rfl⟩) hh hA (fun r_1161 H locs hw_1161 hh => ?_)
    rcases Decidable.em (wi la9 0 2) with hp_1161 | hp_1161
    · obtain rfl : r_1161 = 1 := Eq.trans hw_1161 (if_pos ((wj_32 (by decide) (by decide)).mpr hp_1161))
      obtain ⟨N_1161, rfl, hA_1161, hB_1161⟩ := wi_natB hp_1161 0 2 (by decide) (by decide)
      refine lv_if_ne (tgt := 33) hx hb dX12_at_26 (by decide) (fun _ => ?_) (fun c_0 => absurd c_0 (by decide))
      refine lv_aload_n hx hb dX12_at_33 rfl (lv_at hl 0 rfl) ?_
      refine hp_get hx hb hts ix12 hown hK hh (q := 0) rfl (hI.1 _ (by decide)) es1155_1159 rfl 7 (by decide) (hts _ tw_886) (fun _ h9 => h9) rfl dX12_at_34 ?_
      refine lv_iload_n hx hb dX12_at_37 rfl (lv_at hl 1 rfl) ?_
      refine hp_iald hx hb hK hh (q := 3) rfl (hI.1 _ (by decide)) es1156_1159 (vp_in_nI (n := N_1160) (by omega) (by decide)) dX12_at_38 ?_
      rw [nI_clamp (n := N_1160) (by omega)]
      refine lv_bipush (v := (-9)) hx hb dX12_at_39 (by decide) ?_
      refine lv_icmp_eq (tgt := 60) hx hb dX12_at_41 (by decide) (fun c_1162 => ?_) (fun c_1162 => ?_)
      · refine lv_aload_n hx hb dX12_at_60 rfl (lv_at hl 0 rfl) ?_
        refine hp_get hx hb hts ix12 hown hK hh (q := 0) rfl (hI.1 _ (by decide)) es1155_1159 rfl 7 (by decide) (hts _ tw_886) (fun _ h9 => h9) rfl dX12_at_61 ?_
        refine lv_iload_n hx hb dX12_at_64 rfl (lv_at hl 1 rfl) ?_
        refine hp_iald hx hb hK hh (q := 3) rfl (hI.1 _ (by decide)) es1156_1159 (vp_in_nI (n := N_1160) (by omega) (by decide)) dX12_at_65 ?_
        rw [nI_clamp (n := N_1160) (by omega)]
        refine lv_bipush (v := (-9)) hx hb dX12_at_66 (by decide) ?_
        refine lv_icmp_ne (tgt := 77) hx hb dX12_at_68 (by decide) (fun c_0 => absurd (c_1162) c_0) (fun _ => ?_)
        refine lv_aload_n hx hb dX12_at_71 rfl (lv_at hl 0 rfl) ?_
        refine lv_iconst (v := 1) hx hb dX12_at_72 (by decide) ?_
        refine hp_callMl (va_runV (As := [.int 1]) (rest := []) ⟨hx, hb, hml, hown, hts⟩ (c_X12_lost l D cy _ cs ad en_1159 (hI.1 _ (by decide)) 0 hi wd mo tb dp many grt lst nou rm rb pr wo 1 es1155_1159) (kw_X12_lost hts tw_1215 ⟨by decide, by decide⟩) (preV_of hh hK (hI.1 _ (by decide)) es1155_1159 rfl) rfl rfl hl.1 rfl (lv_room (Nat.le_of_ble_eq_true rfl)) dX12_at_73 ⟨Nat.le_of_ble_eq_true rfl, Nat.le_of_ble_eq_true rfl⟩) hh hA (fun r_1163 H locs en_1163 hw_1163 hh => ?_)
        obtain ⟨hr_1163, hen_1163⟩ := hw_1163
        have es1156_1163 : en_1163 3 = .inl (cy 0, 4, .inl f_1156) := by rw [hen_1163, va_up_ne _ _ (by decide)]; exact es1156_1159
        have es1157_1163 : en_1163 4 = .inl (cy 0, 4, .inl f_1157) := by rw [hen_1163, va_up_ne _ _ (by decide)]; exact es1157_1159
        have es1158_1163 : en_1163 5 = .inl (cy 0, 160, .inl f_1158) := by rw [hen_1163, va_up_ne _ _ (by decide)]; exact es1158_1159
        have es1155_1163 : en_1163 0 = .inr (11, [.int 1, .int hi, .int (nI wd), .int (nI mo), .int (nI tb), .ref (ad 1), .ref (ad 2), .ref (ad 3), .ref (ad 4), .ref (ad 5), .ref (ad 6), .ref (ad 7), .ref (ad 8), .ref (ad 9), .int dp, .long many, .long grt, .long lst, .long nou, .ref (ad 10), .ref (ad 11), .ref (ad 12), .int rm, .long rb, .ref (ad 13), .int pr, .ref (ad 14), .ref (ad 15), .ref (ad 16), .ref (ad 17), .int (nI wo), .ref (ad 18), .ref (ad 19)]) := by rw [hen_1163]; exact va_up_self _ _ _
        have hI_1163 : RX cy cs ad en_1163 := by rw [hen_1163]; exact upr_M hI_1159 ⟨1, hi, wd, mo, tb, dp, many, grt, lst, nou, rm, rb, pr, wo, rfl, hwd2, hwd3, hmo, htb, hwo⟩
        have hf_1163 : ∀ c, (c ≠ 0) → en_1163 c = en c := fun c hc => Eq.trans (show en_1163 c = en_1159 c from by rw [hen_1163, va_up_ne _ _ (by omega)]) (hf_1159 c hc)
        have hkp_1163 : KP en en_1163 := KP_fv hkp_1159 es1155_1159 es1155_1163 hi (nI wd) (nI mo) (nI tb) pr (nI wo) rfl rfl rfl rfl rfl rfl rfl rfl rfl rfl rfl rfl
        obtain rfl : r_1163 = (-9223372036854775808) := hr_1163
        exact hp_lretM hx hb hr hlocks hh (⟨hI_1163, hf_1163, (by unfold RAT; (try rw [nI_clamp (n := N_1160) (by omega)]); rw [show rdF (en 3) = f_1156 from by rw [es1156]; rfl, show rdF (en 4) = f_1157 from by rw [es1157]; rfl]; unfold atR; rw [if_pos ⟨hp_1160, hp_1161⟩, if_neg (fun q => q.1 c_1162), if_pos c_1162]), hkp_1163⟩) dX12_at_76
      · refine lv_aload_n hx hb dX12_at_44 rfl (lv_at hl 0 rfl) ?_
        refine hp_get hx hb hts ix12 hown hK hh (q := 0) rfl (hI.1 _ (by decide)) es1155_1159 rfl 7 (by decide) (hts _ tw_886) (fun _ h9 => h9) rfl dX12_at_45 ?_
        refine lv_iload_n hx hb dX12_at_48 rfl (lv_at hl 1 rfl) ?_
        refine hp_iald hx hb hK hh (q := 3) rfl (hI.1 _ (by decide)) es1156_1159 (vp_in_nI (n := N_1160) (by omega) (by decide)) dX12_at_49 ?_
        rw [nI_clamp (n := N_1160) (by omega)]
        refine lv_iload_n hx hb dX12_at_50 rfl (lv_at hl 3 rfl) ?_
        refine lv_icmp_eq (tgt := 60) hx hb dX12_at_51 (by decide) (fun c_1164 => ?_) (fun c_1164 => ?_)
        · refine lv_aload_n hx hb dX12_at_60 rfl (lv_at hl 0 rfl) ?_
          refine hp_get hx hb hts ix12 hown hK hh (q := 0) rfl (hI.1 _ (by decide)) es1155_1159 rfl 7 (by decide) (hts _ tw_886) (fun _ h9 => h9) rfl dX12_at_61 ?_
          refine lv_iload_n hx hb dX12_at_64 rfl (lv_at hl 1 rfl) ?_
          refine hp_iald hx hb hK hh (q := 3) rfl (hI.1 _ (by decide)) es1156_1159 (vp_in_nI (n := N_1160) (by omega) (by decide)) dX12_at_65 ?_
          rw [nI_clamp (n := N_1160) (by omega)]
          refine lv_bipush (v := (-9)) hx hb dX12_at_66 (by decide) ?_
          refine lv_icmp_ne (tgt := 77) hx hb dX12_at_68 (by decide) (fun _ => ?_) (fun c_0 => absurd c_0 (c_1162))
          refine lv_iload_n hx hb dX12_at_77 rfl (lv_at hl 2 rfl) ?_
          refine lv_i2l hx hb dX12_at_78 rfl ?_
          refine lv_lconst (v := 0) hx hb dX12_at_79 (by decide) ?_
          refine lv_aload_n hx hb dX12_at_80 rfl (lv_at hl 0 rfl) ?_
          refine hp_get hx hb hts ix12 hown hK hh (q := 0) rfl (hI.1 _ (by decide)) es1155_1159 rfl 8 (by decide) (hts _ tw_887) (fun _ h9 => h9) rfl dX12_at_81 ?_
          refine lv_iload_n hx hb dX12_at_84 rfl (lv_at hl 1 rfl) ?_
          refine hp_iald hx hb hK hh (q := 4) rfl (hI.1 _ (by decide)) es1157_1159 (vp_in_nI (n := N_1160) (by omega) (by decide)) dX12_at_85 ?_
          rw [nI_clamp (n := N_1160) (by omega)]
          obtain ⟨v_1165, hv_1165, hfv_1165⟩ := p0_1157 N_1160 (by omega)
          rw [hfv_1165]
          refine lv_i2l hx hb dX12_at_86 rfl ?_
          refine lv_lconst (v := 1) hx hb dX12_at_87 (by decide) ?_
          refine lv_lsub hx hb dX12_at_88 ?_
          refine hp_callRi (va_runS (As := [.long i9.toInt64, .long 0, .long ((nI v_1165).toInt64 - 1)]) (rest := []) ⟨hx, hb, hml, hown, hts⟩ (c_X12_within l D cy _ cs ad en_1159 i9.toInt64 0 ((nI v_1165).toInt64 - 1)) (kw_X12_within hts tw_985 ⟨by decide, by decide⟩) (preS_of hh hK) rfl rfl hl.1 rfl (lv_room (Nat.le_of_ble_eq_true rfl)) dX12_at_89 ⟨Nat.le_of_ble_eq_true rfl, Nat.le_of_ble_eq_true rfl⟩) hh hA (fun r_1166 H locs hw_1166 hh => ?_)
          rcases Decidable.em (0 ≤ i9.toInt ∧ i9.toInt < (v_1165 : Int)) with hp_1166 | hp_1166
          · obtain rfl : r_1166 = 1 := Eq.trans hw_1166 (if_pos ((wj_m1 (by omega)).mpr hp_1166))
            obtain ⟨N_1166, rfl, hB_1166⟩ := has_nat hp_1166
            refine lv_if_ne (tgt := 101) hx hb dX12_at_92 (by decide) (fun _ => ?_) (fun c_0 => absurd c_0 (by decide))
            refine lv_aload_n hx hb dX12_at_101 rfl (lv_at hl 0 rfl) ?_
            refine hp_get hx hb hts ix12 hown hK hh (q := 0) rfl (hI.1 _ (by decide)) es1155_1159 rfl 9 (by decide) (hts _ tw_888) (fun _ h9 => h9) rfl dX12_at_102 ?_
            refine lv_bipush (v := 40) hx hb dX12_at_105 (by decide) ?_
            refine lv_iload_n hx hb dX12_at_107 rfl (lv_at hl 1 rfl) ?_
            refine lv_imul hx hb dX12_at_108 ?_
            rw [show (40 : Int32) = nI 40 from rfl, pk_mul 40 N_1160]
            refine lv_iload_n hx hb dX12_at_109 rfl (lv_at hl 2 rfl) ?_
            refine lv_iadd hx hb dX12_at_110 ?_
            rw [nI_add (40 * N_1160) N_1166]
            refine hp_iald hx hb hK hh (q := 5) rfl (hI.1 _ (by decide)) es1158_1159 (vp_in_nI (n := ((40 * N_1160) + N_1166)) (by omega) (by decide)) dX12_at_111 ?_
            rw [nI_clamp (n := ((40 * N_1160) + N_1166)) (by omega)]
            refine lv_i2l hx hb dX12_at_112 rfl ?_
            exact hp_lretM hx hb hr hlocks hh (⟨hI_1159, hf_1159, (by unfold RAT; (try rw [nI_clamp (n := N_1160) (by omega)]); rw [show rdF (en 3) = f_1156 from by rw [es1156]; rfl, show rdF (en 4) = f_1157 from by rw [es1157]; rfl]; unfold atR; rw [if_pos ⟨hp_1160, hp_1161⟩, if_neg (fun q => q.2 c_1164), if_neg c_1162, hfv_1165, nI_toInt (n := v_1165) (by omega), if_pos hp_1166, nI_clamp (n := N_1166) (by omega), show rdF (en 5) = f_1158 from by rw [es1158]; rfl]), hkp_1159⟩) dX12_at_113
          · obtain rfl : r_1166 = 0 := Eq.trans hw_1166 (if_neg (fun q => hp_1166 ((wj_m1 (by omega)).mp q)))
            refine lv_if_ne (tgt := 101) hx hb dX12_at_92 (by decide) (fun c_0 => absurd c_0 (by decide)) (fun _ => ?_)
            refine lv_aload_n hx hb dX12_at_95 rfl (lv_at hl 0 rfl) ?_
            refine lv_iconst (v := 3) hx hb dX12_at_96 (by decide) ?_
            refine hp_callMl (va_runV (As := [.int 3]) (rest := []) ⟨hx, hb, hml, hown, hts⟩ (c_X12_lost l D cy _ cs ad en_1159 (hI.1 _ (by decide)) 0 hi wd mo tb dp many grt lst nou rm rb pr wo 3 es1155_1159) (kw_X12_lost hts tw_1215 ⟨by decide, by decide⟩) (preV_of hh hK (hI.1 _ (by decide)) es1155_1159 rfl) rfl rfl hl.1 rfl (lv_room (Nat.le_of_ble_eq_true rfl)) dX12_at_97 ⟨Nat.le_of_ble_eq_true rfl, Nat.le_of_ble_eq_true rfl⟩) hh hA (fun r_1167 H locs en_1167 hw_1167 hh => ?_)
            obtain ⟨hr_1167, hen_1167⟩ := hw_1167
            have es1156_1167 : en_1167 3 = .inl (cy 0, 4, .inl f_1156) := by rw [hen_1167, va_up_ne _ _ (by decide)]; exact es1156_1159
            have es1157_1167 : en_1167 4 = .inl (cy 0, 4, .inl f_1157) := by rw [hen_1167, va_up_ne _ _ (by decide)]; exact es1157_1159
            have es1158_1167 : en_1167 5 = .inl (cy 0, 160, .inl f_1158) := by rw [hen_1167, va_up_ne _ _ (by decide)]; exact es1158_1159
            have es1155_1167 : en_1167 0 = .inr (11, [.int 3, .int hi, .int (nI wd), .int (nI mo), .int (nI tb), .ref (ad 1), .ref (ad 2), .ref (ad 3), .ref (ad 4), .ref (ad 5), .ref (ad 6), .ref (ad 7), .ref (ad 8), .ref (ad 9), .int dp, .long many, .long grt, .long lst, .long nou, .ref (ad 10), .ref (ad 11), .ref (ad 12), .int rm, .long rb, .ref (ad 13), .int pr, .ref (ad 14), .ref (ad 15), .ref (ad 16), .ref (ad 17), .int (nI wo), .ref (ad 18), .ref (ad 19)]) := by rw [hen_1167]; exact va_up_self _ _ _
            have hI_1167 : RX cy cs ad en_1167 := by rw [hen_1167]; exact upr_M hI_1159 ⟨3, hi, wd, mo, tb, dp, many, grt, lst, nou, rm, rb, pr, wo, rfl, hwd2, hwd3, hmo, htb, hwo⟩
            have hf_1167 : ∀ c, (c ≠ 0) → en_1167 c = en c := fun c hc => Eq.trans (show en_1167 c = en_1159 c from by rw [hen_1167, va_up_ne _ _ (by omega)]) (hf_1159 c hc)
            have hkp_1167 : KP en en_1167 := KP_fv hkp_1159 es1155_1159 es1155_1167 hi (nI wd) (nI mo) (nI tb) pr (nI wo) rfl rfl rfl rfl rfl rfl rfl rfl rfl rfl rfl rfl
            obtain rfl : r_1167 = (-9223372036854775808) := hr_1167
            exact hp_lretM hx hb hr hlocks hh (⟨hI_1167, hf_1167, (by unfold RAT; (try rw [nI_clamp (n := N_1160) (by omega)]); rw [show rdF (en 3) = f_1156 from by rw [es1156]; rfl, show rdF (en 4) = f_1157 from by rw [es1157]; rfl]; unfold atR; rw [if_pos ⟨hp_1160, hp_1161⟩, if_neg (fun q => q.2 c_1164), if_neg c_1162, hfv_1165, nI_toInt (n := v_1165) (by omega), if_neg hp_1166]), hkp_1167⟩) dX12_at_100
        · refine lv_aload_n hx hb dX12_at_54 rfl (lv_at hl 0 rfl) ?_
          refine lv_iconst (v := 2) hx hb dX12_at_55 (by decide) ?_
          refine hp_callMl (va_runV (As := [.int 2]) (rest := []) ⟨hx, hb, hml, hown, hts⟩ (c_X12_lost l D cy _ cs ad en_1159 (hI.1 _ (by decide)) 0 hi wd mo tb dp many grt lst nou rm rb pr wo 2 es1155_1159) (kw_X12_lost hts tw_1215 ⟨by decide, by decide⟩) (preV_of hh hK (hI.1 _ (by decide)) es1155_1159 rfl) rfl rfl hl.1 rfl (lv_room (Nat.le_of_ble_eq_true rfl)) dX12_at_56 ⟨Nat.le_of_ble_eq_true rfl, Nat.le_of_ble_eq_true rfl⟩) hh hA (fun r_1168 H locs en_1168 hw_1168 hh => ?_)
          obtain ⟨hr_1168, hen_1168⟩ := hw_1168
          have es1156_1168 : en_1168 3 = .inl (cy 0, 4, .inl f_1156) := by rw [hen_1168, va_up_ne _ _ (by decide)]; exact es1156_1159
          have es1157_1168 : en_1168 4 = .inl (cy 0, 4, .inl f_1157) := by rw [hen_1168, va_up_ne _ _ (by decide)]; exact es1157_1159
          have es1158_1168 : en_1168 5 = .inl (cy 0, 160, .inl f_1158) := by rw [hen_1168, va_up_ne _ _ (by decide)]; exact es1158_1159
          have es1155_1168 : en_1168 0 = .inr (11, [.int 2, .int hi, .int (nI wd), .int (nI mo), .int (nI tb), .ref (ad 1), .ref (ad 2), .ref (ad 3), .ref (ad 4), .ref (ad 5), .ref (ad 6), .ref (ad 7), .ref (ad 8), .ref (ad 9), .int dp, .long many, .long grt, .long lst, .long nou, .ref (ad 10), .ref (ad 11), .ref (ad 12), .int rm, .long rb, .ref (ad 13), .int pr, .ref (ad 14), .ref (ad 15), .ref (ad 16), .ref (ad 17), .int (nI wo), .ref (ad 18), .ref (ad 19)]) := by rw [hen_1168]; exact va_up_self _ _ _
          have hI_1168 : RX cy cs ad en_1168 := by rw [hen_1168]; exact upr_M hI_1159 ⟨2, hi, wd, mo, tb, dp, many, grt, lst, nou, rm, rb, pr, wo, rfl, hwd2, hwd3, hmo, htb, hwo⟩
          have hf_1168 : ∀ c, (c ≠ 0) → en_1168 c = en c := fun c hc => Eq.trans (show en_1168 c = en_1159 c from by rw [hen_1168, va_up_ne _ _ (by omega)]) (hf_1159 c hc)
          have hkp_1168 : KP en en_1168 := KP_fv hkp_1159 es1155_1159 es1155_1168 hi (nI wd) (nI mo) (nI tb) pr (nI wo) rfl rfl rfl rfl rfl rfl rfl rfl rfl rfl rfl rfl
          obtain rfl : r_1168 = (-9223372036854775808) := hr_1168
          exact hp_lretM hx hb hr hlocks hh (⟨hI_1168, hf_1168, (by unfold RAT; (try rw [nI_clamp (n := N_1160) (by omega)]); rw [show rdF (en 3) = f_1156 from by rw [es1156]; rfl, show rdF (en 4) = f_1157 from by rw [es1157]; rfl]; unfold atR; rw [if_pos ⟨hp_1160, hp_1161⟩, if_pos ⟨c_1162, c_1164⟩]), hkp_1168⟩) dX12_at_59
    · obtain rfl : r_1161 = 0 := Eq.trans hw_1161 (if_neg (fun q => hp_1161 ((wj_32 (by decide) (by decide)).mp q)))
      refine lv_if_ne (tgt := 33) hx hb dX12_at_26 (by decide) (fun c_0 => absurd c_0 (by decide)) (fun _ => ?_)
      refine lv_ldc2 hx hb hown (hts _ tw_1015) dX12_at_29 ?_
      exact hp_lretM hx hb hr hlocks hh (⟨hI_1159, hf_1159, (by unfold RAT atR; rw [if_neg (fun q => hp_1161 q.2)]), hkp_1159⟩) dX12_at_32
  · obtain rfl : r_1160 = 0 := Eq.trans hw_1160 (if_neg (fun q => hp_1160 ((wj_32 (by decide) (by decide)).mp q)))
    refine lv_if_eq (tgt := 29) hx hb dX12_at_14 (by decide) (fun _ => ?_) (fun c_0 => absurd c_0 (by decide))
    refine lv_ldc2 hx hb hown (hts _ tw_1015) dX12_at_29 ?_
    exact hp_lretM hx hb hr hlocks hh (⟨hI_1159, hf_1159, (by unfold RAT atR; rw [if_neg (fun q => hp_1160 q.1)]), hkp_1159⟩) dX12_at_32
theorem kw_X12_at {R : Room} {s : State} {args : Array Value} {own : String} {idx : Nat} (hts : ∀ w ∈ TB, w.before args s = true) (hl : Cond.methodLink own idx yX12_at ∈ TB) (hR : 1 + 1 ≤ R.frames ∧ 8 + (4 + 11) + 40 * 1 ≤ R.locals) : CallW R s args own RX12 idx yX12_at cX12_at 4 (some .long) (Cond.code yX12_at cX12_at 4 (some .long) :: TB) (rmN 1) 0 0 3 := cwV 3 hts (TB_V hl tw_1212 tw_1213 tw_9 tw_1214) rfl rfl rfl (by decide +kernel) hR
set_option maxHeartbeats 4000000 in
set_option maxRecDepth 100000 in
/-- kindOf -/
theorem c_X12_kindOf (l : Launch) (D : va_G) (cy : Nat → ClassId) (sz : Nat) (cs : List Nat) (ad : Nat → Nat) (en : Nat → va_E) (hI : RX cy cs ad en) (t : Nat) (ht6 : t < 6)   : Met l yX12_kindOf (Cond.code yX12_kindOf cX12_kindOf 9 (some .int) :: TB) (rmN 0) (va_Pc [.ref (ad 0), .int (nI t)] (Pre D cy cs ad en sz)) (va_Qi (S := Unit) (fun r _ => r = 0 ∨ r = 1 ∨ r = 2) (fun _ _ => True) (Nf sz)) 0 0 (Nf sz) := by
  refine Met.ofW (cc := cX12_kindOf) (maxL := 9) (ret := (some .int)) (by decide) rfl ?_
  intro p e s m args below meth c s₁ B hml hv
  obtain ⟨rfl, hsz, hP, hK, hD0⟩ := hv
  have hx := B.exec
  have hb := B.bytes
  have hr := B.returns
  have hts : ∀ w ∈ TB, w.before _ s = true := fun w h => atoms_spec (ws := _ :: TB) B.pre w (List.mem_cons_of_mem _ h)
  have hown : s.vm.findClass RX12 = some m.cls := findClass_of_methodNamed B.named
  have hlocks := B.notSynchronized
  have hh : Hp D (Nf sz) (fun _ => True) s.heap s.heap [] cs ad en := ⟨hP, hD0, va_S.rf⟩
  have hA : ∀ q : Nat, s.heap.size ≤ q → Nf sz q := fun q h => by rw [hsz] at h; exact h
  have hl := lv_entry ([.ref (ad 0), .int (nI t)]) (n := 9) (Nat.le_of_ble_eq_true rfl)
  rw [lg_entry_eq]
  generalize (lg_sl ([.ref (ad 0), .int (nI t)]) ++ List.replicate (9 - (lg_sl ([.ref (ad 0), .int (nI t)])).length) Slot.unset).toArray = ls at hl ⊢
  have hl : lv_has ls 9 [(0, .ref (ad 0)), (1, .int (nI t))] := hl
  obtain ⟨fa, hi, wd, mo, tb, dp, many, grt, lst, nou, rm, rb, pr, wo, es1169, hwd2, hwd3, hmo, htb, hwo⟩ := getr_M hI
  obtain ⟨f_1170, es1170⟩ := getr_E hI
  refine lv_iconst (v := 1) hx hb dX12_kindOf_0 (by decide) ?_
  refine lv_istore_n (lv' := [(2, .int 1), (0, .ref (ad 0)), (1, .int (nI t))]) hx hb dX12_kindOf_1 rfl hl (by decide) rfl (fun ls hl => ?_)
  refine lv_iconst (v := 1) hx hb dX12_kindOf_2 (by decide) ?_
  refine lv_istore_n (lv' := [(3, .int 1), (2, .int 1), (0, .ref (ad 0)), (1, .int (nI t))]) hx hb dX12_kindOf_3 rfl hl (by decide) rfl (fun ls hl => ?_)
  refine lv_iconst (v := 0) hx hb dX12_kindOf_4 (by decide) ?_
  refine lv_istore (lv' := [(4, .int 0), (3, .int 1), (2, .int 1), (0, .ref (ad 0)), (1, .int (nI t))]) hx hb dX12_kindOf_5 hl (by decide) rfl (fun ls hl => ?_)
  have loop_1171 : ∀ (fu j1171 : Nat) (ev1171 : Int32) (sh1171 : Int32)  (ls : Array Slot) (H : Heap) (locs : List Loc), 0 ≤ j1171 → j1171 ≤ wd → wd < j1171 + fu →   lv_has ls 9 [(4, .int (nI j1171)), (3, .int sh1171), (2, .int ev1171), (0, .ref (ad 0)), (1, .int (nI t))] → Hp D (Nf sz) (fun _ => True) s.heap H locs cs ad en → W p l e (headSpec (Cond.code yX12_kindOf cX12_kindOf 9 (some .int) :: TB) (rmN 0)).room s m ([.ref (ad 0), .int (nI t)] : List Value).toArray below meth c H locs 0 0 (MQ below (va_Qi (S := Unit) (fun r _ => r = 0 ∨ r = 1 ∨ r = 2) (fun _ _ => True) (Nf sz)) ([.ref (ad 0), .int (nI t)] : List Value).toArray s 0 0 (Nf sz)) (F0 m 7 ls []) := by
    intro fu
    induction fu with
    | zero => intro j1171 ev1171 sh1171 ls H locs h0 h1 h2; exact absurd h2 (by omega)
    | succ fu ih_1171 =>
      intro j1171 ev1171 sh1171 ls H locs hj0_1171 hj_1171 hfu_1171  hl hh
      refine lv_iload hx hb dX12_kindOf_7 (lv_at hl 0 rfl) ?_
      refine lv_aload_n hx hb dX12_kindOf_9 rfl (lv_at hl 3 rfl) ?_
      refine hp_get hx hb hts ix12 hown hK hh (q := 0) rfl (hI.1 _ (by decide)) es1169 rfl 2 (by decide) (hts _ tw_881) (fun _ h9 => h9) rfl dX12_kindOf_10 ?_
      refine lv_icmp_ge (tgt := 152) hx hb dX12_kindOf_13 (by decide) (fun c_1172 => ?_) (fun c_1172 => ?_)
      · have n_1172 : wd ≤ j1171 := n_le (a := wd) (b := j1171) c_1172 (by omega) (by omega)
        refine lv_iload_n hx hb dX12_kindOf_152 rfl (lv_at hl 1 rfl) ?_
        refine lv_if_eq (tgt := 160) hx hb dX12_kindOf_153 (by decide) (fun c_1173 => ?_) (fun c_1173 => ?_)
        · refine lv_iload_n hx hb dX12_kindOf_160 rfl (lv_at hl 2 rfl) ?_
          refine lv_if_eq (tgt := 168) hx hb dX12_kindOf_161 (by decide) (fun c_1174 => ?_) (fun c_1174 => ?_)
          · refine lv_iconst (v := 0) hx hb dX12_kindOf_168 (by decide) ?_
            exact hp_iretR hx hb hr rfl hlocks hsz hh (Or.inl rfl) dX12_kindOf_169
          · refine lv_iconst (v := 1) hx hb dX12_kindOf_164 (by decide) ?_
            refine lv_goto (tgt := 169) hx hb dX12_kindOf_165 (by decide) ?_
            exact hp_iretR hx hb hr rfl hlocks hsz hh (Or.inr (Or.inl rfl)) dX12_kindOf_169
        · refine lv_iconst (v := 2) hx hb dX12_kindOf_156 (by decide) ?_
          refine lv_goto (tgt := 169) hx hb dX12_kindOf_157 (by decide) ?_
          exact hp_iretR hx hb hr rfl hlocks hsz hh (Or.inr (Or.inr rfl)) dX12_kindOf_169
      · have n_1172 : j1171 < wd := n_nle (a := wd) (b := j1171) c_1172 (by omega) (by omega)
        refine lv_iconst (v := 0) hx hb dX12_kindOf_16 (by decide) ?_
        refine lv_istore (lv' := [(5, .int 0), (4, .int (nI j1171)), (3, .int sh1171), (2, .int ev1171), (0, .ref (ad 0)), (1, .int (nI t))]) hx hb dX12_kindOf_17 hl (by decide) rfl (fun ls hl => ?_)
        refine lv_iconst (v := 0) hx hb dX12_kindOf_19 (by decide) ?_
        refine lv_istore (lv' := [(6, .int 0), (5, .int 0), (4, .int (nI j1171)), (3, .int sh1171), (2, .int ev1171), (0, .ref (ad 0)), (1, .int (nI t))]) hx hb dX12_kindOf_20 hl (by decide) rfl (fun ls hl => ?_)
        refine lv_iconst (v := 0) hx hb dX12_kindOf_22 (by decide) ?_
        refine lv_istore (lv' := [(7, .int 0), (6, .int 0), (5, .int 0), (4, .int (nI j1171)), (3, .int sh1171), (2, .int ev1171), (0, .ref (ad 0)), (1, .int (nI t))]) hx hb dX12_kindOf_23 hl (by decide) rfl (fun ls hl => ?_)
        have loop_1175 : ∀ (fu j1175 : Nat) (ev1175 : Int32) (sh1175 : Int32) (ir1175 : Int32) (ic1175 : Int32)  (ls : Array Slot) (H : Heap) (locs : List Loc), 0 ≤ j1175 → j1175 ≤ wd → wd < j1175 + fu →   lv_has ls 9 [(7, .int (nI j1175)), (6, .int ic1175), (5, .int ir1175), (4, .int (nI j1171)), (3, .int sh1175), (2, .int ev1175), (0, .ref (ad 0)), (1, .int (nI t))] → Hp D (Nf sz) (fun _ => True) s.heap H locs cs ad en → W p l e (headSpec (Cond.code yX12_kindOf cX12_kindOf 9 (some .int) :: TB) (rmN 0)).room s m ([.ref (ad 0), .int (nI t)] : List Value).toArray below meth c H locs 0 0 (MQ below (va_Qi (S := Unit) (fun r _ => r = 0 ∨ r = 1 ∨ r = 2) (fun _ _ => True) (Nf sz)) ([.ref (ad 0), .int (nI t)] : List Value).toArray s 0 0 (Nf sz)) (F0 m 25 ls []) := by
          intro fu
          induction fu with
          | zero => intro j1175 ev1175 sh1175 ir1175 ic1175 ls H locs h0 h1 h2; exact absurd h2 (by omega)
          | succ fu ih_1175 =>
            intro j1175 ev1175 sh1175 ir1175 ic1175 ls H locs hj0_1175 hj_1175 hfu_1175  hl hh
            refine lv_iload hx hb dX12_kindOf_25 (lv_at hl 0 rfl) ?_
            refine lv_aload_n hx hb dX12_kindOf_27 rfl (lv_at hl 6 rfl) ?_
            refine hp_get hx hb hts ix12 hown hK hh (q := 0) rfl (hI.1 _ (by decide)) es1169 rfl 2 (by decide) (hts _ tw_881) (fun _ h9 => h9) rfl dX12_kindOf_28 ?_
            refine lv_icmp_ge (tgt := 126) hx hb dX12_kindOf_31 (by decide) (fun c_1176 => ?_) (fun c_1176 => ?_)
            · have n_1176 : wd ≤ j1175 := n_le (a := wd) (b := j1175) c_1176 (by omega) (by omega)
              refine lv_iload_n hx hb dX12_kindOf_126 rfl (lv_at hl 4 rfl) ?_
              refine lv_iload hx hb dX12_kindOf_127 (lv_at hl 2 rfl) ?_
              refine lv_iconst (v := 1) hx hb dX12_kindOf_129 (by decide) ?_
              refine lv_icmp_ne (tgt := 143) hx hb dX12_kindOf_130 (by decide) (fun c_1177 => ?_) (fun c_1177 => ?_)
              · refine lv_iconst (v := 0) hx hb dX12_kindOf_143 (by decide) ?_
                refine lv_iand hx hb dX12_kindOf_144 ?_
                refine lv_istore_n (lv' := [(3, .int (sh1175 &&& 0)), (7, .int (nI j1175)), (6, .int ic1175), (5, .int ir1175), (4, .int (nI j1171)), (2, .int ev1175), (0, .ref (ad 0)), (1, .int (nI t))]) hx hb dX12_kindOf_145 rfl hl (by decide) rfl (fun ls hl => ?_)
                refine lv_iinc (v := (nI (j1171 + 1))) (lv' := [(4, .int (nI (j1171 + 1))), (3, .int (sh1175 &&& 0)), (7, .int (nI j1175)), (6, .int ic1175), (5, .int ir1175), (2, .int ev1175), (0, .ref (ad 0)), (1, .int (nI t))]) hx hb dX12_kindOf_146 hl (k := 4) rfl (nI_1 _) (by decide) rfl (fun ls hl => ?_)
                refine lv_goto (tgt := 7) hx hb dX12_kindOf_149 (by decide) ?_
                exact ih_1171 ((j1171 + 1)) ev1175 (sh1175 &&& 0) ls H locs (by omega) (by omega) (by omega)  (lv_sub hl [0, 1, 5, 6, 7] rfl) hh
              · refine lv_iload hx hb dX12_kindOf_133 (lv_at hl 1 rfl) ?_
                refine lv_iconst (v := 1) hx hb dX12_kindOf_135 (by decide) ?_
                refine lv_icmp_ne (tgt := 143) hx hb dX12_kindOf_136 (by decide) (fun c_1178 => ?_) (fun c_1178 => ?_)
                · refine lv_iconst (v := 0) hx hb dX12_kindOf_143 (by decide) ?_
                  refine lv_iand hx hb dX12_kindOf_144 ?_
                  refine lv_istore_n (lv' := [(3, .int (sh1175 &&& 0)), (7, .int (nI j1175)), (6, .int ic1175), (5, .int ir1175), (4, .int (nI j1171)), (2, .int ev1175), (0, .ref (ad 0)), (1, .int (nI t))]) hx hb dX12_kindOf_145 rfl hl (by decide) rfl (fun ls hl => ?_)
                  refine lv_iinc (v := (nI (j1171 + 1))) (lv' := [(4, .int (nI (j1171 + 1))), (3, .int (sh1175 &&& 0)), (7, .int (nI j1175)), (6, .int ic1175), (5, .int ir1175), (2, .int ev1175), (0, .ref (ad 0)), (1, .int (nI t))]) hx hb dX12_kindOf_146 hl (k := 4) rfl (nI_1 _) (by decide) rfl (fun ls hl => ?_)
                  refine lv_goto (tgt := 7) hx hb dX12_kindOf_149 (by decide) ?_
                  exact ih_1171 ((j1171 + 1)) ev1175 (sh1175 &&& 0) ls H locs (by omega) (by omega) (by omega)  (lv_sub hl [0, 1, 5, 6, 7] rfl) hh
                · refine lv_iconst (v := 1) hx hb dX12_kindOf_139 (by decide) ?_
                  refine lv_goto (tgt := 144) hx hb dX12_kindOf_140 (by decide) ?_
                  refine lv_iand hx hb dX12_kindOf_144 ?_
                  refine lv_istore_n (lv' := [(3, .int (sh1175 &&& 1)), (7, .int (nI j1175)), (6, .int ic1175), (5, .int ir1175), (4, .int (nI j1171)), (2, .int ev1175), (0, .ref (ad 0)), (1, .int (nI t))]) hx hb dX12_kindOf_145 rfl hl (by decide) rfl (fun ls hl => ?_)
                  refine lv_iinc (v := (nI (j1171 + 1))) (lv' := [(4, .int (nI (j1171 + 1))), (3, .int (sh1175 &&& 1)), (7, .int (nI j1175)), (6, .int ic1175), (5, .int ir1175), (2, .int ev1175), (0, .ref (ad 0)), (1, .int (nI t))]) hx hb dX12_kindOf_146 hl (k := 4) rfl (nI_1 _) (by decide) rfl (fun ls hl => ?_)
                  refine lv_goto (tgt := 7) hx hb dX12_kindOf_149 (by decide) ?_
                  exact ih_1171 ((j1171 + 1)) ev1175 (sh1175 &&& 1) ls H locs (by omega) (by omega) (by omega)  (lv_sub hl [0, 1, 5, 6, 7] rfl) hh
            · have n_1176 : j1175 < wd := n_nle (a := wd) (b := j1175) c_1176 (by omega) (by omega)
              refine lv_aload_n hx hb dX12_kindOf_34 rfl (lv_at hl 6 rfl) ?_
              refine hp_get hx hb hts ix12 hown hK hh (q := 0) rfl (hI.1 _ (by decide)) es1169 rfl 5 (by decide) (hts _ tw_884) (fun _ h9 => h9) rfl dX12_kindOf_35 ?_
              refine lv_bipush (v := 9) hx hb dX12_kindOf_38 (by decide) ?_
              refine lv_iload_n hx hb dX12_kindOf_40 rfl (lv_at hl 7 rfl) ?_
              refine lv_imul hx hb dX12_kindOf_41 ?_
              rw [show (9 : Int32) = nI 9 from rfl, pk_mul 9 t]
              refine lv_aload_n hx hb dX12_kindOf_42 rfl (lv_at hl 6 rfl) ?_
              refine hp_get hx hb hts ix12 hown hK hh (q := 0) rfl (hI.1 _ (by decide)) es1169 rfl 2 (by decide) (hts _ tw_881) (fun _ h9 => h9) rfl dX12_kindOf_43 ?_
              refine lv_iload hx hb dX12_kindOf_46 (lv_at hl 3 rfl) ?_
              refine lv_imul hx hb dX12_kindOf_48 ?_
              rw [pk_mul wd j1171]
              refine lv_iadd hx hb dX12_kindOf_49 ?_
              rw [nI_add (9 * t) (wd * j1171)]
              refine lv_iload hx hb dX12_kindOf_50 (lv_at hl 0 rfl) ?_
              refine lv_iadd hx hb dX12_kindOf_52 ?_
              rw [nI_add ((9 * t) + (wd * j1171)) j1175]
              have hi_1179 : wd * j1171 + j1175 < 9 := mdr (by omega) (by omega) (by omega)
              refine hp_iald hx hb hK hh (q := 1) rfl (hI.1 _ (by decide)) es1170 (vp_in_nI (n := (((9 * t) + (wd * j1171)) + j1175)) (by omega) (by decide)) dX12_kindOf_53 ?_
              rw [nI_clamp (n := (((9 * t) + (wd * j1171)) + j1175)) (by omega)]
              refine lv_istore (lv' := [(8, .int (f_1170 (((9 * t) + (wd * j1171)) + j1175))), (7, .int (nI j1175)), (6, .int ic1175), (5, .int ir1175), (4, .int (nI j1171)), (3, .int sh1175), (2, .int ev1175), (0, .ref (ad 0)), (1, .int (nI t))]) hx hb dX12_kindOf_54 hl (by decide) rfl (fun ls hl => ?_)
              refine lv_iload_n hx hb dX12_kindOf_56 rfl (lv_at hl 6 rfl) ?_
              refine lv_iload hx hb dX12_kindOf_57 (lv_at hl 0 rfl) ?_
              refine lv_if_lt (tgt := 66) hx hb dX12_kindOf_59 (by decide) (fun c_1180 => ?_) (fun c_1180 => ?_)
              · refine lv_iconst (v := 0) hx hb dX12_kindOf_66 (by decide) ?_
                refine lv_iand hx hb dX12_kindOf_67 ?_
                refine lv_istore_n (lv' := [(2, .int (ev1175 &&& 0)), (8, .int (f_1170 (((9 * t) + (wd * j1171)) + j1175))), (7, .int (nI j1175)), (6, .int ic1175), (5, .int ir1175), (4, .int (nI j1171)), (3, .int sh1175), (0, .ref (ad 0)), (1, .int (nI t))]) hx hb dX12_kindOf_68 rfl hl (by decide) rfl (fun ls hl => ?_)
                refine lv_iload_n hx hb dX12_kindOf_69 rfl (lv_at hl 6 rfl) ?_
                refine lv_iload hx hb dX12_kindOf_70 (lv_at hl 1 rfl) ?_
                refine lv_if_eq (tgt := 81) hx hb dX12_kindOf_72 (by decide) (fun c_1181 => ?_) (fun c_1181 => ?_)
                · refine lv_iconst (v := 1) hx hb dX12_kindOf_81 (by decide) ?_
                  refine lv_goto (tgt := 86) hx hb dX12_kindOf_82 (by decide) ?_
                  refine lv_iand hx hb dX12_kindOf_86 ?_
                  refine lv_istore_n (lv' := [(3, .int (sh1175 &&& 1)), (2, .int (ev1175 &&& 0)), (8, .int (f_1170 (((9 * t) + (wd * j1171)) + j1175))), (7, .int (nI j1175)), (6, .int ic1175), (5, .int ir1175), (4, .int (nI j1171)), (0, .ref (ad 0)), (1, .int (nI t))]) hx hb dX12_kindOf_87 rfl hl (by decide) rfl (fun ls hl => ?_)
                  refine lv_iload hx hb dX12_kindOf_88 (lv_at hl 5 rfl) ?_
                  refine lv_iload hx hb dX12_kindOf_90 (lv_at hl 2 rfl) ?_
                  refine lv_iadd hx hb dX12_kindOf_92 ?_
                  refine lv_istore (lv' := [(5, .int (ir1175 + (f_1170 (((9 * t) + (wd * j1171)) + j1175)))), (3, .int (sh1175 &&& 1)), (2, .int (ev1175 &&& 0)), (8, .int (f_1170 (((9 * t) + (wd * j1171)) + j1175))), (7, .int (nI j1175)), (6, .int ic1175), (4, .int (nI j1171)), (0, .ref (ad 0)), (1, .int (nI t))]) hx hb dX12_kindOf_93 hl (by decide) rfl (fun ls hl => ?_)
                  refine lv_iload hx hb dX12_kindOf_95 (lv_at hl 5 rfl) ?_
                  refine lv_aload_n hx hb dX12_kindOf_97 rfl (lv_at hl 7 rfl) ?_
                  refine hp_get hx hb hts ix12 hown hK hh (q := 0) rfl (hI.1 _ (by decide)) es1169 rfl 5 (by decide) (hts _ tw_884) (fun _ h9 => h9) rfl dX12_kindOf_98 ?_
                  refine lv_bipush (v := 9) hx hb dX12_kindOf_101 (by decide) ?_
                  refine lv_iload_n hx hb dX12_kindOf_103 rfl (lv_at hl 8 rfl) ?_
                  refine lv_imul hx hb dX12_kindOf_104 ?_
                  rw [show (9 : Int32) = nI 9 from rfl, pk_mul 9 t]
                  refine lv_aload_n hx hb dX12_kindOf_105 rfl (lv_at hl 7 rfl) ?_
                  refine hp_get hx hb hts ix12 hown hK hh (q := 0) rfl (hI.1 _ (by decide)) es1169 rfl 2 (by decide) (hts _ tw_881) (fun _ h9 => h9) rfl dX12_kindOf_106 ?_
                  refine lv_iload hx hb dX12_kindOf_109 (lv_at hl 4 rfl) ?_
                  refine lv_imul hx hb dX12_kindOf_111 ?_
                  rw [pk_mul wd j1175]
                  refine lv_iadd hx hb dX12_kindOf_112 ?_
                  rw [nI_add (9 * t) (wd * j1175)]
                  refine lv_iload hx hb dX12_kindOf_113 (lv_at hl 6 rfl) ?_
                  refine lv_iadd hx hb dX12_kindOf_115 ?_
                  rw [nI_add ((9 * t) + (wd * j1175)) j1171]
                  have hi_1182 : wd * j1175 + j1171 < 9 := mdr (by omega) (by omega) (by omega)
                  refine hp_iald hx hb hK hh (q := 1) rfl (hI.1 _ (by decide)) es1170 (vp_in_nI (n := (((9 * t) + (wd * j1175)) + j1171)) (by omega) (by decide)) dX12_kindOf_116 ?_
                  rw [nI_clamp (n := (((9 * t) + (wd * j1175)) + j1171)) (by omega)]
                  refine lv_iadd hx hb dX12_kindOf_117 ?_
                  refine lv_istore (lv' := [(6, .int (ic1175 + (f_1170 (((9 * t) + (wd * j1175)) + j1171)))), (5, .int (ir1175 + (f_1170 (((9 * t) + (wd * j1171)) + j1175)))), (3, .int (sh1175 &&& 1)), (2, .int (ev1175 &&& 0)), (8, .int (f_1170 (((9 * t) + (wd * j1171)) + j1175))), (7, .int (nI j1175)), (4, .int (nI j1171)), (0, .ref (ad 0)), (1, .int (nI t))]) hx hb dX12_kindOf_118 hl (by decide) rfl (fun ls hl => ?_)
                  refine lv_iinc (v := (nI (j1175 + 1))) (lv' := [(7, .int (nI (j1175 + 1))), (6, .int (ic1175 + (f_1170 (((9 * t) + (wd * j1175)) + j1171)))), (5, .int (ir1175 + (f_1170 (((9 * t) + (wd * j1171)) + j1175)))), (3, .int (sh1175 &&& 1)), (2, .int (ev1175 &&& 0)), (8, .int (f_1170 (((9 * t) + (wd * j1171)) + j1175))), (4, .int (nI j1171)), (0, .ref (ad 0)), (1, .int (nI t))]) hx hb dX12_kindOf_120 hl (k := 5) rfl (nI_1 _) (by decide) rfl (fun ls hl => ?_)
                  refine lv_goto (tgt := 25) hx hb dX12_kindOf_123 (by decide) ?_
                  exact ih_1175 ((j1175 + 1)) (ev1175 &&& 0) (sh1175 &&& 1) (ir1175 + (f_1170 (((9 * t) + (wd * j1171)) + j1175))) (ic1175 + (f_1170 (((9 * t) + (wd * j1175)) + j1171))) ls H locs (by omega) (by omega) (by omega)  (lv_sub hl [0, 1, 2, 6, 3, 4, 7, 8] rfl) hh
                · refine lv_iload hx hb dX12_kindOf_75 (lv_at hl 1 rfl) ?_
                  refine lv_iconst (v := 1) hx hb dX12_kindOf_77 (by decide) ?_
                  refine lv_icmp_ne (tgt := 85) hx hb dX12_kindOf_78 (by decide) (fun c_1183 => ?_) (fun c_1183 => ?_)
                  · refine lv_iconst (v := 0) hx hb dX12_kindOf_85 (by decide) ?_
                    refine lv_iand hx hb dX12_kindOf_86 ?_
                    refine lv_istore_n (lv' := [(3, .int (sh1175 &&& 0)), (2, .int (ev1175 &&& 0)), (8, .int (f_1170 (((9 * t) + (wd * j1171)) + j1175))), (7, .int (nI j1175)), (6, .int ic1175), (5, .int ir1175), (4, .int (nI j1171)), (0, .ref (ad 0)), (1, .int (nI t))]) hx hb dX12_kindOf_87 rfl hl (by decide) rfl (fun ls hl => ?_)
                    refine lv_iload hx hb dX12_kindOf_88 (lv_at hl 5 rfl) ?_
                    refine lv_iload hx hb dX12_kindOf_90 (lv_at hl 2 rfl) ?_
                    refine lv_iadd hx hb dX12_kindOf_92 ?_
                    refine lv_istore (lv' := [(5, .int (ir1175 + (f_1170 (((9 * t) + (wd * j1171)) + j1175)))), (3, .int (sh1175 &&& 0)), (2, .int (ev1175 &&& 0)), (8, .int (f_1170 (((9 * t) + (wd * j1171)) + j1175))), (7, .int (nI j1175)), (6, .int ic1175), (4, .int (nI j1171)), (0, .ref (ad 0)), (1, .int (nI t))]) hx hb dX12_kindOf_93 hl (by decide) rfl (fun ls hl => ?_)
                    refine lv_iload hx hb dX12_kindOf_95 (lv_at hl 5 rfl) ?_
                    refine lv_aload_n hx hb dX12_kindOf_97 rfl (lv_at hl 7 rfl) ?_
                    refine hp_get hx hb hts ix12 hown hK hh (q := 0) rfl (hI.1 _ (by decide)) es1169 rfl 5 (by decide) (hts _ tw_884) (fun _ h9 => h9) rfl dX12_kindOf_98 ?_
                    refine lv_bipush (v := 9) hx hb dX12_kindOf_101 (by decide) ?_
                    refine lv_iload_n hx hb dX12_kindOf_103 rfl (lv_at hl 8 rfl) ?_
                    refine lv_imul hx hb dX12_kindOf_104 ?_
                    rw [show (9 : Int32) = nI 9 from rfl, pk_mul 9 t]
                    refine lv_aload_n hx hb dX12_kindOf_105 rfl (lv_at hl 7 rfl) ?_
                    refine hp_get hx hb hts ix12 hown hK hh (q := 0) rfl (hI.1 _ (by decide)) es1169 rfl 2 (by decide) (hts _ tw_881) (fun _ h9 => h9) rfl dX12_kindOf_106 ?_
                    refine lv_iload hx hb dX12_kindOf_109 (lv_at hl 4 rfl) ?_
                    refine lv_imul hx hb dX12_kindOf_111 ?_
                    rw [pk_mul wd j1175]
                    refine lv_iadd hx hb dX12_kindOf_112 ?_
                    rw [nI_add (9 * t) (wd * j1175)]
                    refine lv_iload hx hb dX12_kindOf_113 (lv_at hl 6 rfl) ?_
                    refine lv_iadd hx hb dX12_kindOf_115 ?_
                    rw [nI_add ((9 * t) + (wd * j1175)) j1171]
                    have hi_1184 : wd * j1175 + j1171 < 9 := mdr (by omega) (by omega) (by omega)
                    refine hp_iald hx hb hK hh (q := 1) rfl (hI.1 _ (by decide)) es1170 (vp_in_nI (n := (((9 * t) + (wd * j1175)) + j1171)) (by omega) (by decide)) dX12_kindOf_116 ?_
                    rw [nI_clamp (n := (((9 * t) + (wd * j1175)) + j1171)) (by omega)]
                    refine lv_iadd hx hb dX12_kindOf_117 ?_
                    refine lv_istore (lv' := [(6, .int (ic1175 + (f_1170 (((9 * t) + (wd * j1175)) + j1171)))), (5, .int (ir1175 + (f_1170 (((9 * t) + (wd * j1171)) + j1175)))), (3, .int (sh1175 &&& 0)), (2, .int (ev1175 &&& 0)), (8, .int (f_1170 (((9 * t) + (wd * j1171)) + j1175))), (7, .int (nI j1175)), (4, .int (nI j1171)), (0, .ref (ad 0)), (1, .int (nI t))]) hx hb dX12_kindOf_118 hl (by decide) rfl (fun ls hl => ?_)
                    refine lv_iinc (v := (nI (j1175 + 1))) (lv' := [(7, .int (nI (j1175 + 1))), (6, .int (ic1175 + (f_1170 (((9 * t) + (wd * j1175)) + j1171)))), (5, .int (ir1175 + (f_1170 (((9 * t) + (wd * j1171)) + j1175)))), (3, .int (sh1175 &&& 0)), (2, .int (ev1175 &&& 0)), (8, .int (f_1170 (((9 * t) + (wd * j1171)) + j1175))), (4, .int (nI j1171)), (0, .ref (ad 0)), (1, .int (nI t))]) hx hb dX12_kindOf_120 hl (k := 5) rfl (nI_1 _) (by decide) rfl (fun ls hl => ?_)
                    refine lv_goto (tgt := 25) hx hb dX12_kindOf_123 (by decide) ?_
                    exact ih_1175 ((j1175 + 1)) (ev1175 &&& 0) (sh1175 &&& 0) (ir1175 + (f_1170 (((9 * t) + (wd * j1171)) + j1175))) (ic1175 + (f_1170 (((9 * t) + (wd * j1175)) + j1171))) ls H locs (by omega) (by omega) (by omega)  (lv_sub hl [0, 1, 2, 6, 3, 4, 7, 8] rfl) hh
                  · refine lv_iconst (v := 1) hx hb dX12_kindOf_81 (by decide) ?_
                    refine lv_goto (tgt := 86) hx hb dX12_kindOf_82 (by decide) ?_
                    refine lv_iand hx hb dX12_kindOf_86 ?_
                    refine lv_istore_n (lv' := [(3, .int (sh1175 &&& 1)), (2, .int (ev1175 &&& 0)), (8, .int (f_1170 (((9 * t) + (wd * j1171)) + j1175))), (7, .int (nI j1175)), (6, .int ic1175), (5, .int ir1175), (4, .int (nI j1171)), (0, .ref (ad 0)), (1, .int (nI t))]) hx hb dX12_kindOf_87 rfl hl (by decide) rfl (fun ls hl => ?_)
                    refine lv_iload hx hb dX12_kindOf_88 (lv_at hl 5 rfl) ?_
                    refine lv_iload hx hb dX12_kindOf_90 (lv_at hl 2 rfl) ?_
                    refine lv_iadd hx hb dX12_kindOf_92 ?_
                    refine lv_istore (lv' := [(5, .int (ir1175 + (f_1170 (((9 * t) + (wd * j1171)) + j1175)))), (3, .int (sh1175 &&& 1)), (2, .int (ev1175 &&& 0)), (8, .int (f_1170 (((9 * t) + (wd * j1171)) + j1175))), (7, .int (nI j1175)), (6, .int ic1175), (4, .int (nI j1171)), (0, .ref (ad 0)), (1, .int (nI t))]) hx hb dX12_kindOf_93 hl (by decide) rfl (fun ls hl => ?_)
                    refine lv_iload hx hb dX12_kindOf_95 (lv_at hl 5 rfl) ?_
                    refine lv_aload_n hx hb dX12_kindOf_97 rfl (lv_at hl 7 rfl) ?_
                    refine hp_get hx hb hts ix12 hown hK hh (q := 0) rfl (hI.1 _ (by decide)) es1169 rfl 5 (by decide) (hts _ tw_884) (fun _ h9 => h9) rfl dX12_kindOf_98 ?_
                    refine lv_bipush (v := 9) hx hb dX12_kindOf_101 (by decide) ?_
                    refine lv_iload_n hx hb dX12_kindOf_103 rfl (lv_at hl 8 rfl) ?_
                    refine lv_imul hx hb dX12_kindOf_104 ?_
                    rw [show (9 : Int32) = nI 9 from rfl, pk_mul 9 t]
                    refine lv_aload_n hx hb dX12_kindOf_105 rfl (lv_at hl 7 rfl) ?_
                    refine hp_get hx hb hts ix12 hown hK hh (q := 0) rfl (hI.1 _ (by decide)) es1169 rfl 2 (by decide) (hts _ tw_881) (fun _ h9 => h9) rfl dX12_kindOf_106 ?_
                    refine lv_iload hx hb dX12_kindOf_109 (lv_at hl 4 rfl) ?_
                    refine lv_imul hx hb dX12_kindOf_111 ?_
                    rw [pk_mul wd j1175]
                    refine lv_iadd hx hb dX12_kindOf_112 ?_
                    rw [nI_add (9 * t) (wd * j1175)]
                    refine lv_iload hx hb dX12_kindOf_113 (lv_at hl 6 rfl) ?_
                    refine lv_iadd hx hb dX12_kindOf_115 ?_
                    rw [nI_add ((9 * t) + (wd * j1175)) j1171]
                    have hi_1185 : wd * j1175 + j1171 < 9 := mdr (by omega) (by omega) (by omega)
                    refine hp_iald hx hb hK hh (q := 1) rfl (hI.1 _ (by decide)) es1170 (vp_in_nI (n := (((9 * t) + (wd * j1175)) + j1171)) (by omega) (by decide)) dX12_kindOf_116 ?_
                    rw [nI_clamp (n := (((9 * t) + (wd * j1175)) + j1171)) (by omega)]
                    refine lv_iadd hx hb dX12_kindOf_117 ?_
                    refine lv_istore (lv' := [(6, .int (ic1175 + (f_1170 (((9 * t) + (wd * j1175)) + j1171)))), (5, .int (ir1175 + (f_1170 (((9 * t) + (wd * j1171)) + j1175)))), (3, .int (sh1175 &&& 1)), (2, .int (ev1175 &&& 0)), (8, .int (f_1170 (((9 * t) + (wd * j1171)) + j1175))), (7, .int (nI j1175)), (4, .int (nI j1171)), (0, .ref (ad 0)), (1, .int (nI t))]) hx hb dX12_kindOf_118 hl (by decide) rfl (fun ls hl => ?_)
                    refine lv_iinc (v := (nI (j1175 + 1))) (lv' := [(7, .int (nI (j1175 + 1))), (6, .int (ic1175 + (f_1170 (((9 * t) + (wd * j1175)) + j1171)))), (5, .int (ir1175 + (f_1170 (((9 * t) + (wd * j1171)) + j1175)))), (3, .int (sh1175 &&& 1)), (2, .int (ev1175 &&& 0)), (8, .int (f_1170 (((9 * t) + (wd * j1171)) + j1175))), (4, .int (nI j1171)), (0, .ref (ad 0)), (1, .int (nI t))]) hx hb dX12_kindOf_120 hl (k := 5) rfl (nI_1 _) (by decide) rfl (fun ls hl => ?_)
                    refine lv_goto (tgt := 25) hx hb dX12_kindOf_123 (by decide) ?_
                    exact ih_1175 ((j1175 + 1)) (ev1175 &&& 0) (sh1175 &&& 1) (ir1175 + (f_1170 (((9 * t) + (wd * j1171)) + j1175))) (ic1175 + (f_1170 (((9 * t) + (wd * j1175)) + j1171))) ls H locs (by omega) (by omega) (by omega)  (lv_sub hl [0, 1, 2, 6, 3, 4, 7, 8] rfl) hh
              · refine lv_iconst (v := 1) hx hb dX12_kindOf_62 (by decide) ?_
                refine lv_goto (tgt := 67) hx hb dX12_kindOf_63 (by decide) ?_
                refine lv_iand hx hb dX12_kindOf_67 ?_
                refine lv_istore_n (lv' := [(2, .int (ev1175 &&& 1)), (8, .int (f_1170 (((9 * t) + (wd * j1171)) + j1175))), (7, .int (nI j1175)), (6, .int ic1175), (5, .int ir1175), (4, .int (nI j1171)), (3, .int sh1175), (0, .ref (ad 0)), (1, .int (nI t))]) hx hb dX12_kindOf_68 rfl hl (by decide) rfl (fun ls hl => ?_)
                refine lv_iload_n hx hb dX12_kindOf_69 rfl (lv_at hl 6 rfl) ?_
                refine lv_iload hx hb dX12_kindOf_70 (lv_at hl 1 rfl) ?_
                refine lv_if_eq (tgt := 81) hx hb dX12_kindOf_72 (by decide) (fun c_1186 => ?_) (fun c_1186 => ?_)
                · refine lv_iconst (v := 1) hx hb dX12_kindOf_81 (by decide) ?_
                  refine lv_goto (tgt := 86) hx hb dX12_kindOf_82 (by decide) ?_
                  refine lv_iand hx hb dX12_kindOf_86 ?_
                  refine lv_istore_n (lv' := [(3, .int (sh1175 &&& 1)), (2, .int (ev1175 &&& 1)), (8, .int (f_1170 (((9 * t) + (wd * j1171)) + j1175))), (7, .int (nI j1175)), (6, .int ic1175), (5, .int ir1175), (4, .int (nI j1171)), (0, .ref (ad 0)), (1, .int (nI t))]) hx hb dX12_kindOf_87 rfl hl (by decide) rfl (fun ls hl => ?_)
                  refine lv_iload hx hb dX12_kindOf_88 (lv_at hl 5 rfl) ?_
                  refine lv_iload hx hb dX12_kindOf_90 (lv_at hl 2 rfl) ?_
                  refine lv_iadd hx hb dX12_kindOf_92 ?_
                  refine lv_istore (lv' := [(5, .int (ir1175 + (f_1170 (((9 * t) + (wd * j1171)) + j1175)))), (3, .int (sh1175 &&& 1)), (2, .int (ev1175 &&& 1)), (8, .int (f_1170 (((9 * t) + (wd * j1171)) + j1175))), (7, .int (nI j1175)), (6, .int ic1175), (4, .int (nI j1171)), (0, .ref (ad 0)), (1, .int (nI t))]) hx hb dX12_kindOf_93 hl (by decide) rfl (fun ls hl => ?_)
                  refine lv_iload hx hb dX12_kindOf_95 (lv_at hl 5 rfl) ?_
                  refine lv_aload_n hx hb dX12_kindOf_97 rfl (lv_at hl 7 rfl) ?_
                  refine hp_get hx hb hts ix12 hown hK hh (q := 0) rfl (hI.1 _ (by decide)) es1169 rfl 5 (by decide) (hts _ tw_884) (fun _ h9 => h9) rfl dX12_kindOf_98 ?_
                  refine lv_bipush (v := 9) hx hb dX12_kindOf_101 (by decide) ?_
                  refine lv_iload_n hx hb dX12_kindOf_103 rfl (lv_at hl 8 rfl) ?_
                  refine lv_imul hx hb dX12_kindOf_104 ?_
                  rw [show (9 : Int32) = nI 9 from rfl, pk_mul 9 t]
                  refine lv_aload_n hx hb dX12_kindOf_105 rfl (lv_at hl 7 rfl) ?_
                  refine hp_get hx hb hts ix12 hown hK hh (q := 0) rfl (hI.1 _ (by decide)) es1169 rfl 2 (by decide) (hts _ tw_881) (fun _ h9 => h9) rfl dX12_kindOf_106 ?_
                  refine lv_iload hx hb dX12_kindOf_109 (lv_at hl 4 rfl) ?_
                  refine lv_imul hx hb dX12_kindOf_111 ?_
                  rw [pk_mul wd j1175]
                  refine lv_iadd hx hb dX12_kindOf_112 ?_
                  rw [nI_add (9 * t) (wd * j1175)]
                  refine lv_iload hx hb dX12_kindOf_113 (lv_at hl 6 rfl) ?_
                  refine lv_iadd hx hb dX12_kindOf_115 ?_
                  rw [nI_add ((9 * t) + (wd * j1175)) j1171]
                  have hi_1187 : wd * j1175 + j1171 < 9 := mdr (by omega) (by omega) (by omega)
                  refine hp_iald hx hb hK hh (q := 1) rfl (hI.1 _ (by decide)) es1170 (vp_in_nI (n := (((9 * t) + (wd * j1175)) + j1171)) (by omega) (by decide)) dX12_kindOf_116 ?_
                  rw [nI_clamp (n := (((9 * t) + (wd * j1175)) + j1171)) (by omega)]
                  refine lv_iadd hx hb dX12_kindOf_117 ?_
                  refine lv_istore (lv' := [(6, .int (ic1175 + (f_1170 (((9 * t) + (wd * j1175)) + j1171)))), (5, .int (ir1175 + (f_1170 (((9 * t) + (wd * j1171)) + j1175)))), (3, .int (sh1175 &&& 1)), (2, .int (ev1175 &&& 1)), (8, .int (f_1170 (((9 * t) + (wd * j1171)) + j1175))), (7, .int (nI j1175)), (4, .int (nI j1171)), (0, .ref (ad 0)), (1, .int (nI t))]) hx hb dX12_kindOf_118 hl (by decide) rfl (fun ls hl => ?_)
                  refine lv_iinc (v := (nI (j1175 + 1))) (lv' := [(7, .int (nI (j1175 + 1))), (6, .int (ic1175 + (f_1170 (((9 * t) + (wd * j1175)) + j1171)))), (5, .int (ir1175 + (f_1170 (((9 * t) + (wd * j1171)) + j1175)))), (3, .int (sh1175 &&& 1)), (2, .int (ev1175 &&& 1)), (8, .int (f_1170 (((9 * t) + (wd * j1171)) + j1175))), (4, .int (nI j1171)), (0, .ref (ad 0)), (1, .int (nI t))]) hx hb dX12_kindOf_120 hl (k := 5) rfl (nI_1 _) (by decide) rfl (fun ls hl => ?_)
                  refine lv_goto (tgt := 25) hx hb dX12_kindOf_123 (by decide) ?_
                  exact ih_1175 ((j1175 + 1)) (ev1175 &&& 1) (sh1175 &&& 1) (ir1175 + (f_1170 (((9 * t) + (wd * j1171)) + j1175))) (ic1175 + (f_1170 (((9 * t) + (wd * j1175)) + j1171))) ls H locs (by omega) (by omega) (by omega)  (lv_sub hl [0, 1, 2, 6, 3, 4, 7, 8] rfl) hh
                · refine lv_iload hx hb dX12_kindOf_75 (lv_at hl 1 rfl) ?_
                  refine lv_iconst (v := 1) hx hb dX12_kindOf_77 (by decide) ?_
                  refine lv_icmp_ne (tgt := 85) hx hb dX12_kindOf_78 (by decide) (fun c_1188 => ?_) (fun c_1188 => ?_)
                  · refine lv_iconst (v := 0) hx hb dX12_kindOf_85 (by decide) ?_
                    refine lv_iand hx hb dX12_kindOf_86 ?_
                    refine lv_istore_n (lv' := [(3, .int (sh1175 &&& 0)), (2, .int (ev1175 &&& 1)), (8, .int (f_1170 (((9 * t) + (wd * j1171)) + j1175))), (7, .int (nI j1175)), (6, .int ic1175), (5, .int ir1175), (4, .int (nI j1171)), (0, .ref (ad 0)), (1, .int (nI t))]) hx hb dX12_kindOf_87 rfl hl (by decide) rfl (fun ls hl => ?_)
                    refine lv_iload hx hb dX12_kindOf_88 (lv_at hl 5 rfl) ?_
                    refine lv_iload hx hb dX12_kindOf_90 (lv_at hl 2 rfl) ?_
                    refine lv_iadd hx hb dX12_kindOf_92 ?_
                    refine lv_istore (lv' := [(5, .int (ir1175 + (f_1170 (((9 * t) + (wd * j1171)) + j1175)))), (3, .int (sh1175 &&& 0)), (2, .int (ev1175 &&& 1)), (8, .int (f_1170 (((9 * t) + (wd * j1171)) + j1175))), (7, .int (nI j1175)), (6, .int ic1175), (4, .int (nI j1171)), (0, .ref (ad 0)), (1, .int (nI t))]) hx hb dX12_kindOf_93 hl (by decide) rfl (fun ls hl => ?_)
                    refine lv_iload hx hb dX12_kindOf_95 (lv_at hl 5 rfl) ?_
                    refine lv_aload_n hx hb dX12_kindOf_97 rfl (lv_at hl 7 rfl) ?_
                    refine hp_get hx hb hts ix12 hown hK hh (q := 0) rfl (hI.1 _ (by decide)) es1169 rfl 5 (by decide) (hts _ tw_884) (fun _ h9 => h9) rfl dX12_kindOf_98 ?_
                    refine lv_bipush (v := 9) hx hb dX12_kindOf_101 (by decide) ?_
                    refine lv_iload_n hx hb dX12_kindOf_103 rfl (lv_at hl 8 rfl) ?_
                    refine lv_imul hx hb dX12_kindOf_104 ?_
                    rw [show (9 : Int32) = nI 9 from rfl, pk_mul 9 t]
                    refine lv_aload_n hx hb dX12_kindOf_105 rfl (lv_at hl 7 rfl) ?_
                    refine hp_get hx hb hts ix12 hown hK hh (q := 0) rfl (hI.1 _ (by decide)) es1169 rfl 2 (by decide) (hts _ tw_881) (fun _ h9 => h9) rfl dX12_kindOf_106 ?_
                    refine lv_iload hx hb dX12_kindOf_109 (lv_at hl 4 rfl) ?_
                    refine lv_imul hx hb dX12_kindOf_111 ?_
                    rw [pk_mul wd j1175]
                    refine lv_iadd hx hb dX12_kindOf_112 ?_
                    rw [nI_add (9 * t) (wd * j1175)]
                    refine lv_iload hx hb dX12_kindOf_113 (lv_at hl 6 rfl) ?_
                    refine lv_iadd hx hb dX12_kindOf_115 ?_
                    rw [nI_add ((9 * t) + (wd * j1175)) j1171]
                    have hi_1189 : wd * j1175 + j1171 < 9 := mdr (by omega) (by omega) (by omega)
                    refine hp_iald hx hb hK hh (q := 1) rfl (hI.1 _ (by decide)) es1170 (vp_in_nI (n := (((9 * t) + (wd * j1175)) + j1171)) (by omega) (by decide)) dX12_kindOf_116 ?_
                    rw [nI_clamp (n := (((9 * t) + (wd * j1175)) + j1171)) (by omega)]
                    refine lv_iadd hx hb dX12_kindOf_117 ?_
                    refine lv_istore (lv' := [(6, .int (ic1175 + (f_1170 (((9 * t) + (wd * j1175)) + j1171)))), (5, .int (ir1175 + (f_1170 (((9 * t) + (wd * j1171)) + j1175)))), (3, .int (sh1175 &&& 0)), (2, .int (ev1175 &&& 1)), (8, .int (f_1170 (((9 * t) + (wd * j1171)) + j1175))), (7, .int (nI j1175)), (4, .int (nI j1171)), (0, .ref (ad 0)), (1, .int (nI t))]) hx hb dX12_kindOf_118 hl (by decide) rfl (fun ls hl => ?_)
                    refine lv_iinc (v := (nI (j1175 + 1))) (lv' := [(7, .int (nI (j1175 + 1))), (6, .int (ic1175 + (f_1170 (((9 * t) + (wd * j1175)) + j1171)))), (5, .int (ir1175 + (f_1170 (((9 * t) + (wd * j1171)) + j1175)))), (3, .int (sh1175 &&& 0)), (2, .int (ev1175 &&& 1)), (8, .int (f_1170 (((9 * t) + (wd * j1171)) + j1175))), (4, .int (nI j1171)), (0, .ref (ad 0)), (1, .int (nI t))]) hx hb dX12_kindOf_120 hl (k := 5) rfl (nI_1 _) (by decide) rfl (fun ls hl => ?_)
                    refine lv_goto (tgt := 25) hx hb dX12_kindOf_123 (by decide) ?_
                    exact ih_1175 ((j1175 + 1)) (ev1175 &&& 1) (sh1175 &&& 0) (ir1175 + (f_1170 (((9 * t) + (wd * j1171)) + j1175))) (ic1175 + (f_1170 (((9 * t) + (wd * j1175)) + j1171))) ls H locs (by omega) (by omega) (by omega)  (lv_sub hl [0, 1, 2, 6, 3, 4, 7, 8] rfl) hh
                  · refine lv_iconst (v := 1) hx hb dX12_kindOf_81 (by decide) ?_
                    refine lv_goto (tgt := 86) hx hb dX12_kindOf_82 (by decide) ?_
                    refine lv_iand hx hb dX12_kindOf_86 ?_
                    refine lv_istore_n (lv' := [(3, .int (sh1175 &&& 1)), (2, .int (ev1175 &&& 1)), (8, .int (f_1170 (((9 * t) + (wd * j1171)) + j1175))), (7, .int (nI j1175)), (6, .int ic1175), (5, .int ir1175), (4, .int (nI j1171)), (0, .ref (ad 0)), (1, .int (nI t))]) hx hb dX12_kindOf_87 rfl hl (by decide) rfl (fun ls hl => ?_)
                    refine lv_iload hx hb dX12_kindOf_88 (lv_at hl 5 rfl) ?_
                    refine lv_iload hx hb dX12_kindOf_90 (lv_at hl 2 rfl) ?_
                    refine lv_iadd hx hb dX12_kindOf_92 ?_
                    refine lv_istore (lv' := [(5, .int (ir1175 + (f_1170 (((9 * t) + (wd * j1171)) + j1175)))), (3, .int (sh1175 &&& 1)), (2, .int (ev1175 &&& 1)), (8, .int (f_1170 (((9 * t) + (wd * j1171)) + j1175))), (7, .int (nI j1175)), (6, .int ic1175), (4, .int (nI j1171)), (0, .ref (ad 0)), (1, .int (nI t))]) hx hb dX12_kindOf_93 hl (by decide) rfl (fun ls hl => ?_)
                    refine lv_iload hx hb dX12_kindOf_95 (lv_at hl 5 rfl) ?_
                    refine lv_aload_n hx hb dX12_kindOf_97 rfl (lv_at hl 7 rfl) ?_
                    refine hp_get hx hb hts ix12 hown hK hh (q := 0) rfl (hI.1 _ (by decide)) es1169 rfl 5 (by decide) (hts _ tw_884) (fun _ h9 => h9) rfl dX12_kindOf_98 ?_
                    refine lv_bipush (v := 9) hx hb dX12_kindOf_101 (by decide) ?_
                    refine lv_iload_n hx hb dX12_kindOf_103 rfl (lv_at hl 8 rfl) ?_
                    refine lv_imul hx hb dX12_kindOf_104 ?_
                    rw [show (9 : Int32) = nI 9 from rfl, pk_mul 9 t]
                    refine lv_aload_n hx hb dX12_kindOf_105 rfl (lv_at hl 7 rfl) ?_
                    refine hp_get hx hb hts ix12 hown hK hh (q := 0) rfl (hI.1 _ (by decide)) es1169 rfl 2 (by decide) (hts _ tw_881) (fun _ h9 => h9) rfl dX12_kindOf_106 ?_
                    refine lv_iload hx hb dX12_kindOf_109 (lv_at hl 4 rfl) ?_
                    refine lv_imul hx hb dX12_kindOf_111 ?_
                    rw [pk_mul wd j1175]
                    refine lv_iadd hx hb dX12_kindOf_112 ?_
                    rw [nI_add (9 * t) (wd * j1175)]
                    refine lv_iload hx hb dX12_kindOf_113 (lv_at hl 6 rfl) ?_
                    refine lv_iadd hx hb dX12_kindOf_115 ?_
                    rw [nI_add ((9 * t) + (wd * j1175)) j1171]
                    have hi_1190 : wd * j1175 + j1171 < 9 := mdr (by omega) (by omega) (by omega)
                    refine hp_iald hx hb hK hh (q := 1) rfl (hI.1 _ (by decide)) es1170 (vp_in_nI (n := (((9 * t) + (wd * j1175)) + j1171)) (by omega) (by decide)) dX12_kindOf_116 ?_
                    rw [nI_clamp (n := (((9 * t) + (wd * j1175)) + j1171)) (by omega)]
                    refine lv_iadd hx hb dX12_kindOf_117 ?_
                    refine lv_istore (lv' := [(6, .int (ic1175 + (f_1170 (((9 * t) + (wd * j1175)) + j1171)))), (5, .int (ir1175 + (f_1170 (((9 * t) + (wd * j1171)) + j1175)))), (3, .int (sh1175 &&& 1)), (2, .int (ev1175 &&& 1)), (8, .int (f_1170 (((9 * t) + (wd * j1171)) + j1175))), (7, .int (nI j1175)), (4, .int (nI j1171)), (0, .ref (ad 0)), (1, .int (nI t))]) hx hb dX12_kindOf_118 hl (by decide) rfl (fun ls hl => ?_)
                    refine lv_iinc (v := (nI (j1175 + 1))) (lv' := [(7, .int (nI (j1175 + 1))), (6, .int (ic1175 + (f_1170 (((9 * t) + (wd * j1175)) + j1171)))), (5, .int (ir1175 + (f_1170 (((9 * t) + (wd * j1171)) + j1175)))), (3, .int (sh1175 &&& 1)), (2, .int (ev1175 &&& 1)), (8, .int (f_1170 (((9 * t) + (wd * j1171)) + j1175))), (4, .int (nI j1171)), (0, .ref (ad 0)), (1, .int (nI t))]) hx hb dX12_kindOf_120 hl (k := 5) rfl (nI_1 _) (by decide) rfl (fun ls hl => ?_)
                    refine lv_goto (tgt := 25) hx hb dX12_kindOf_123 (by decide) ?_
                    exact ih_1175 ((j1175 + 1)) (ev1175 &&& 1) (sh1175 &&& 1) (ir1175 + (f_1170 (((9 * t) + (wd * j1171)) + j1175))) (ic1175 + (f_1170 (((9 * t) + (wd * j1175)) + j1171))) ls H locs (by omega) (by omega) (by omega)  (lv_sub hl [0, 1, 2, 6, 3, 4, 7, 8] rfl) hh
        exact loop_1175 (wd + 1) 0 ev1171 sh1171 0 0 ls _ _ (Nat.le_refl _) (by omega) (by omega)  (lv_sub hl [0, 1, 2, 3, 4, 5, 6, 7] rfl) hh
  exact loop_1171 (wd + 1) 0 1 1 ls _ _ (Nat.le_refl _) (by omega) (by omega)  (lv_sub hl [0, 1, 2, 3, 4] rfl) hh
theorem kw_X12_kindOf {R : Room} {s : State} {args : Array Value} {own : String} {idx : Nat} (hts : ∀ w ∈ TB, w.before args s = true) (hl : Cond.methodLink own idx yX12_kindOf ∈ TB) (hR : 0 + 1 ≤ R.frames ∧ 8 + (9 + 11) + 40 * 0 ≤ R.locals) : CallW R s args own RX12 idx yX12_kindOf cX12_kindOf 9 (some .int) (Cond.code yX12_kindOf cX12_kindOf 9 (some .int) :: TB) (rmN 0) 0 0 1 := cwV 1 hts (TB_V hl tw_1225 ts_61 tw_9 tw_1226) rfl rfl rfl (by decide +kernel) hR
set_option maxHeartbeats 4000000 in
set_option maxRecDepth 100000 in
/-- trackOf -/
theorem c_X12_trackOf (l : Launch) (D : va_G) (cy : Nat → ClassId) (sz : Nat) (cs : List Nat) (ad : Nat → Nat) (en : Nat → va_E) (hI : RX cy cs ad en) (t : Nat) (ht6 : t < 6)   : Met l yX12_trackOf (Cond.code yX12_trackOf cX12_trackOf 4 (some .int) :: TB) (rmN 0) (va_Pc [.ref (ad 0), .int (nI t)] (Pre D cy cs ad en sz)) (va_Qi (S := Unit) (fun _ _ => True) (fun _ _ => True) (Nf sz)) 0 0 (Nf sz) := by
  refine Met.ofW (cc := cX12_trackOf) (maxL := 4) (ret := (some .int)) (by decide) rfl ?_
  intro p e s m args below meth c s₁ B hml hv
  obtain ⟨rfl, hsz, hP, hK, hD0⟩ := hv
  have hx := B.exec
  have hb := B.bytes
  have hr := B.returns
  have hts : ∀ w ∈ TB, w.before _ s = true := fun w h => atoms_spec (ws := _ :: TB) B.pre w (List.mem_cons_of_mem _ h)
  have hown : s.vm.findClass RX12 = some m.cls := findClass_of_methodNamed B.named
  have hlocks := B.notSynchronized
  have hh : Hp D (Nf sz) (fun _ => True) s.heap s.heap [] cs ad en := ⟨hP, hD0, va_S.rf⟩
  have hA : ∀ q : Nat, s.heap.size ≤ q → Nf sz q := fun q h => by rw [hsz] at h; exact h
  have hl := lv_entry ([.ref (ad 0), .int (nI t)]) (n := 4) (Nat.le_of_ble_eq_true rfl)
  rw [lg_entry_eq]
  generalize (lg_sl ([.ref (ad 0), .int (nI t)]) ++ List.replicate (4 - (lg_sl ([.ref (ad 0), .int (nI t)])).length) Slot.unset).toArray = ls at hl ⊢
  have hl : lv_has ls 4 [(0, .ref (ad 0)), (1, .int (nI t))] := hl
  obtain ⟨fa, hi, wd, mo, tb, dp, many, grt, lst, nou, rm, rb, pr, wo, es1191, hwd2, hwd3, hmo, htb, hwo⟩ := getr_M hI
  obtain ⟨f_1192, es1192⟩ := getr_E hI
  refine lv_iconst (v := 0) hx hb dX12_trackOf_0 (by decide) ?_
  refine lv_istore_n (lv' := [(2, .int 0), (0, .ref (ad 0)), (1, .int (nI t))]) hx hb dX12_trackOf_1 rfl hl (by decide) rfl (fun ls hl => ?_)
  refine lv_iconst (v := 0) hx hb dX12_trackOf_2 (by decide) ?_
  refine lv_istore_n (lv' := [(3, .int 0), (2, .int 0), (0, .ref (ad 0)), (1, .int (nI t))]) hx hb dX12_trackOf_3 rfl hl (by decide) rfl (fun ls hl => ?_)
  have loop_1193 : ∀ (fu j1193 : Nat) (ac1193 : Int32)  (ls : Array Slot) (H : Heap) (locs : List Loc), 0 ≤ j1193 → j1193 ≤ wd → wd < j1193 + fu →   lv_has ls 4 [(3, .int (nI j1193)), (2, .int ac1193), (0, .ref (ad 0)), (1, .int (nI t))] → Hp D (Nf sz) (fun _ => True) s.heap H locs cs ad en → W p l e (headSpec (Cond.code yX12_trackOf cX12_trackOf 4 (some .int) :: TB) (rmN 0)).room s m ([.ref (ad 0), .int (nI t)] : List Value).toArray below meth c H locs 0 0 (MQ below (va_Qi (S := Unit) (fun _ _ => True) (fun _ _ => True) (Nf sz)) ([.ref (ad 0), .int (nI t)] : List Value).toArray s 0 0 (Nf sz)) (F0 m 4 ls []) := by
    intro fu
    induction fu with
    | zero => intro j1193 ac1193 ls H locs h0 h1 h2; exact absurd h2 (by omega)
    | succ fu ih_1193 =>
      intro j1193 ac1193 ls H locs hj0_1193 hj_1193 hfu_1193  hl hh
      refine lv_iload_n hx hb dX12_trackOf_4 rfl (lv_at hl 0 rfl) ?_
      refine lv_aload_n hx hb dX12_trackOf_5 rfl (lv_at hl 2 rfl) ?_
      refine hp_get hx hb hts ix12 hown hK hh (q := 0) rfl (hI.1 _ (by decide)) es1191 rfl 2 (by decide) (hts _ tw_881) (fun _ h9 => h9) rfl dX12_trackOf_6 ?_
      refine lv_icmp_ge (tgt := 39) hx hb dX12_trackOf_9 (by decide) (fun c_1194 => ?_) (fun c_1194 => ?_)
      · have n_1194 : wd ≤ j1193 := n_le (a := wd) (b := j1193) c_1194 (by omega) (by omega)
        refine lv_iload_n hx hb dX12_trackOf_39 rfl (lv_at hl 1 rfl) ?_
        exact hp_iretR hx hb hr rfl hlocks hsz hh (trivial) dX12_trackOf_40
      · have n_1194 : j1193 < wd := n_nle (a := wd) (b := j1193) c_1194 (by omega) (by omega)
        refine lv_iload_n hx hb dX12_trackOf_12 rfl (lv_at hl 1 rfl) ?_
        refine lv_aload_n hx hb dX12_trackOf_13 rfl (lv_at hl 2 rfl) ?_
        refine hp_get hx hb hts ix12 hown hK hh (q := 0) rfl (hI.1 _ (by decide)) es1191 rfl 5 (by decide) (hts _ tw_884) (fun _ h9 => h9) rfl dX12_trackOf_14 ?_
        refine lv_bipush (v := 9) hx hb dX12_trackOf_17 (by decide) ?_
        refine lv_iload_n hx hb dX12_trackOf_19 rfl (lv_at hl 3 rfl) ?_
        refine lv_imul hx hb dX12_trackOf_20 ?_
        rw [show (9 : Int32) = nI 9 from rfl, pk_mul 9 t]
        refine lv_aload_n hx hb dX12_trackOf_21 rfl (lv_at hl 2 rfl) ?_
        refine hp_get hx hb hts ix12 hown hK hh (q := 0) rfl (hI.1 _ (by decide)) es1191 rfl 2 (by decide) (hts _ tw_881) (fun _ h9 => h9) rfl dX12_trackOf_22 ?_
        refine lv_iload_n hx hb dX12_trackOf_25 rfl (lv_at hl 0 rfl) ?_
        refine lv_imul hx hb dX12_trackOf_26 ?_
        rw [pk_mul wd j1193]
        refine lv_iadd hx hb dX12_trackOf_27 ?_
        rw [nI_add (9 * t) (wd * j1193)]
        refine lv_iload_n hx hb dX12_trackOf_28 rfl (lv_at hl 0 rfl) ?_
        refine lv_iadd hx hb dX12_trackOf_29 ?_
        rw [nI_add ((9 * t) + (wd * j1193)) j1193]
        have hi_1195 : wd * j1193 + j1193 < 9 := mdr (by omega) (by omega) (by omega)
        refine hp_iald hx hb hK hh (q := 1) rfl (hI.1 _ (by decide)) es1192 (vp_in_nI (n := (((9 * t) + (wd * j1193)) + j1193)) (by omega) (by decide)) dX12_trackOf_30 ?_
        rw [nI_clamp (n := (((9 * t) + (wd * j1193)) + j1193)) (by omega)]
        refine lv_iadd hx hb dX12_trackOf_31 ?_
        refine lv_istore_n (lv' := [(2, .int (ac1193 + (f_1192 (((9 * t) + (wd * j1193)) + j1193)))), (3, .int (nI j1193)), (0, .ref (ad 0)), (1, .int (nI t))]) hx hb dX12_trackOf_32 rfl hl (by decide) rfl (fun ls hl => ?_)
        refine lv_iinc (v := (nI (j1193 + 1))) (lv' := [(3, .int (nI (j1193 + 1))), (2, .int (ac1193 + (f_1192 (((9 * t) + (wd * j1193)) + j1193)))), (0, .ref (ad 0)), (1, .int (nI t))]) hx hb dX12_trackOf_33 hl (k := 1) rfl (nI_1 _) (by decide) rfl (fun ls hl => ?_)
        refine lv_goto (tgt := 4) hx hb dX12_trackOf_36 (by decide) ?_
        exact ih_1193 ((j1193 + 1)) (ac1193 + (f_1192 (((9 * t) + (wd * j1193)) + j1193))) ls H locs (by omega) (by omega) (by omega)  (lv_sub hl [0, 1, 2, 3] rfl) hh
  exact loop_1193 (wd + 1) 0 0 ls _ _ (Nat.le_refl _) (by omega) (by omega)  (lv_sub hl [0, 1, 2, 3] rfl) hh
theorem kw_X12_trackOf {R : Room} {s : State} {args : Array Value} {own : String} {idx : Nat} (hts : ∀ w ∈ TB, w.before args s = true) (hl : Cond.methodLink own idx yX12_trackOf ∈ TB) (hR : 0 + 1 ≤ R.frames ∧ 8 + (4 + 11) + 40 * 0 ≤ R.locals) : CallW R s args own RX12 idx yX12_trackOf cX12_trackOf 4 (some .int) (Cond.code yX12_trackOf cX12_trackOf 4 (some .int) :: TB) (rmN 0) 0 0 1 := cwV 1 hts (TB_V hl tw_1233 ts_63 tw_9 tw_1234) rfl rfl rfl (by decide +kernel) hR
set_option maxHeartbeats 4000000 in
set_option maxRecDepth 100000 in
/-- greatestOf -/
theorem c_X12_greatestOf (l : Launch) (D : va_G) (cy : Nat → ClassId) (sz : Nat) (cs : List Nat) (ad : Nat → Nat) (en : Nat → va_E) (hI : RX cy cs ad en) (t : Nat) (ht6 : t < 6)   : Met l yX12_greatestOf (Cond.code yX12_greatestOf cX12_greatestOf 4 (some .int) :: TB) (rmN 0) (va_Pc [.ref (ad 0), .int (nI t)] (Pre D cy cs ad en sz)) (va_Qi (S := Unit) (fun _ _ => True) (fun _ _ => True) (Nf sz)) 0 0 (Nf sz) := by
  refine Met.ofW (cc := cX12_greatestOf) (maxL := 4) (ret := (some .int)) (by decide) rfl ?_
  intro p e s m args below meth c s₁ B hml hv
  obtain ⟨rfl, hsz, hP, hK, hD0⟩ := hv
  have hx := B.exec
  have hb := B.bytes
  have hr := B.returns
  have hts : ∀ w ∈ TB, w.before _ s = true := fun w h => atoms_spec (ws := _ :: TB) B.pre w (List.mem_cons_of_mem _ h)
  have hown : s.vm.findClass RX12 = some m.cls := findClass_of_methodNamed B.named
  have hlocks := B.notSynchronized
  have hh : Hp D (Nf sz) (fun _ => True) s.heap s.heap [] cs ad en := ⟨hP, hD0, va_S.rf⟩
  have hA : ∀ q : Nat, s.heap.size ≤ q → Nf sz q := fun q h => by rw [hsz] at h; exact h
  have hl := lv_entry ([.ref (ad 0), .int (nI t)]) (n := 4) (Nat.le_of_ble_eq_true rfl)
  rw [lg_entry_eq]
  generalize (lg_sl ([.ref (ad 0), .int (nI t)]) ++ List.replicate (4 - (lg_sl ([.ref (ad 0), .int (nI t)])).length) Slot.unset).toArray = ls at hl ⊢
  have hl : lv_has ls 4 [(0, .ref (ad 0)), (1, .int (nI t))] := hl
  obtain ⟨fa, hi, wd, mo, tb, dp, many, grt, lst, nou, rm, rb, pr, wo, es1196, hwd2, hwd3, hmo, htb, hwo⟩ := getr_M hI
  obtain ⟨f_1197, es1197⟩ := getr_E hI
  have hww : wd * wd ≤ 9 := mww (by omega)
  refine lv_aload_n hx hb dX12_greatestOf_0 rfl (lv_at hl 0 rfl) ?_
  refine hp_get hx hb hts ix12 hown hK hh (q := 0) rfl (hI.1 _ (by decide)) es1196 rfl 5 (by decide) (hts _ tw_884) (fun _ h9 => h9) rfl dX12_greatestOf_1 ?_
  refine lv_bipush (v := 9) hx hb dX12_greatestOf_4 (by decide) ?_
  refine lv_iload_n hx hb dX12_greatestOf_6 rfl (lv_at hl 1 rfl) ?_
  refine lv_imul hx hb dX12_greatestOf_7 ?_
  rw [show (9 : Int32) = nI 9 from rfl, pk_mul 9 t]
  refine hp_iald hx hb hK hh (q := 1) rfl (hI.1 _ (by decide)) es1197 (vp_in_nI (n := (9 * t)) (by omega) (by decide)) dX12_greatestOf_8 ?_
  rw [nI_clamp (n := (9 * t)) (by omega)]
  refine lv_istore_n (lv' := [(2, .int (f_1197 (9 * t))), (0, .ref (ad 0)), (1, .int (nI t))]) hx hb dX12_greatestOf_9 rfl hl (by decide) rfl (fun ls hl => ?_)
  refine lv_iconst (v := 0) hx hb dX12_greatestOf_10 (by decide) ?_
  refine lv_istore_n (lv' := [(3, .int 0), (2, .int (f_1197 (9 * t))), (0, .ref (ad 0)), (1, .int (nI t))]) hx hb dX12_greatestOf_11 rfl hl (by decide) rfl (fun ls hl => ?_)
  have loop_1198 : ∀ (fu j1198 : Nat) (mx1198 : Int32)  (ls : Array Slot) (H : Heap) (locs : List Loc), 0 ≤ j1198 → j1198 ≤ (wd * wd) → (wd * wd) < j1198 + fu →   lv_has ls 4 [(3, .int (nI j1198)), (2, .int mx1198), (0, .ref (ad 0)), (1, .int (nI t))] → Hp D (Nf sz) (fun _ => True) s.heap H locs cs ad en → W p l e (headSpec (Cond.code yX12_greatestOf cX12_greatestOf 4 (some .int) :: TB) (rmN 0)).room s m ([.ref (ad 0), .int (nI t)] : List Value).toArray below meth c H locs 0 0 (MQ below (va_Qi (S := Unit) (fun _ _ => True) (fun _ _ => True) (Nf sz)) ([.ref (ad 0), .int (nI t)] : List Value).toArray s 0 0 (Nf sz)) (F0 m 12 ls []) := by
    intro fu
    induction fu with
    | zero => intro j1198 mx1198 ls H locs h0 h1 h2; exact absurd h2 (by omega)
    | succ fu ih_1198 =>
      intro j1198 mx1198 ls H locs hj0_1198 hj_1198 hfu_1198  hl hh
      refine lv_iload_n hx hb dX12_greatestOf_12 rfl (lv_at hl 0 rfl) ?_
      refine lv_aload_n hx hb dX12_greatestOf_13 rfl (lv_at hl 2 rfl) ?_
      refine hp_get hx hb hts ix12 hown hK hh (q := 0) rfl (hI.1 _ (by decide)) es1196 rfl 2 (by decide) (hts _ tw_881) (fun _ h9 => h9) rfl dX12_greatestOf_14 ?_
      refine lv_aload_n hx hb dX12_greatestOf_17 rfl (lv_at hl 2 rfl) ?_
      refine hp_get hx hb hts ix12 hown hK hh (q := 0) rfl (hI.1 _ (by decide)) es1196 rfl 2 (by decide) (hts _ tw_881) (fun _ h9 => h9) rfl dX12_greatestOf_18 ?_
      refine lv_imul hx hb dX12_greatestOf_21 ?_
      rw [pk_mul wd wd]
      have hw2_1199 : wd * wd ≤ 9 := mww (by omega)
      refine lv_icmp_ge (tgt := 62) hx hb dX12_greatestOf_22 (by decide) (fun c_1200 => ?_) (fun c_1200 => ?_)
      · have n_1200 : (wd * wd) ≤ j1198 := n_le (a := (wd * wd)) (b := j1198) c_1200 (by omega) (by omega)
        refine lv_iload_n hx hb dX12_greatestOf_62 rfl (lv_at hl 1 rfl) ?_
        exact hp_iretR hx hb hr rfl hlocks hsz hh (trivial) dX12_greatestOf_63
      · have n_1200 : j1198 < (wd * wd) := n_nle (a := (wd * wd)) (b := j1198) c_1200 (by omega) (by omega)
        refine lv_aload_n hx hb dX12_greatestOf_25 rfl (lv_at hl 2 rfl) ?_
        refine hp_get hx hb hts ix12 hown hK hh (q := 0) rfl (hI.1 _ (by decide)) es1196 rfl 5 (by decide) (hts _ tw_884) (fun _ h9 => h9) rfl dX12_greatestOf_26 ?_
        refine lv_bipush (v := 9) hx hb dX12_greatestOf_29 (by decide) ?_
        refine lv_iload_n hx hb dX12_greatestOf_31 rfl (lv_at hl 3 rfl) ?_
        refine lv_imul hx hb dX12_greatestOf_32 ?_
        rw [show (9 : Int32) = nI 9 from rfl, pk_mul 9 t]
        refine lv_iload_n hx hb dX12_greatestOf_33 rfl (lv_at hl 0 rfl) ?_
        refine lv_iadd hx hb dX12_greatestOf_34 ?_
        rw [nI_add (9 * t) j1198]
        refine hp_iald hx hb hK hh (q := 1) rfl (hI.1 _ (by decide)) es1197 (vp_in_nI (n := ((9 * t) + j1198)) (by omega) (by decide)) dX12_greatestOf_35 ?_
        rw [nI_clamp (n := ((9 * t) + j1198)) (by omega)]
        refine lv_iload_n hx hb dX12_greatestOf_36 rfl (lv_at hl 1 rfl) ?_
        refine lv_icmp_le (tgt := 54) hx hb dX12_greatestOf_37 (by decide) (fun c_1201 => ?_) (fun c_1201 => ?_)
        · refine lv_iload_n hx hb dX12_greatestOf_54 rfl (lv_at hl 1 rfl) ?_
          refine lv_istore_n (lv' := [(2, .int mx1198), (3, .int (nI j1198)), (0, .ref (ad 0)), (1, .int (nI t))]) hx hb dX12_greatestOf_55 rfl hl (by decide) rfl (fun ls hl => ?_)
          refine lv_iinc (v := (nI (j1198 + 1))) (lv' := [(3, .int (nI (j1198 + 1))), (2, .int mx1198), (0, .ref (ad 0)), (1, .int (nI t))]) hx hb dX12_greatestOf_56 hl (k := 1) rfl (nI_1 _) (by decide) rfl (fun ls hl => ?_)
          refine lv_goto (tgt := 12) hx hb dX12_greatestOf_59 (by decide) ?_
          exact ih_1198 ((j1198 + 1)) mx1198 ls H locs (by omega) (by omega) (by omega)  (lv_sub hl [0, 1, 2, 3] rfl) hh
        · refine lv_aload_n hx hb dX12_greatestOf_40 rfl (lv_at hl 2 rfl) ?_
          refine hp_get hx hb hts ix12 hown hK hh (q := 0) rfl (hI.1 _ (by decide)) es1196 rfl 5 (by decide) (hts _ tw_884) (fun _ h9 => h9) rfl dX12_greatestOf_41 ?_
          refine lv_bipush (v := 9) hx hb dX12_greatestOf_44 (by decide) ?_
          refine lv_iload_n hx hb dX12_greatestOf_46 rfl (lv_at hl 3 rfl) ?_
          refine lv_imul hx hb dX12_greatestOf_47 ?_
          rw [show (9 : Int32) = nI 9 from rfl, pk_mul 9 t]
          refine lv_iload_n hx hb dX12_greatestOf_48 rfl (lv_at hl 0 rfl) ?_
          refine lv_iadd hx hb dX12_greatestOf_49 ?_
          rw [nI_add (9 * t) j1198]
          refine hp_iald hx hb hK hh (q := 1) rfl (hI.1 _ (by decide)) es1197 (vp_in_nI (n := ((9 * t) + j1198)) (by omega) (by decide)) dX12_greatestOf_50 ?_
          rw [nI_clamp (n := ((9 * t) + j1198)) (by omega)]
          refine lv_goto (tgt := 55) hx hb dX12_greatestOf_51 (by decide) ?_
          refine lv_istore_n (lv' := [(2, .int (f_1197 ((9 * t) + j1198))), (3, .int (nI j1198)), (0, .ref (ad 0)), (1, .int (nI t))]) hx hb dX12_greatestOf_55 rfl hl (by decide) rfl (fun ls hl => ?_)
          refine lv_iinc (v := (nI (j1198 + 1))) (lv' := [(3, .int (nI (j1198 + 1))), (2, .int (f_1197 ((9 * t) + j1198))), (0, .ref (ad 0)), (1, .int (nI t))]) hx hb dX12_greatestOf_56 hl (k := 1) rfl (nI_1 _) (by decide) rfl (fun ls hl => ?_)
          refine lv_goto (tgt := 12) hx hb dX12_greatestOf_59 (by decide) ?_
          exact ih_1198 ((j1198 + 1)) (f_1197 ((9 * t) + j1198)) ls H locs (by omega) (by omega) (by omega)  (lv_sub hl [0, 1, 2, 3] rfl) hh
  exact loop_1198 ((wd * wd) + 1) 0 (f_1197 (9 * t)) ls _ _ (Nat.le_refl _) (by omega) (by omega)  (lv_sub hl [0, 1, 2, 3] rfl) hh
theorem kw_X12_greatestOf {R : Room} {s : State} {args : Array Value} {own : String} {idx : Nat} (hts : ∀ w ∈ TB, w.before args s = true) (hl : Cond.methodLink own idx yX12_greatestOf ∈ TB) (hR : 0 + 1 ≤ R.frames ∧ 8 + (4 + 11) + 40 * 0 ≤ R.locals) : CallW R s args own RX12 idx yX12_greatestOf cX12_greatestOf 4 (some .int) (Cond.code yX12_greatestOf cX12_greatestOf 4 (some .int) :: TB) (rmN 0) 0 0 1 := cwV 1 hts (TB_V hl tw_1237 ts_64 tw_9 tw_1238) rfl rfl rfl (by decide +kernel) hR
set_option maxHeartbeats 4000000 in
set_option maxRecDepth 100000 in
/-- tell -/
theorem c_X12_tell (l : Launch) (D : va_G) (cy : Nat → ClassId) (sz : Nat) (cs : List Nat) (ad : Nat → Nat) (en : Nat → va_E) (hI : RX cy cs ad en) (t : Int32)   : Met l yX12_tell (Cond.code yX12_tell cX12_tell 3 (some .int) :: TB) (rmN 1) (va_Pc [.ref (ad 0), .int t] (Pre D cy cs ad en sz)) (va_Qi (S := Nat → va_E) (fun r en1 => RX cy cs ad en1 ∧ (∀ c, (c ≠ 0) → en1 c = en c) ∧ KPx en en1) (PostM D cs ad) (Af cs ad sz)) 0 0 (Af cs ad sz) := by
  refine Met.ofW (cc := cX12_tell) (maxL := 3) (ret := (some .int)) (by decide) rfl ?_
  intro p e s m args below meth c s₁ B hml hv
  obtain ⟨rfl, hsz, hP, hK, hD0⟩ := hv
  have hx := B.exec
  have hb := B.bytes
  have hr := B.returns
  have hts : ∀ w ∈ TB, w.before _ s = true := fun w h => atoms_spec (ws := _ :: TB) B.pre w (List.mem_cons_of_mem _ h)
  have hown : s.vm.findClass RX12 = some m.cls := findClass_of_methodNamed B.named
  have hlocks := B.notSynchronized
  have hh : Hp D (Af cs ad sz) (Af cs ad sz) s.heap s.heap [] cs ad en := ⟨hP, Af_self hD0, va_S.rf⟩
  have hA : ∀ q : Nat, s.heap.size ≤ q → Af cs ad sz q := fun q h => Or.inr (by rw [hsz] at h; exact h)
  have hl := lv_entry ([.ref (ad 0), .int t]) (n := 3) (Nat.le_of_ble_eq_true rfl)
  rw [lg_entry_eq]
  generalize (lg_sl ([.ref (ad 0), .int t]) ++ List.replicate (3 - (lg_sl ([.ref (ad 0), .int t])).length) Slot.unset).toArray = ls at hl ⊢
  have hl : lv_has ls 3 [(0, .ref (ad 0)), (1, .int t)] := hl
  have hf0 : ∀ c, (c ≠ 0) → en c = en c := fun _ _ => rfl
  obtain ⟨fa, hi, wd, mo, tb, dp, many, grt, lst, nou, rm, rb, pr, wo, es1202, hwd2, hwd3, hmo, htb, hwo⟩ := getr_M hI
  refine lv_aload_n hx hb dX12_tell_0 rfl (lv_at hl 0 rfl) ?_
  refine lv_iload_n hx hb dX12_tell_1 rfl (lv_at hl 1 rfl) ?_
  refine hp_callRi (va_runV (As := [.int t]) (rest := []) ⟨hx, hb, hml, hown, hts⟩ (c_X12_isTable l D cy _ cs ad en hI t ) (kw_X12_isTable hts tw_1007 ⟨by decide, by decide⟩) (preV_of hh hK (hI.1 _ (by decide)) es1202 rfl) rfl rfl hl.1 rfl (lv_room (Nat.le_of_ble_eq_true rfl)) dX12_tell_2 ⟨Nat.le_of_ble_eq_true rfl, Nat.le_of_ble_eq_true rfl⟩) hh hA (fun r_1203 H locs hw_1203 hh => ?_)
  rw [show rdI (en 0) 4 = (nI tb) from by rw [es1202]; rfl, nI_toInt (n := tb) (by omega)] at hw_1203
  rcases Decidable.em (0 ≤ t.toInt ∧ t.toInt < (tb : Int)) with hp_1203 | hp_1203
  · obtain rfl : r_1203 = 1 := Eq.trans hw_1203 (if_pos hp_1203)
    obtain ⟨T_1203, rfl, hT_1203⟩ := has_nat hp_1203
    refine lv_if_ne (tgt := 10) hx hb dX12_tell_5 (by decide) (fun _ => ?_) (fun c_0 => absurd c_0 (by decide))
    refine lv_aload_n hx hb dX12_tell_10 rfl (lv_at hl 0 rfl) ?_
    refine lv_iload_n hx hb dX12_tell_11 rfl (lv_at hl 1 rfl) ?_
    refine hp_callRi (va_runV (As := [.int (nI T_1203)]) (rest := []) ⟨hx, hb, hml, hown, hts⟩ (c_X12_kindOf l D cy _ cs ad en hI T_1203 (by omega)) (kw_X12_kindOf hts tw_1223 ⟨by decide, by decide⟩) (preV_of hh hK (hI.1 _ (by decide)) es1202 rfl) rfl rfl hl.1 rfl (lv_room (Nat.le_of_ble_eq_true rfl)) dX12_tell_12 ⟨Nat.le_of_ble_eq_true rfl, Nat.le_of_ble_eq_true rfl⟩) hh hA (fun r_1204 H locs hw_1204 hh => ?_)
    rcases hw_1204 with hb_1204 | hb_1204 | hb_1204
    · obtain rfl : r_1204 = 0 := hb_1204
      refine lv_istore_n (lv' := [(2, .int 0), (0, .ref (ad 0)), (1, .int (nI T_1203))]) hx hb dX12_tell_15 rfl hl (by decide) rfl (fun ls hl => ?_)
      refine lv_iload_n hx hb dX12_tell_16 rfl (lv_at hl 0 rfl) ?_
      refine lv_iconst (v := 2) hx hb dX12_tell_17 (by decide) ?_
      refine lv_icmp_ne (tgt := 26) hx hb dX12_tell_18 (by decide) (fun _ => ?_) (fun c_0 => absurd c_0 (by decide))
      refine lv_iload_n hx hb dX12_tell_26 rfl (lv_at hl 0 rfl) ?_
      refine lv_if_le (tgt := 35) hx hb dX12_tell_27 (by decide) (fun _ => ?_) (fun c_0 => absurd c_0 (by decide))
      refine lv_aload_n hx hb dX12_tell_35 rfl (lv_at hl 1 rfl) ?_
      refine lv_iconst (v := 1) hx hb dX12_tell_36 (by decide) ?_
      refine hp_callMv (va_runV (As := [.int 1]) (rest := []) ⟨hx, hb, hml, hown, hts⟩ (c_X12_begins l D cy _ cs ad en (hI.1 _ (by decide)) fa hi wd mo tb dp many grt lst nou rm rb pr wo 1 es1202) (kw_X12_begins hts tw_1227 ⟨by decide, by decide⟩) (preV_of hh hK (hI.1 _ (by decide)) es1202 rfl) rfl rfl hl.1 rfl (lv_room (Nat.le_of_ble_eq_true rfl)) dX12_tell_37 ⟨Nat.le_of_ble_eq_true rfl, Nat.le_of_ble_eq_true rfl⟩) hh hA (fun H locs en_1205 hw_1205 hh => ?_)
      have hen_1205 := hw_1205
      have es1202_1205 : en_1205 0 = .inr (11, [.int fa, .int (31 * hi + 1), .int (nI wd), .int (nI mo), .int (nI tb), .ref (ad 1), .ref (ad 2), .ref (ad 3), .ref (ad 4), .ref (ad 5), .ref (ad 6), .ref (ad 7), .ref (ad 8), .ref (ad 9), .int dp, .long many, .long grt, .long lst, .long nou, .ref (ad 10), .ref (ad 11), .ref (ad 12), .int rm, .long rb, .ref (ad 13), .int pr, .ref (ad 14), .ref (ad 15), .ref (ad 16), .ref (ad 17), .int (nI wo), .ref (ad 18), .ref (ad 19)]) := by rw [hen_1205]; exact va_up_self _ _ _
      have hI_1205 : RX cy cs ad en_1205 := by rw [hen_1205]; exact upr_M hI ⟨fa, (31 * hi + 1), wd, mo, tb, dp, many, grt, lst, nou, rm, rb, pr, wo, rfl, hwd2, hwd3, hmo, htb, hwo⟩
      have hf_1205 : ∀ c, (c ≠ 0) → en_1205 c = en c := fun c hc => Eq.trans (show en_1205 c = en c from by rw [hen_1205, va_up_ne _ _ (by omega)]) (hf0 c hc)
      have hkp_1205 : KPx en en_1205 := KPx_fv (KPx_rf en) es1202 es1202_1205 (nI wd) (nI mo) (nI tb) pr (nI wo) rfl rfl rfl rfl rfl rfl rfl rfl rfl rfl
      refine lv_iload_n hx hb dX12_tell_40 rfl (lv_at hl 0 rfl) ?_
      refine lv_iconst (v := 2) hx hb dX12_tell_41 (by decide) ?_
      refine lv_icmp_ne (tgt := 50) hx hb dX12_tell_42 (by decide) (fun _ => ?_) (fun c_0 => absurd c_0 (by decide))
      refine lv_iload_n hx hb dX12_tell_50 rfl (lv_at hl 0 rfl) ?_
      refine lv_if_ne (tgt := 62) hx hb dX12_tell_51 (by decide) (fun c_0 => absurd c_0 (by decide)) (fun _ => ?_)
      refine lv_aload_n hx hb dX12_tell_54 rfl (lv_at hl 1 rfl) ?_
      refine lv_iload_n hx hb dX12_tell_55 rfl (lv_at hl 2 rfl) ?_
      refine hp_callRi (va_runV (As := [.int (nI T_1203)]) (rest := []) ⟨hx, hb, hml, hown, hts⟩ (c_X12_trackOf l D cy _ cs ad en_1205 hI_1205 T_1203 (by omega)) (kw_X12_trackOf hts tw_1231 ⟨by decide, by decide⟩) (preV_of hh hK (hI.1 _ (by decide)) es1202_1205 rfl) rfl rfl hl.1 rfl (lv_room (Nat.le_of_ble_eq_true rfl)) dX12_tell_56 ⟨Nat.le_of_ble_eq_true rfl, Nat.le_of_ble_eq_true rfl⟩) hh hA (fun r_1206 H locs hw_1206 hh => ?_)
      refine lv_goto (tgt := 94) hx hb dX12_tell_59 (by decide) ?_
      exact hp_iretM hx hb hr rfl hlocks hh (⟨hI_1205, hf_1205, hkp_1205⟩) dX12_tell_94
    · obtain rfl : r_1204 = 1 := hb_1204
      refine lv_istore_n (lv' := [(2, .int 1), (0, .ref (ad 0)), (1, .int (nI T_1203))]) hx hb dX12_tell_15 rfl hl (by decide) rfl (fun ls hl => ?_)
      refine lv_iload_n hx hb dX12_tell_16 rfl (lv_at hl 0 rfl) ?_
      refine lv_iconst (v := 2) hx hb dX12_tell_17 (by decide) ?_
      refine lv_icmp_ne (tgt := 26) hx hb dX12_tell_18 (by decide) (fun _ => ?_) (fun c_0 => absurd c_0 (by decide))
      refine lv_iload_n hx hb dX12_tell_26 rfl (lv_at hl 0 rfl) ?_
      refine lv_if_le (tgt := 35) hx hb dX12_tell_27 (by decide) (fun c_0 => absurd c_0 (by decide)) (fun _ => ?_)
      refine lv_aload_n hx hb dX12_tell_30 rfl (lv_at hl 1 rfl) ?_
      refine lv_iconst (v := 2) hx hb dX12_tell_31 (by decide) ?_
      refine hp_callMv (va_runV (As := [.int 2]) (rest := []) ⟨hx, hb, hml, hown, hts⟩ (c_X12_begins l D cy _ cs ad en (hI.1 _ (by decide)) fa hi wd mo tb dp many grt lst nou rm rb pr wo 2 es1202) (kw_X12_begins hts tw_1227 ⟨by decide, by decide⟩) (preV_of hh hK (hI.1 _ (by decide)) es1202 rfl) rfl rfl hl.1 rfl (lv_room (Nat.le_of_ble_eq_true rfl)) dX12_tell_32 ⟨Nat.le_of_ble_eq_true rfl, Nat.le_of_ble_eq_true rfl⟩) hh hA (fun H locs en_1207 hw_1207 hh => ?_)
      have hen_1207 := hw_1207
      have es1202_1207 : en_1207 0 = .inr (11, [.int fa, .int (31 * hi + 2), .int (nI wd), .int (nI mo), .int (nI tb), .ref (ad 1), .ref (ad 2), .ref (ad 3), .ref (ad 4), .ref (ad 5), .ref (ad 6), .ref (ad 7), .ref (ad 8), .ref (ad 9), .int dp, .long many, .long grt, .long lst, .long nou, .ref (ad 10), .ref (ad 11), .ref (ad 12), .int rm, .long rb, .ref (ad 13), .int pr, .ref (ad 14), .ref (ad 15), .ref (ad 16), .ref (ad 17), .int (nI wo), .ref (ad 18), .ref (ad 19)]) := by rw [hen_1207]; exact va_up_self _ _ _
      have hI_1207 : RX cy cs ad en_1207 := by rw [hen_1207]; exact upr_M hI ⟨fa, (31 * hi + 2), wd, mo, tb, dp, many, grt, lst, nou, rm, rb, pr, wo, rfl, hwd2, hwd3, hmo, htb, hwo⟩
      have hf_1207 : ∀ c, (c ≠ 0) → en_1207 c = en c := fun c hc => Eq.trans (show en_1207 c = en c from by rw [hen_1207, va_up_ne _ _ (by omega)]) (hf0 c hc)
      have hkp_1207 : KPx en en_1207 := KPx_fv (KPx_rf en) es1202 es1202_1207 (nI wd) (nI mo) (nI tb) pr (nI wo) rfl rfl rfl rfl rfl rfl rfl rfl rfl rfl
      refine lv_aload_n hx hb dX12_tell_35 rfl (lv_at hl 1 rfl) ?_
      refine lv_iconst (v := 1) hx hb dX12_tell_36 (by decide) ?_
      refine hp_callMv (va_runV (As := [.int 1]) (rest := []) ⟨hx, hb, hml, hown, hts⟩ (c_X12_begins l D cy _ cs ad en_1207 (hI.1 _ (by decide)) fa (31 * hi + 2) wd mo tb dp many grt lst nou rm rb pr wo 1 es1202_1207) (kw_X12_begins hts tw_1227 ⟨by decide, by decide⟩) (preV_of hh hK (hI.1 _ (by decide)) es1202_1207 rfl) rfl rfl hl.1 rfl (lv_room (Nat.le_of_ble_eq_true rfl)) dX12_tell_37 ⟨Nat.le_of_ble_eq_true rfl, Nat.le_of_ble_eq_true rfl⟩) hh hA (fun H locs en_1208 hw_1208 hh => ?_)
      have hen_1208 := hw_1208
      have es1202_1208 : en_1208 0 = .inr (11, [.int fa, .int (31 * (31 * hi + 2) + 1), .int (nI wd), .int (nI mo), .int (nI tb), .ref (ad 1), .ref (ad 2), .ref (ad 3), .ref (ad 4), .ref (ad 5), .ref (ad 6), .ref (ad 7), .ref (ad 8), .ref (ad 9), .int dp, .long many, .long grt, .long lst, .long nou, .ref (ad 10), .ref (ad 11), .ref (ad 12), .int rm, .long rb, .ref (ad 13), .int pr, .ref (ad 14), .ref (ad 15), .ref (ad 16), .ref (ad 17), .int (nI wo), .ref (ad 18), .ref (ad 19)]) := by rw [hen_1208]; exact va_up_self _ _ _
      have hI_1208 : RX cy cs ad en_1208 := by rw [hen_1208]; exact upr_M hI_1207 ⟨fa, (31 * (31 * hi + 2) + 1), wd, mo, tb, dp, many, grt, lst, nou, rm, rb, pr, wo, rfl, hwd2, hwd3, hmo, htb, hwo⟩
      have hf_1208 : ∀ c, (c ≠ 0) → en_1208 c = en c := fun c hc => Eq.trans (show en_1208 c = en_1207 c from by rw [hen_1208, va_up_ne _ _ (by omega)]) (hf_1207 c hc)
      have hkp_1208 : KPx en en_1208 := KPx_fv hkp_1207 es1202_1207 es1202_1208 (nI wd) (nI mo) (nI tb) pr (nI wo) rfl rfl rfl rfl rfl rfl rfl rfl rfl rfl
      refine lv_iload_n hx hb dX12_tell_40 rfl (lv_at hl 0 rfl) ?_
      refine lv_iconst (v := 2) hx hb dX12_tell_41 (by decide) ?_
      refine lv_icmp_ne (tgt := 50) hx hb dX12_tell_42 (by decide) (fun _ => ?_) (fun c_0 => absurd c_0 (by decide))
      refine lv_iload_n hx hb dX12_tell_50 rfl (lv_at hl 0 rfl) ?_
      refine lv_if_ne (tgt := 62) hx hb dX12_tell_51 (by decide) (fun _ => ?_) (fun c_0 => absurd c_0 (by decide))
      refine lv_iload_n hx hb dX12_tell_62 rfl (lv_at hl 0 rfl) ?_
      refine lv_iconst (v := 1) hx hb dX12_tell_63 (by decide) ?_
      refine lv_icmp_ne (tgt := 81) hx hb dX12_tell_64 (by decide) (fun c_0 => absurd c_0 (by decide)) (fun _ => ?_)
      refine lv_aload_n hx hb dX12_tell_67 rfl (lv_at hl 1 rfl) ?_
      refine lv_iload_n hx hb dX12_tell_68 rfl (lv_at hl 2 rfl) ?_
      refine hp_callRi (va_runV (As := [.int (nI T_1203)]) (rest := []) ⟨hx, hb, hml, hown, hts⟩ (c_X12_trackOf l D cy _ cs ad en_1208 hI_1208 T_1203 (by omega)) (kw_X12_trackOf hts tw_1231 ⟨by decide, by decide⟩) (preV_of hh hK (hI.1 _ (by decide)) es1202_1208 rfl) rfl rfl hl.1 rfl (lv_room (Nat.le_of_ble_eq_true rfl)) dX12_tell_69 ⟨Nat.le_of_ble_eq_true rfl, Nat.le_of_ble_eq_true rfl⟩) hh hA (fun r_1209 H locs hw_1209 hh => ?_)
      refine lv_aload_n hx hb dX12_tell_72 rfl (lv_at hl 1 rfl) ?_
      refine lv_iload_n hx hb dX12_tell_73 rfl (lv_at hl 2 rfl) ?_
      refine hp_callRi (va_runV (As := [.int (nI T_1203)]) (rest := [.int r_1209]) ⟨hx, hb, hml, hown, hts⟩ (c_X12_greatestOf l D cy _ cs ad en_1208 hI_1208 T_1203 (by omega)) (kw_X12_greatestOf hts tw_1235 ⟨by decide, by decide⟩) (preV_of hh hK (hI.1 _ (by decide)) es1202_1208 rfl) rfl rfl hl.1 rfl (lv_room (Nat.le_of_ble_eq_true rfl)) dX12_tell_74 ⟨Nat.le_of_ble_eq_true rfl, Nat.le_of_ble_eq_true rfl⟩) hh hA (fun r_1210 H locs hw_1210 hh => ?_)
      refine lv_iadd hx hb dX12_tell_77 ?_
      refine lv_goto (tgt := 94) hx hb dX12_tell_78 (by decide) ?_
      exact hp_iretM hx hb hr rfl hlocks hh (⟨hI_1208, hf_1208, hkp_1208⟩) dX12_tell_94
    · obtain rfl : r_1204 = 2 := hb_1204
      refine lv_istore_n (lv' := [(2, .int 2), (0, .ref (ad 0)), (1, .int (nI T_1203))]) hx hb dX12_tell_15 rfl hl (by decide) rfl (fun ls hl => ?_)
      refine lv_iload_n hx hb dX12_tell_16 rfl (lv_at hl 0 rfl) ?_
      refine lv_iconst (v := 2) hx hb dX12_tell_17 (by decide) ?_
      refine lv_icmp_ne (tgt := 26) hx hb dX12_tell_18 (by decide) (fun c_0 => absurd c_0 (by decide)) (fun _ => ?_)
      refine lv_aload_n hx hb dX12_tell_21 rfl (lv_at hl 1 rfl) ?_
      refine lv_iconst (v := 3) hx hb dX12_tell_22 (by decide) ?_
      refine hp_callMv (va_runV (As := [.int 3]) (rest := []) ⟨hx, hb, hml, hown, hts⟩ (c_X12_begins l D cy _ cs ad en (hI.1 _ (by decide)) fa hi wd mo tb dp many grt lst nou rm rb pr wo 3 es1202) (kw_X12_begins hts tw_1227 ⟨by decide, by decide⟩) (preV_of hh hK (hI.1 _ (by decide)) es1202 rfl) rfl rfl hl.1 rfl (lv_room (Nat.le_of_ble_eq_true rfl)) dX12_tell_23 ⟨Nat.le_of_ble_eq_true rfl, Nat.le_of_ble_eq_true rfl⟩) hh hA (fun H locs en_1211 hw_1211 hh => ?_)
      have hen_1211 := hw_1211
      have es1202_1211 : en_1211 0 = .inr (11, [.int fa, .int (31 * hi + 3), .int (nI wd), .int (nI mo), .int (nI tb), .ref (ad 1), .ref (ad 2), .ref (ad 3), .ref (ad 4), .ref (ad 5), .ref (ad 6), .ref (ad 7), .ref (ad 8), .ref (ad 9), .int dp, .long many, .long grt, .long lst, .long nou, .ref (ad 10), .ref (ad 11), .ref (ad 12), .int rm, .long rb, .ref (ad 13), .int pr, .ref (ad 14), .ref (ad 15), .ref (ad 16), .ref (ad 17), .int (nI wo), .ref (ad 18), .ref (ad 19)]) := by rw [hen_1211]; exact va_up_self _ _ _
      have hI_1211 : RX cy cs ad en_1211 := by rw [hen_1211]; exact upr_M hI ⟨fa, (31 * hi + 3), wd, mo, tb, dp, many, grt, lst, nou, rm, rb, pr, wo, rfl, hwd2, hwd3, hmo, htb, hwo⟩
      have hf_1211 : ∀ c, (c ≠ 0) → en_1211 c = en c := fun c hc => Eq.trans (show en_1211 c = en c from by rw [hen_1211, va_up_ne _ _ (by omega)]) (hf0 c hc)
      have hkp_1211 : KPx en en_1211 := KPx_fv (KPx_rf en) es1202 es1202_1211 (nI wd) (nI mo) (nI tb) pr (nI wo) rfl rfl rfl rfl rfl rfl rfl rfl rfl rfl
      refine lv_iload_n hx hb dX12_tell_26 rfl (lv_at hl 0 rfl) ?_
      refine lv_if_le (tgt := 35) hx hb dX12_tell_27 (by decide) (fun c_0 => absurd c_0 (by decide)) (fun _ => ?_)
      refine lv_aload_n hx hb dX12_tell_30 rfl (lv_at hl 1 rfl) ?_
      refine lv_iconst (v := 2) hx hb dX12_tell_31 (by decide) ?_
      refine hp_callMv (va_runV (As := [.int 2]) (rest := []) ⟨hx, hb, hml, hown, hts⟩ (c_X12_begins l D cy _ cs ad en_1211 (hI.1 _ (by decide)) fa (31 * hi + 3) wd mo tb dp many grt lst nou rm rb pr wo 2 es1202_1211) (kw_X12_begins hts tw_1227 ⟨by decide, by decide⟩) (preV_of hh hK (hI.1 _ (by decide)) es1202_1211 rfl) rfl rfl hl.1 rfl (lv_room (Nat.le_of_ble_eq_true rfl)) dX12_tell_32 ⟨Nat.le_of_ble_eq_true rfl, Nat.le_of_ble_eq_true rfl⟩) hh hA (fun H locs en_1212 hw_1212 hh => ?_)
      have hen_1212 := hw_1212
      have es1202_1212 : en_1212 0 = .inr (11, [.int fa, .int (31 * (31 * hi + 3) + 2), .int (nI wd), .int (nI mo), .int (nI tb), .ref (ad 1), .ref (ad 2), .ref (ad 3), .ref (ad 4), .ref (ad 5), .ref (ad 6), .ref (ad 7), .ref (ad 8), .ref (ad 9), .int dp, .long many, .long grt, .long lst, .long nou, .ref (ad 10), .ref (ad 11), .ref (ad 12), .int rm, .long rb, .ref (ad 13), .int pr, .ref (ad 14), .ref (ad 15), .ref (ad 16), .ref (ad 17), .int (nI wo), .ref (ad 18), .ref (ad 19)]) := by rw [hen_1212]; exact va_up_self _ _ _
      have hI_1212 : RX cy cs ad en_1212 := by rw [hen_1212]; exact upr_M hI_1211 ⟨fa, (31 * (31 * hi + 3) + 2), wd, mo, tb, dp, many, grt, lst, nou, rm, rb, pr, wo, rfl, hwd2, hwd3, hmo, htb, hwo⟩
      have hf_1212 : ∀ c, (c ≠ 0) → en_1212 c = en c := fun c hc => Eq.trans (show en_1212 c = en_1211 c from by rw [hen_1212, va_up_ne _ _ (by omega)]) (hf_1211 c hc)
      have hkp_1212 : KPx en en_1212 := KPx_fv hkp_1211 es1202_1211 es1202_1212 (nI wd) (nI mo) (nI tb) pr (nI wo) rfl rfl rfl rfl rfl rfl rfl rfl rfl rfl
      refine lv_aload_n hx hb dX12_tell_35 rfl (lv_at hl 1 rfl) ?_
      refine lv_iconst (v := 1) hx hb dX12_tell_36 (by decide) ?_
      refine hp_callMv (va_runV (As := [.int 1]) (rest := []) ⟨hx, hb, hml, hown, hts⟩ (c_X12_begins l D cy _ cs ad en_1212 (hI.1 _ (by decide)) fa (31 * (31 * hi + 3) + 2) wd mo tb dp many grt lst nou rm rb pr wo 1 es1202_1212) (kw_X12_begins hts tw_1227 ⟨by decide, by decide⟩) (preV_of hh hK (hI.1 _ (by decide)) es1202_1212 rfl) rfl rfl hl.1 rfl (lv_room (Nat.le_of_ble_eq_true rfl)) dX12_tell_37 ⟨Nat.le_of_ble_eq_true rfl, Nat.le_of_ble_eq_true rfl⟩) hh hA (fun H locs en_1213 hw_1213 hh => ?_)
      have hen_1213 := hw_1213
      have es1202_1213 : en_1213 0 = .inr (11, [.int fa, .int (31 * (31 * (31 * hi + 3) + 2) + 1), .int (nI wd), .int (nI mo), .int (nI tb), .ref (ad 1), .ref (ad 2), .ref (ad 3), .ref (ad 4), .ref (ad 5), .ref (ad 6), .ref (ad 7), .ref (ad 8), .ref (ad 9), .int dp, .long many, .long grt, .long lst, .long nou, .ref (ad 10), .ref (ad 11), .ref (ad 12), .int rm, .long rb, .ref (ad 13), .int pr, .ref (ad 14), .ref (ad 15), .ref (ad 16), .ref (ad 17), .int (nI wo), .ref (ad 18), .ref (ad 19)]) := by rw [hen_1213]; exact va_up_self _ _ _
      have hI_1213 : RX cy cs ad en_1213 := by rw [hen_1213]; exact upr_M hI_1212 ⟨fa, (31 * (31 * (31 * hi + 3) + 2) + 1), wd, mo, tb, dp, many, grt, lst, nou, rm, rb, pr, wo, rfl, hwd2, hwd3, hmo, htb, hwo⟩
      have hf_1213 : ∀ c, (c ≠ 0) → en_1213 c = en c := fun c hc => Eq.trans (show en_1213 c = en_1212 c from by rw [hen_1213, va_up_ne _ _ (by omega)]) (hf_1212 c hc)
      have hkp_1213 : KPx en en_1213 := KPx_fv hkp_1212 es1202_1212 es1202_1213 (nI wd) (nI mo) (nI tb) pr (nI wo) rfl rfl rfl rfl rfl rfl rfl rfl rfl rfl
      refine lv_iload_n hx hb dX12_tell_40 rfl (lv_at hl 0 rfl) ?_
      refine lv_iconst (v := 2) hx hb dX12_tell_41 (by decide) ?_
      refine lv_icmp_ne (tgt := 50) hx hb dX12_tell_42 (by decide) (fun c_0 => absurd c_0 (by decide)) (fun _ => ?_)
      refine lv_aload_n hx hb dX12_tell_45 rfl (lv_at hl 1 rfl) ?_
      refine lv_iconst (v := 1) hx hb dX12_tell_46 (by decide) ?_
      refine hp_callMv (va_runV (As := [.int 1]) (rest := []) ⟨hx, hb, hml, hown, hts⟩ (c_X12_begins l D cy _ cs ad en_1213 (hI.1 _ (by decide)) fa (31 * (31 * (31 * hi + 3) + 2) + 1) wd mo tb dp many grt lst nou rm rb pr wo 1 es1202_1213) (kw_X12_begins hts tw_1227 ⟨by decide, by decide⟩) (preV_of hh hK (hI.1 _ (by decide)) es1202_1213 rfl) rfl rfl hl.1 rfl (lv_room (Nat.le_of_ble_eq_true rfl)) dX12_tell_47 ⟨Nat.le_of_ble_eq_true rfl, Nat.le_of_ble_eq_true rfl⟩) hh hA (fun H locs en_1214 hw_1214 hh => ?_)
      have hen_1214 := hw_1214
      have es1202_1214 : en_1214 0 = .inr (11, [.int fa, .int (31 * (31 * (31 * (31 * hi + 3) + 2) + 1) + 1), .int (nI wd), .int (nI mo), .int (nI tb), .ref (ad 1), .ref (ad 2), .ref (ad 3), .ref (ad 4), .ref (ad 5), .ref (ad 6), .ref (ad 7), .ref (ad 8), .ref (ad 9), .int dp, .long many, .long grt, .long lst, .long nou, .ref (ad 10), .ref (ad 11), .ref (ad 12), .int rm, .long rb, .ref (ad 13), .int pr, .ref (ad 14), .ref (ad 15), .ref (ad 16), .ref (ad 17), .int (nI wo), .ref (ad 18), .ref (ad 19)]) := by rw [hen_1214]; exact va_up_self _ _ _
      have hI_1214 : RX cy cs ad en_1214 := by rw [hen_1214]; exact upr_M hI_1213 ⟨fa, (31 * (31 * (31 * (31 * hi + 3) + 2) + 1) + 1), wd, mo, tb, dp, many, grt, lst, nou, rm, rb, pr, wo, rfl, hwd2, hwd3, hmo, htb, hwo⟩
      have hf_1214 : ∀ c, (c ≠ 0) → en_1214 c = en c := fun c hc => Eq.trans (show en_1214 c = en_1213 c from by rw [hen_1214, va_up_ne _ _ (by omega)]) (hf_1213 c hc)
      have hkp_1214 : KPx en en_1214 := KPx_fv hkp_1213 es1202_1213 es1202_1214 (nI wd) (nI mo) (nI tb) pr (nI wo) rfl rfl rfl rfl rfl rfl rfl rfl rfl rfl
      refine lv_iload_n hx hb dX12_tell_50 rfl (lv_at hl 0 rfl) ?_
      refine lv_if_ne (tgt := 62) hx hb dX12_tell_51 (by decide) (fun _ => ?_) (fun c_0 => absurd c_0 (by decide))
      refine lv_iload_n hx hb dX12_tell_62 rfl (lv_at hl 0 rfl) ?_
      refine lv_iconst (v := 1) hx hb dX12_tell_63 (by decide) ?_
      refine lv_icmp_ne (tgt := 81) hx hb dX12_tell_64 (by decide) (fun _ => ?_) (fun c_0 => absurd c_0 (by decide))
      refine lv_iconst (v := 2) hx hb dX12_tell_81 (by decide) ?_
      refine lv_aload_n hx hb dX12_tell_82 rfl (lv_at hl 1 rfl) ?_
      refine lv_iload_n hx hb dX12_tell_83 rfl (lv_at hl 2 rfl) ?_
      refine hp_callRi (va_runV (As := [.int (nI T_1203)]) (rest := [.int 2]) ⟨hx, hb, hml, hown, hts⟩ (c_X12_trackOf l D cy _ cs ad en_1214 hI_1214 T_1203 (by omega)) (kw_X12_trackOf hts tw_1231 ⟨by decide, by decide⟩) (preV_of hh hK (hI.1 _ (by decide)) es1202_1214 rfl) rfl rfl hl.1 rfl (lv_room (Nat.le_of_ble_eq_true rfl)) dX12_tell_84 ⟨Nat.le_of_ble_eq_true rfl, Nat.le_of_ble_eq_true rfl⟩) hh hA (fun r_1215 H locs hw_1215 hh => ?_)
      refine lv_imul hx hb dX12_tell_87 ?_
      refine lv_aload_n hx hb dX12_tell_88 rfl (lv_at hl 1 rfl) ?_
      refine lv_iload_n hx hb dX12_tell_89 rfl (lv_at hl 2 rfl) ?_
      refine hp_callRi (va_runV (As := [.int (nI T_1203)]) (rest := [.int (2 * r_1215)]) ⟨hx, hb, hml, hown, hts⟩ (c_X12_greatestOf l D cy _ cs ad en_1214 hI_1214 T_1203 (by omega)) (kw_X12_greatestOf hts tw_1235 ⟨by decide, by decide⟩) (preV_of hh hK (hI.1 _ (by decide)) es1202_1214 rfl) rfl rfl hl.1 rfl (lv_room (Nat.le_of_ble_eq_true rfl)) dX12_tell_90 ⟨Nat.le_of_ble_eq_true rfl, Nat.le_of_ble_eq_true rfl⟩) hh hA (fun r_1216 H locs hw_1216 hh => ?_)
      refine lv_iadd hx hb dX12_tell_93 ?_
      exact hp_iretM hx hb hr rfl hlocks hh (⟨hI_1214, hf_1214, hkp_1214⟩) dX12_tell_94
  · obtain rfl : r_1203 = 0 := Eq.trans hw_1203 (if_neg hp_1203)
    refine lv_if_ne (tgt := 10) hx hb dX12_tell_5 (by decide) (fun c_0 => absurd c_0 (by decide)) (fun _ => ?_)
    refine lv_iconst (v := (-1)) hx hb dX12_tell_8 (by decide) ?_
    exact hp_iretM hx hb hr rfl hlocks hh (⟨hI, hf0, (KPx_rf en)⟩) dX12_tell_9
theorem kw_X12_tell {R : Room} {s : State} {args : Array Value} {own : String} {idx : Nat} (hts : ∀ w ∈ TB, w.before args s = true) (hl : Cond.methodLink own idx yX12_tell ∈ TB) (hR : 1 + 1 ≤ R.frames ∧ 8 + (3 + 11) + 40 * 1 ≤ R.locals) : CallW R s args own RX12 idx yX12_tell cX12_tell 3 (some .int) (Cond.code yX12_tell cX12_tell 3 (some .int) :: TB) (rmN 1) 0 0 1 := cwV 1 hts (TB_V hl tw_1220 tw_1221 tw_9 tw_1222) rfl rfl rfl (by decide +kernel) hR
set_option maxHeartbeats 4000000 in
set_option maxRecDepth 100000 in
/-- weigh -/
theorem c_X12_weigh (l : Launch) (D : va_G) (cy : Nat → ClassId) (sz : Nat) (cs : List Nat) (ad : Nat → Nat) (en : Nat → va_E) (hI : RX cy cs ad en) (t : Int32)   : Met l yX12_weigh (Cond.code yX12_weigh cX12_weigh 3 (some .int) :: TB) (rmN 1) (va_Pc [.ref (ad 0), .int t] (Pre D cy cs ad en sz)) (va_Qi (S := Nat → va_E) (fun r en1 => RX cy cs ad en1 ∧ (∀ c, (c ≠ 0) → en1 c = en c) ∧ KPx en en1) (PostM D cs ad) (Af cs ad sz)) 0 0 (Af cs ad sz) := by
  refine Met.ofW (cc := cX12_weigh) (maxL := 3) (ret := (some .int)) (by decide) rfl ?_
  intro p e s m args below meth c s₁ B hml hv
  obtain ⟨rfl, hsz, hP, hK, hD0⟩ := hv
  have hx := B.exec
  have hb := B.bytes
  have hr := B.returns
  have hts : ∀ w ∈ TB, w.before _ s = true := fun w h => atoms_spec (ws := _ :: TB) B.pre w (List.mem_cons_of_mem _ h)
  have hown : s.vm.findClass RX12 = some m.cls := findClass_of_methodNamed B.named
  have hlocks := B.notSynchronized
  have hh : Hp D (Af cs ad sz) (Af cs ad sz) s.heap s.heap [] cs ad en := ⟨hP, Af_self hD0, va_S.rf⟩
  have hA : ∀ q : Nat, s.heap.size ≤ q → Af cs ad sz q := fun q h => Or.inr (by rw [hsz] at h; exact h)
  have hl := lv_entry ([.ref (ad 0), .int t]) (n := 3) (Nat.le_of_ble_eq_true rfl)
  rw [lg_entry_eq]
  generalize (lg_sl ([.ref (ad 0), .int t]) ++ List.replicate (3 - (lg_sl ([.ref (ad 0), .int t])).length) Slot.unset).toArray = ls at hl ⊢
  have hl : lv_has ls 3 [(0, .ref (ad 0)), (1, .int t)] := hl
  have hf0 : ∀ c, (c ≠ 0) → en c = en c := fun _ _ => rfl
  obtain ⟨fa, hi, wd, mo, tb, dp, many, grt, lst, nou, rm, rb, pr, wo, es1217, hwd2, hwd3, hmo, htb, hwo⟩ := getr_M hI
  refine lv_aload_n hx hb dX12_weigh_0 rfl (lv_at hl 0 rfl) ?_
  refine lv_iload_n hx hb dX12_weigh_1 rfl (lv_at hl 1 rfl) ?_
  refine hp_callRi (va_runV (As := [.int t]) (rest := []) ⟨hx, hb, hml, hown, hts⟩ (c_X12_isTable l D cy _ cs ad en hI t ) (kw_X12_isTable hts tw_1007 ⟨by decide, by decide⟩) (preV_of hh hK (hI.1 _ (by decide)) es1217 rfl) rfl rfl hl.1 rfl (lv_room (Nat.le_of_ble_eq_true rfl)) dX12_weigh_2 ⟨Nat.le_of_ble_eq_true rfl, Nat.le_of_ble_eq_true rfl⟩) hh hA (fun r_1218 H locs hw_1218 hh => ?_)
  rw [show rdI (en 0) 4 = (nI tb) from by rw [es1217]; rfl, nI_toInt (n := tb) (by omega)] at hw_1218
  rcases Decidable.em (0 ≤ t.toInt ∧ t.toInt < (tb : Int)) with hp_1218 | hp_1218
  · obtain rfl : r_1218 = 1 := Eq.trans hw_1218 (if_pos hp_1218)
    obtain ⟨T_1218, rfl, hT_1218⟩ := has_nat hp_1218
    refine lv_if_ne (tgt := 10) hx hb dX12_weigh_5 (by decide) (fun _ => ?_) (fun c_0 => absurd c_0 (by decide))
    refine lv_aload_n hx hb dX12_weigh_10 rfl (lv_at hl 0 rfl) ?_
    refine lv_iload_n hx hb dX12_weigh_11 rfl (lv_at hl 1 rfl) ?_
    refine hp_callRi (va_runV (As := [.int (nI T_1218)]) (rest := []) ⟨hx, hb, hml, hown, hts⟩ (c_X12_kindOf l D cy _ cs ad en hI T_1218 (by omega)) (kw_X12_kindOf hts tw_1223 ⟨by decide, by decide⟩) (preV_of hh hK (hI.1 _ (by decide)) es1217 rfl) rfl rfl hl.1 rfl (lv_room (Nat.le_of_ble_eq_true rfl)) dX12_weigh_12 ⟨Nat.le_of_ble_eq_true rfl, Nat.le_of_ble_eq_true rfl⟩) hh hA (fun r_1219 H locs hw_1219 hh => ?_)
    rcases hw_1219 with hb_1219 | hb_1219 | hb_1219
    · obtain rfl : r_1219 = 0 := hb_1219
      refine lv_iconst (v := 2) hx hb dX12_weigh_15 (by decide) ?_
      refine lv_icmp_ne (tgt := 23) hx hb dX12_weigh_16 (by decide) (fun _ => ?_) (fun c_0 => absurd c_0 (by decide))
      refine lv_iconst (v := 0) hx hb dX12_weigh_23 (by decide) ?_
      refine lv_istore_n (lv' := [(2, .int 0), (0, .ref (ad 0)), (1, .int (nI T_1218))]) hx hb dX12_weigh_24 rfl hl (by decide) rfl (fun ls hl => ?_)
      refine lv_aload_n hx hb dX12_weigh_25 rfl (lv_at hl 1 rfl) ?_
      refine lv_iload_n hx hb dX12_weigh_26 rfl (lv_at hl 0 rfl) ?_
      refine lv_if_eq (tgt := 34) hx hb dX12_weigh_27 (by decide) (fun _ => ?_) (fun c_0 => absurd c_0 (by decide))
      refine lv_iconst (v := 4) hx hb dX12_weigh_34 (by decide) ?_
      refine hp_callMv (va_runV (As := [.int 4]) (rest := []) ⟨hx, hb, hml, hown, hts⟩ (c_X12_begins l D cy _ cs ad en (hI.1 _ (by decide)) fa hi wd mo tb dp many grt lst nou rm rb pr wo 4 es1217) (kw_X12_begins hts tw_1227 ⟨by decide, by decide⟩) (preV_of hh hK (hI.1 _ (by decide)) es1217 rfl) rfl rfl hl.1 rfl (lv_room (Nat.le_of_ble_eq_true rfl)) dX12_weigh_35 ⟨Nat.le_of_ble_eq_true rfl, Nat.le_of_ble_eq_true rfl⟩) hh hA (fun H locs en_1220 hw_1220 hh => ?_)
      have hen_1220 := hw_1220
      have es1217_1220 : en_1220 0 = .inr (11, [.int fa, .int (31 * hi + 4), .int (nI wd), .int (nI mo), .int (nI tb), .ref (ad 1), .ref (ad 2), .ref (ad 3), .ref (ad 4), .ref (ad 5), .ref (ad 6), .ref (ad 7), .ref (ad 8), .ref (ad 9), .int dp, .long many, .long grt, .long lst, .long nou, .ref (ad 10), .ref (ad 11), .ref (ad 12), .int rm, .long rb, .ref (ad 13), .int pr, .ref (ad 14), .ref (ad 15), .ref (ad 16), .ref (ad 17), .int (nI wo), .ref (ad 18), .ref (ad 19)]) := by rw [hen_1220]; exact va_up_self _ _ _
      have hI_1220 : RX cy cs ad en_1220 := by rw [hen_1220]; exact upr_M hI ⟨fa, (31 * hi + 4), wd, mo, tb, dp, many, grt, lst, nou, rm, rb, pr, wo, rfl, hwd2, hwd3, hmo, htb, hwo⟩
      have hf_1220 : ∀ c, (c ≠ 0) → en_1220 c = en c := fun c hc => Eq.trans (show en_1220 c = en c from by rw [hen_1220, va_up_ne _ _ (by omega)]) (hf0 c hc)
      have hkp_1220 : KPx en en_1220 := KPx_fv (KPx_rf en) es1217 es1217_1220 (nI wd) (nI mo) (nI tb) pr (nI wo) rfl rfl rfl rfl rfl rfl rfl rfl rfl rfl
      refine lv_iload_n hx hb dX12_weigh_38 rfl (lv_at hl 0 rfl) ?_
      refine lv_if_eq (tgt := 47) hx hb dX12_weigh_39 (by decide) (fun _ => ?_) (fun c_0 => absurd c_0 (by decide))
      refine lv_iload_n hx hb dX12_weigh_47 rfl (lv_at hl 2 rfl) ?_
      exact hp_iretM hx hb hr rfl hlocks hh (⟨hI_1220, hf_1220, hkp_1220⟩) dX12_weigh_48
    · obtain rfl : r_1219 = 1 := hb_1219
      refine lv_iconst (v := 2) hx hb dX12_weigh_15 (by decide) ?_
      refine lv_icmp_ne (tgt := 23) hx hb dX12_weigh_16 (by decide) (fun _ => ?_) (fun c_0 => absurd c_0 (by decide))
      refine lv_iconst (v := 0) hx hb dX12_weigh_23 (by decide) ?_
      refine lv_istore_n (lv' := [(2, .int 0), (0, .ref (ad 0)), (1, .int (nI T_1218))]) hx hb dX12_weigh_24 rfl hl (by decide) rfl (fun ls hl => ?_)
      refine lv_aload_n hx hb dX12_weigh_25 rfl (lv_at hl 1 rfl) ?_
      refine lv_iload_n hx hb dX12_weigh_26 rfl (lv_at hl 0 rfl) ?_
      refine lv_if_eq (tgt := 34) hx hb dX12_weigh_27 (by decide) (fun _ => ?_) (fun c_0 => absurd c_0 (by decide))
      refine lv_iconst (v := 4) hx hb dX12_weigh_34 (by decide) ?_
      refine hp_callMv (va_runV (As := [.int 4]) (rest := []) ⟨hx, hb, hml, hown, hts⟩ (c_X12_begins l D cy _ cs ad en (hI.1 _ (by decide)) fa hi wd mo tb dp many grt lst nou rm rb pr wo 4 es1217) (kw_X12_begins hts tw_1227 ⟨by decide, by decide⟩) (preV_of hh hK (hI.1 _ (by decide)) es1217 rfl) rfl rfl hl.1 rfl (lv_room (Nat.le_of_ble_eq_true rfl)) dX12_weigh_35 ⟨Nat.le_of_ble_eq_true rfl, Nat.le_of_ble_eq_true rfl⟩) hh hA (fun H locs en_1221 hw_1221 hh => ?_)
      have hen_1221 := hw_1221
      have es1217_1221 : en_1221 0 = .inr (11, [.int fa, .int (31 * hi + 4), .int (nI wd), .int (nI mo), .int (nI tb), .ref (ad 1), .ref (ad 2), .ref (ad 3), .ref (ad 4), .ref (ad 5), .ref (ad 6), .ref (ad 7), .ref (ad 8), .ref (ad 9), .int dp, .long many, .long grt, .long lst, .long nou, .ref (ad 10), .ref (ad 11), .ref (ad 12), .int rm, .long rb, .ref (ad 13), .int pr, .ref (ad 14), .ref (ad 15), .ref (ad 16), .ref (ad 17), .int (nI wo), .ref (ad 18), .ref (ad 19)]) := by rw [hen_1221]; exact va_up_self _ _ _
      have hI_1221 : RX cy cs ad en_1221 := by rw [hen_1221]; exact upr_M hI ⟨fa, (31 * hi + 4), wd, mo, tb, dp, many, grt, lst, nou, rm, rb, pr, wo, rfl, hwd2, hwd3, hmo, htb, hwo⟩
      have hf_1221 : ∀ c, (c ≠ 0) → en_1221 c = en c := fun c hc => Eq.trans (show en_1221 c = en c from by rw [hen_1221, va_up_ne _ _ (by omega)]) (hf0 c hc)
      have hkp_1221 : KPx en en_1221 := KPx_fv (KPx_rf en) es1217 es1217_1221 (nI wd) (nI mo) (nI tb) pr (nI wo) rfl rfl rfl rfl rfl rfl rfl rfl rfl rfl
      refine lv_iload_n hx hb dX12_weigh_38 rfl (lv_at hl 0 rfl) ?_
      refine lv_if_eq (tgt := 47) hx hb dX12_weigh_39 (by decide) (fun _ => ?_) (fun c_0 => absurd c_0 (by decide))
      refine lv_iload_n hx hb dX12_weigh_47 rfl (lv_at hl 2 rfl) ?_
      exact hp_iretM hx hb hr rfl hlocks hh (⟨hI_1221, hf_1221, hkp_1221⟩) dX12_weigh_48
    · obtain rfl : r_1219 = 2 := hb_1219
      refine lv_iconst (v := 2) hx hb dX12_weigh_15 (by decide) ?_
      refine lv_icmp_ne (tgt := 23) hx hb dX12_weigh_16 (by decide) (fun c_0 => absurd c_0 (by decide)) (fun _ => ?_)
      refine lv_iconst (v := 1) hx hb dX12_weigh_19 (by decide) ?_
      refine lv_goto (tgt := 24) hx hb dX12_weigh_20 (by decide) ?_
      refine lv_istore_n (lv' := [(2, .int 1), (0, .ref (ad 0)), (1, .int (nI T_1218))]) hx hb dX12_weigh_24 rfl hl (by decide) rfl (fun ls hl => ?_)
      refine lv_aload_n hx hb dX12_weigh_25 rfl (lv_at hl 1 rfl) ?_
      refine lv_iload_n hx hb dX12_weigh_26 rfl (lv_at hl 0 rfl) ?_
      refine lv_if_eq (tgt := 34) hx hb dX12_weigh_27 (by decide) (fun c_0 => absurd c_0 (by decide)) (fun _ => ?_)
      refine lv_iconst (v := 5) hx hb dX12_weigh_30 (by decide) ?_
      refine lv_goto (tgt := 35) hx hb dX12_weigh_31 (by decide) ?_
      refine hp_callMv (va_runV (As := [.int 5]) (rest := []) ⟨hx, hb, hml, hown, hts⟩ (c_X12_begins l D cy _ cs ad en (hI.1 _ (by decide)) fa hi wd mo tb dp many grt lst nou rm rb pr wo 5 es1217) (kw_X12_begins hts tw_1227 ⟨by decide, by decide⟩) (preV_of hh hK (hI.1 _ (by decide)) es1217 rfl) rfl rfl hl.1 rfl (lv_room (Nat.le_of_ble_eq_true rfl)) dX12_weigh_35 ⟨Nat.le_of_ble_eq_true rfl, Nat.le_of_ble_eq_true rfl⟩) hh hA (fun H locs en_1222 hw_1222 hh => ?_)
      have hen_1222 := hw_1222
      have es1217_1222 : en_1222 0 = .inr (11, [.int fa, .int (31 * hi + 5), .int (nI wd), .int (nI mo), .int (nI tb), .ref (ad 1), .ref (ad 2), .ref (ad 3), .ref (ad 4), .ref (ad 5), .ref (ad 6), .ref (ad 7), .ref (ad 8), .ref (ad 9), .int dp, .long many, .long grt, .long lst, .long nou, .ref (ad 10), .ref (ad 11), .ref (ad 12), .int rm, .long rb, .ref (ad 13), .int pr, .ref (ad 14), .ref (ad 15), .ref (ad 16), .ref (ad 17), .int (nI wo), .ref (ad 18), .ref (ad 19)]) := by rw [hen_1222]; exact va_up_self _ _ _
      have hI_1222 : RX cy cs ad en_1222 := by rw [hen_1222]; exact upr_M hI ⟨fa, (31 * hi + 5), wd, mo, tb, dp, many, grt, lst, nou, rm, rb, pr, wo, rfl, hwd2, hwd3, hmo, htb, hwo⟩
      have hf_1222 : ∀ c, (c ≠ 0) → en_1222 c = en c := fun c hc => Eq.trans (show en_1222 c = en c from by rw [hen_1222, va_up_ne _ _ (by omega)]) (hf0 c hc)
      have hkp_1222 : KPx en en_1222 := KPx_fv (KPx_rf en) es1217 es1217_1222 (nI wd) (nI mo) (nI tb) pr (nI wo) rfl rfl rfl rfl rfl rfl rfl rfl rfl rfl
      refine lv_iload_n hx hb dX12_weigh_38 rfl (lv_at hl 0 rfl) ?_
      refine lv_if_eq (tgt := 47) hx hb dX12_weigh_39 (by decide) (fun c_0 => absurd c_0 (by decide)) (fun _ => ?_)
      refine lv_bipush (v := 60) hx hb dX12_weigh_42 (by decide) ?_
      refine lv_goto (tgt := 48) hx hb dX12_weigh_44 (by decide) ?_
      exact hp_iretM hx hb hr rfl hlocks hh (⟨hI_1222, hf_1222, hkp_1222⟩) dX12_weigh_48
  · obtain rfl : r_1218 = 0 := Eq.trans hw_1218 (if_neg hp_1218)
    refine lv_if_ne (tgt := 10) hx hb dX12_weigh_5 (by decide) (fun c_0 => absurd c_0 (by decide)) (fun _ => ?_)
    refine lv_iconst (v := (-1)) hx hb dX12_weigh_8 (by decide) ?_
    exact hp_iretM hx hb hr rfl hlocks hh (⟨hI, hf0, (KPx_rf en)⟩) dX12_weigh_9
theorem kw_X12_weigh {R : Room} {s : State} {args : Array Value} {own : String} {idx : Nat} (hts : ∀ w ∈ TB, w.before args s = true) (hl : Cond.methodLink own idx yX12_weigh ∈ TB) (hR : 1 + 1 ≤ R.frames ∧ 8 + (3 + 11) + 40 * 1 ≤ R.locals) : CallW R s args own RX12 idx yX12_weigh cX12_weigh 3 (some .int) (Cond.code yX12_weigh cX12_weigh 3 (some .int) :: TB) (rmN 1) 0 0 1 := cwV 1 hts (TB_V hl tw_1240 tw_1241 tw_9 tw_1242) rfl rfl rfl (by decide +kernel) hR
set_option maxHeartbeats 4000000 in
set_option maxRecDepth 100000 in
/-- as -/
theorem c_X12_as (l : Launch) (D : va_G) (cy : Nat → ClassId) (sz : Nat) (cs : List Nat) (ad : Nat → Nat) (en : Nat → va_E) (hI : RX cy cs ad en) (t z : Int32)   : Met l yX12_as (Cond.code yX12_as cX12_as 3 (some .int) :: TB) (rmN 1) (va_Pc [.ref (ad 0), .int t, .int z] (Pre D cy cs ad en sz)) (va_Qi (S := Nat → va_E) (fun r en1 => RX cy cs ad en1 ∧ (∀ c, (c ≠ 0) → en1 c = en c) ∧ KP en en1) (PostM D cs ad) (Af cs ad sz)) 0 0 (Af cs ad sz) := by
  refine Met.ofW (cc := cX12_as) (maxL := 3) (ret := (some .int)) (by decide) rfl ?_
  intro p e s m args below meth c s₁ B hml hv
  obtain ⟨rfl, hsz, hP, hK, hD0⟩ := hv
  have hx := B.exec
  have hb := B.bytes
  have hr := B.returns
  have hts : ∀ w ∈ TB, w.before _ s = true := fun w h => atoms_spec (ws := _ :: TB) B.pre w (List.mem_cons_of_mem _ h)
  have hown : s.vm.findClass RX12 = some m.cls := findClass_of_methodNamed B.named
  have hlocks := B.notSynchronized
  have hh : Hp D (Af cs ad sz) (Af cs ad sz) s.heap s.heap [] cs ad en := ⟨hP, Af_self hD0, va_S.rf⟩
  have hA : ∀ q : Nat, s.heap.size ≤ q → Af cs ad sz q := fun q h => Or.inr (by rw [hsz] at h; exact h)
  have hl := lv_entry ([.ref (ad 0), .int t, .int z]) (n := 3) (Nat.le_of_ble_eq_true rfl)
  rw [lg_entry_eq]
  generalize (lg_sl ([.ref (ad 0), .int t, .int z]) ++ List.replicate (3 - (lg_sl ([.ref (ad 0), .int t, .int z])).length) Slot.unset).toArray = ls at hl ⊢
  have hl : lv_has ls 3 [(0, .ref (ad 0)), (1, .int t), (2, .int z)] := hl
  have hf0 : ∀ c, (c ≠ 0) → en c = en c := fun _ _ => rfl
  obtain ⟨fa, hi, wd, mo, tb, dp, many, grt, lst, nou, rm, rb, pr, wo, es1223, hwd2, hwd3, hmo, htb, hwo⟩ := getr_M hI
  refine lv_aload_n hx hb dX12_as_0 rfl (lv_at hl 0 rfl) ?_
  refine lv_iconst (v := 0) hx hb dX12_as_1 (by decide) ?_
  refine hp_put hx hb hts ix12 tyX12 tyX12_ok nmX12 hown hK hh (q := 0) rfl (hI.1 _ (by decide)) es1223 rfl 0 (by decide) (hts _ tw_879) (fun _ h9 => h9) rfl (ty := .int) (by decide +kernel) rfl rfl (Nat.le_of_ble_eq_true rfl) dX12_as_2 (fun H locs en_1224 hen_1224 hh => ?_)
  have es1223_1224 : en_1224 0 = .inr (11, [.int 0, .int hi, .int (nI wd), .int (nI mo), .int (nI tb), .ref (ad 1), .ref (ad 2), .ref (ad 3), .ref (ad 4), .ref (ad 5), .ref (ad 6), .ref (ad 7), .ref (ad 8), .ref (ad 9), .int dp, .long many, .long grt, .long lst, .long nou, .ref (ad 10), .ref (ad 11), .ref (ad 12), .int rm, .long rb, .ref (ad 13), .int pr, .ref (ad 14), .ref (ad 15), .ref (ad 16), .ref (ad 17), .int (nI wo), .ref (ad 18), .ref (ad 19)]) := by rw [hen_1224]; exact va_up_self _ _ _
  have hI_1224 : RX cy cs ad en_1224 := by rw [hen_1224]; exact upr_M hI ⟨0, hi, wd, mo, tb, dp, many, grt, lst, nou, rm, rb, pr, wo, rfl, hwd2, hwd3, hmo, htb, hwo⟩
  have hf_1224 : ∀ c, (c ≠ 0) → en_1224 c = en c := fun c hc => Eq.trans (show en_1224 c = en c from by rw [hen_1224, va_up_ne _ _ (by omega)]) (hf0 c hc)
  have hkp_1224 : KP en en_1224 := KP_fv (KP_rf en) es1223 es1223_1224 hi (nI wd) (nI mo) (nI tb) pr (nI wo) rfl rfl rfl rfl rfl rfl rfl rfl rfl rfl rfl rfl
  refine lv_aload_n hx hb dX12_as_5 rfl (lv_at hl 0 rfl) ?_
  refine lv_iload_n hx hb dX12_as_6 rfl (lv_at hl 1 rfl) ?_
  refine hp_callRi (va_runV (As := [.int t]) (rest := []) ⟨hx, hb, hml, hown, hts⟩ (c_X12_isTable l D cy _ cs ad en_1224 hI_1224 t ) (kw_X12_isTable hts tw_1007 ⟨by decide, by decide⟩) (preV_of hh hK (hI.1 _ (by decide)) es1223_1224 rfl) rfl rfl hl.1 rfl (lv_room (Nat.le_of_ble_eq_true rfl)) dX12_as_7 ⟨Nat.le_of_ble_eq_true rfl, Nat.le_of_ble_eq_true rfl⟩) hh hA (fun r_1225 H locs hw_1225 hh => ?_)
  rw [show rdI (en_1224 0) 4 = (nI tb) from by rw [es1223_1224]; rfl, nI_toInt (n := tb) (by omega)] at hw_1225
  rcases Decidable.em (0 ≤ t.toInt ∧ t.toInt < (tb : Int)) with hp_1225 | hp_1225
  · obtain rfl : r_1225 = 1 := Eq.trans hw_1225 (if_pos hp_1225)
    obtain ⟨T_1225, rfl, hT_1225⟩ := has_nat hp_1225
    refine lv_if_ne (tgt := 15) hx hb dX12_as_10 (by decide) (fun _ => ?_) (fun c_0 => absurd c_0 (by decide))
    refine lv_iload_n hx hb dX12_as_15 rfl (lv_at hl 2 rfl) ?_
    refine lv_i2l hx hb dX12_as_16 rfl ?_
    refine lv_lconst (v := 0) hx hb dX12_as_17 (by decide) ?_
    refine lv_ldc2 hx hb hown (hts _ tw_983) dX12_as_18 ?_
    refine hp_callRi (va_runS (As := [.long z.toInt64, .long 0, .long 2]) (rest := []) ⟨hx, hb, hml, hown, hts⟩ (c_X12_within l D cy _ cs ad en_1224 z.toInt64 0 2) (kw_X12_within hts tw_985 ⟨by decide, by decide⟩) (preS_of hh hK) rfl rfl hl.1 rfl (lv_room (Nat.le_of_ble_eq_true rfl)) dX12_as_21 ⟨Nat.le_of_ble_eq_true rfl, Nat.le_of_ble_eq_true rfl⟩) hh hA (fun r_1226 H locs hw_1226 hh => ?_)
    rcases Decidable.em (wi z 0 2) with hp_1226 | hp_1226
    · obtain rfl : r_1226 = 1 := Eq.trans hw_1226 (if_pos ((wj_32 (by decide) (by decide)).mpr hp_1226))
      obtain ⟨N_1226, rfl, hA_1226, hB_1226⟩ := wi_natB hp_1226 0 2 (by decide) (by decide)
      refine lv_if_ne (tgt := 30) hx hb dX12_as_24 (by decide) (fun _ => ?_) (fun c_0 => absurd c_0 (by decide))
      refine lv_aload_n hx hb dX12_as_30 rfl (lv_at hl 0 rfl) ?_
      refine lv_iload_n hx hb dX12_as_31 rfl (lv_at hl 1 rfl) ?_
      refine hp_callRi (va_runV (As := [.int (nI T_1225)]) (rest := []) ⟨hx, hb, hml, hown, hts⟩ (c_X12_kindOf l D cy _ cs ad en_1224 hI_1224 T_1225 (by omega)) (kw_X12_kindOf hts tw_1223 ⟨by decide, by decide⟩) (preV_of hh hK (hI.1 _ (by decide)) es1223_1224 rfl) rfl rfl hl.1 rfl (lv_room (Nat.le_of_ble_eq_true rfl)) dX12_as_32 ⟨Nat.le_of_ble_eq_true rfl, Nat.le_of_ble_eq_true rfl⟩) hh hA (fun r_1227 H locs hw_1227 hh => ?_)
      rcases hw_1227 with hb_1227 | hb_1227 | hb_1227
      · obtain rfl : r_1227 = 0 := hb_1227
        refine lv_iload_n hx hb dX12_as_35 rfl (lv_at hl 2 rfl) ?_
        refine lv_icmp_lt (tgt := 43) hx hb dX12_as_36 (by decide) (fun c_1228 => ?_) (fun c_1228 => ?_)
        · have n_1228 : 0 < N_1226 := n_lt (a := 0) (b := N_1226) c_1228 (by decide) (by omega)
          refine lv_aload_n hx hb dX12_as_43 rfl (lv_at hl 0 rfl) ?_
          refine lv_iconst (v := 2) hx hb dX12_as_44 (by decide) ?_
          refine hp_callMi (va_runV (As := [.int 2]) (rest := []) ⟨hx, hb, hml, hown, hts⟩ (c_X12_fails l D cy _ cs ad en_1224 (hI.1 _ (by decide)) 0 hi wd mo tb dp many grt lst nou rm rb pr wo 2 es1223_1224) (kw_X12_fails hts tw_997 ⟨by decide, by decide⟩) (preV_of hh hK (hI.1 _ (by decide)) es1223_1224 rfl) rfl rfl hl.1 rfl (lv_room (Nat.le_of_ble_eq_true rfl)) dX12_as_45 ⟨Nat.le_of_ble_eq_true rfl, Nat.le_of_ble_eq_true rfl⟩) hh hA (fun r_1229 H locs en_1229 hw_1229 hh => ?_)
          obtain ⟨hr_1229, hen_1229⟩ := hw_1229
          have es1223_1229 : en_1229 0 = .inr (11, [.int 2, .int hi, .int (nI wd), .int (nI mo), .int (nI tb), .ref (ad 1), .ref (ad 2), .ref (ad 3), .ref (ad 4), .ref (ad 5), .ref (ad 6), .ref (ad 7), .ref (ad 8), .ref (ad 9), .int dp, .long many, .long grt, .long lst, .long nou, .ref (ad 10), .ref (ad 11), .ref (ad 12), .int rm, .long rb, .ref (ad 13), .int pr, .ref (ad 14), .ref (ad 15), .ref (ad 16), .ref (ad 17), .int (nI wo), .ref (ad 18), .ref (ad 19)]) := by rw [hen_1229]; exact va_up_self _ _ _
          have hI_1229 : RX cy cs ad en_1229 := by rw [hen_1229]; exact upr_M hI_1224 ⟨2, hi, wd, mo, tb, dp, many, grt, lst, nou, rm, rb, pr, wo, rfl, hwd2, hwd3, hmo, htb, hwo⟩
          have hf_1229 : ∀ c, (c ≠ 0) → en_1229 c = en c := fun c hc => Eq.trans (show en_1229 c = en_1224 c from by rw [hen_1229, va_up_ne _ _ (by omega)]) (hf_1224 c hc)
          have hkp_1229 : KP en en_1229 := KP_fv hkp_1224 es1223_1224 es1223_1229 hi (nI wd) (nI mo) (nI tb) pr (nI wo) rfl rfl rfl rfl rfl rfl rfl rfl rfl rfl rfl rfl
          obtain rfl : r_1229 = (-12) := hr_1229.trans (by decide)
          exact hp_iretM hx hb hr rfl hlocks hh (⟨hI_1229, hf_1229, hkp_1229⟩) dX12_as_48
        · have n_1228 : N_1226 ≤ 0 := n_nlt (a := 0) (b := N_1226) c_1228 (by decide) (by omega)
          refine lv_iconst (v := 1) hx hb dX12_as_39 (by decide) ?_
          refine lv_goto (tgt := 48) hx hb dX12_as_40 (by decide) ?_
          exact hp_iretM hx hb hr rfl hlocks hh (⟨hI_1224, hf_1224, hkp_1224⟩) dX12_as_48
      · obtain rfl : r_1227 = 1 := hb_1227
        refine lv_iload_n hx hb dX12_as_35 rfl (lv_at hl 2 rfl) ?_
        refine lv_icmp_lt (tgt := 43) hx hb dX12_as_36 (by decide) (fun c_1230 => ?_) (fun c_1230 => ?_)
        · have n_1230 : 1 < N_1226 := n_lt (a := 1) (b := N_1226) c_1230 (by decide) (by omega)
          refine lv_aload_n hx hb dX12_as_43 rfl (lv_at hl 0 rfl) ?_
          refine lv_iconst (v := 2) hx hb dX12_as_44 (by decide) ?_
          refine hp_callMi (va_runV (As := [.int 2]) (rest := []) ⟨hx, hb, hml, hown, hts⟩ (c_X12_fails l D cy _ cs ad en_1224 (hI.1 _ (by decide)) 0 hi wd mo tb dp many grt lst nou rm rb pr wo 2 es1223_1224) (kw_X12_fails hts tw_997 ⟨by decide, by decide⟩) (preV_of hh hK (hI.1 _ (by decide)) es1223_1224 rfl) rfl rfl hl.1 rfl (lv_room (Nat.le_of_ble_eq_true rfl)) dX12_as_45 ⟨Nat.le_of_ble_eq_true rfl, Nat.le_of_ble_eq_true rfl⟩) hh hA (fun r_1231 H locs en_1231 hw_1231 hh => ?_)
          obtain ⟨hr_1231, hen_1231⟩ := hw_1231
          have es1223_1231 : en_1231 0 = .inr (11, [.int 2, .int hi, .int (nI wd), .int (nI mo), .int (nI tb), .ref (ad 1), .ref (ad 2), .ref (ad 3), .ref (ad 4), .ref (ad 5), .ref (ad 6), .ref (ad 7), .ref (ad 8), .ref (ad 9), .int dp, .long many, .long grt, .long lst, .long nou, .ref (ad 10), .ref (ad 11), .ref (ad 12), .int rm, .long rb, .ref (ad 13), .int pr, .ref (ad 14), .ref (ad 15), .ref (ad 16), .ref (ad 17), .int (nI wo), .ref (ad 18), .ref (ad 19)]) := by rw [hen_1231]; exact va_up_self _ _ _
          have hI_1231 : RX cy cs ad en_1231 := by rw [hen_1231]; exact upr_M hI_1224 ⟨2, hi, wd, mo, tb, dp, many, grt, lst, nou, rm, rb, pr, wo, rfl, hwd2, hwd3, hmo, htb, hwo⟩
          have hf_1231 : ∀ c, (c ≠ 0) → en_1231 c = en c := fun c hc => Eq.trans (show en_1231 c = en_1224 c from by rw [hen_1231, va_up_ne _ _ (by omega)]) (hf_1224 c hc)
          have hkp_1231 : KP en en_1231 := KP_fv hkp_1224 es1223_1224 es1223_1231 hi (nI wd) (nI mo) (nI tb) pr (nI wo) rfl rfl rfl rfl rfl rfl rfl rfl rfl rfl rfl rfl
          obtain rfl : r_1231 = (-12) := hr_1231.trans (by decide)
          exact hp_iretM hx hb hr rfl hlocks hh (⟨hI_1231, hf_1231, hkp_1231⟩) dX12_as_48
        · have n_1230 : N_1226 ≤ 1 := n_nlt (a := 1) (b := N_1226) c_1230 (by decide) (by omega)
          refine lv_iconst (v := 1) hx hb dX12_as_39 (by decide) ?_
          refine lv_goto (tgt := 48) hx hb dX12_as_40 (by decide) ?_
          exact hp_iretM hx hb hr rfl hlocks hh (⟨hI_1224, hf_1224, hkp_1224⟩) dX12_as_48
      · obtain rfl : r_1227 = 2 := hb_1227
        refine lv_iload_n hx hb dX12_as_35 rfl (lv_at hl 2 rfl) ?_
        refine lv_icmp_lt (tgt := 43) hx hb dX12_as_36 (by decide) (fun c_1232 => ?_) (fun c_1232 => ?_)
        · have n_1232 : 2 < N_1226 := n_lt (a := 2) (b := N_1226) c_1232 (by decide) (by omega)
          refine lv_aload_n hx hb dX12_as_43 rfl (lv_at hl 0 rfl) ?_
          refine lv_iconst (v := 2) hx hb dX12_as_44 (by decide) ?_
          refine hp_callMi (va_runV (As := [.int 2]) (rest := []) ⟨hx, hb, hml, hown, hts⟩ (c_X12_fails l D cy _ cs ad en_1224 (hI.1 _ (by decide)) 0 hi wd mo tb dp many grt lst nou rm rb pr wo 2 es1223_1224) (kw_X12_fails hts tw_997 ⟨by decide, by decide⟩) (preV_of hh hK (hI.1 _ (by decide)) es1223_1224 rfl) rfl rfl hl.1 rfl (lv_room (Nat.le_of_ble_eq_true rfl)) dX12_as_45 ⟨Nat.le_of_ble_eq_true rfl, Nat.le_of_ble_eq_true rfl⟩) hh hA (fun r_1233 H locs en_1233 hw_1233 hh => ?_)
          obtain ⟨hr_1233, hen_1233⟩ := hw_1233
          have es1223_1233 : en_1233 0 = .inr (11, [.int 2, .int hi, .int (nI wd), .int (nI mo), .int (nI tb), .ref (ad 1), .ref (ad 2), .ref (ad 3), .ref (ad 4), .ref (ad 5), .ref (ad 6), .ref (ad 7), .ref (ad 8), .ref (ad 9), .int dp, .long many, .long grt, .long lst, .long nou, .ref (ad 10), .ref (ad 11), .ref (ad 12), .int rm, .long rb, .ref (ad 13), .int pr, .ref (ad 14), .ref (ad 15), .ref (ad 16), .ref (ad 17), .int (nI wo), .ref (ad 18), .ref (ad 19)]) := by rw [hen_1233]; exact va_up_self _ _ _
          have hI_1233 : RX cy cs ad en_1233 := by rw [hen_1233]; exact upr_M hI_1224 ⟨2, hi, wd, mo, tb, dp, many, grt, lst, nou, rm, rb, pr, wo, rfl, hwd2, hwd3, hmo, htb, hwo⟩
          have hf_1233 : ∀ c, (c ≠ 0) → en_1233 c = en c := fun c hc => Eq.trans (show en_1233 c = en_1224 c from by rw [hen_1233, va_up_ne _ _ (by omega)]) (hf_1224 c hc)
          have hkp_1233 : KP en en_1233 := KP_fv hkp_1224 es1223_1224 es1223_1233 hi (nI wd) (nI mo) (nI tb) pr (nI wo) rfl rfl rfl rfl rfl rfl rfl rfl rfl rfl rfl rfl
          obtain rfl : r_1233 = (-12) := hr_1233.trans (by decide)
          exact hp_iretM hx hb hr rfl hlocks hh (⟨hI_1233, hf_1233, hkp_1233⟩) dX12_as_48
        · have n_1232 : N_1226 ≤ 2 := n_nlt (a := 2) (b := N_1226) c_1232 (by decide) (by omega)
          refine lv_iconst (v := 1) hx hb dX12_as_39 (by decide) ?_
          refine lv_goto (tgt := 48) hx hb dX12_as_40 (by decide) ?_
          exact hp_iretM hx hb hr rfl hlocks hh (⟨hI_1224, hf_1224, hkp_1224⟩) dX12_as_48
    · obtain rfl : r_1226 = 0 := Eq.trans hw_1226 (if_neg (fun q => hp_1226 ((wj_32 (by decide) (by decide)).mp q)))
      refine lv_if_ne (tgt := 30) hx hb dX12_as_24 (by decide) (fun c_0 => absurd c_0 (by decide)) (fun _ => ?_)
      refine lv_bipush (v := (-2)) hx hb dX12_as_27 (by decide) ?_
      exact hp_iretM hx hb hr rfl hlocks hh (⟨hI_1224, hf_1224, hkp_1224⟩) dX12_as_29
  · obtain rfl : r_1225 = 0 := Eq.trans hw_1225 (if_neg hp_1225)
    refine lv_if_ne (tgt := 15) hx hb dX12_as_10 (by decide) (fun c_0 => absurd c_0 (by decide)) (fun _ => ?_)
    refine lv_iconst (v := (-1)) hx hb dX12_as_13 (by decide) ?_
    exact hp_iretM hx hb hr rfl hlocks hh (⟨hI_1224, hf_1224, hkp_1224⟩) dX12_as_14
theorem kw_X12_as {R : Room} {s : State} {args : Array Value} {own : String} {idx : Nat} (hts : ∀ w ∈ TB, w.before args s = true) (hl : Cond.methodLink own idx yX12_as ∈ TB) (hR : 1 + 1 ≤ R.frames ∧ 8 + (3 + 11) + 40 * 1 ≤ R.locals) : CallW R s args own RX12 idx yX12_as cX12_as 3 (some .int) (Cond.code yX12_as cX12_as 3 (some .int) :: TB) (rmN 1) 0 0 2 := cwV 2 hts (TB_V hl tw_1244 tw_1245 tw_9 tw_1246) rfl rfl rfl (by decide +kernel) hR
set_option maxHeartbeats 4000000 in
set_option maxRecDepth 100000 in
/-- history -/
theorem c_X12_history (l : Launch) (D : va_G) (cy : Nat → ClassId) (sz : Nat) (cs : List Nat) (ad : Nat → Nat) (en : Nat → va_E) (hI : RX cy cs ad en)    : Met l yX12_history (Cond.code yX12_history cX12_history 1 (some .int) :: TB) (rmN 0) (va_Pc [.ref (ad 0)] (Pre D cy cs ad en sz)) (va_Qi (S := Unit) (fun _ _ => True) (fun _ _ => True) (Nf sz)) 0 0 (Nf sz) := by
  refine Met.ofW (cc := cX12_history) (maxL := 1) (ret := (some .int)) (by decide) rfl ?_
  intro p e s m args below meth c s₁ B hml hv
  obtain ⟨rfl, hsz, hP, hK, hD0⟩ := hv
  have hx := B.exec
  have hb := B.bytes
  have hr := B.returns
  have hts : ∀ w ∈ TB, w.before _ s = true := fun w h => atoms_spec (ws := _ :: TB) B.pre w (List.mem_cons_of_mem _ h)
  have hown : s.vm.findClass RX12 = some m.cls := findClass_of_methodNamed B.named
  have hlocks := B.notSynchronized
  have hh : Hp D (Nf sz) (fun _ => True) s.heap s.heap [] cs ad en := ⟨hP, hD0, va_S.rf⟩
  have hA : ∀ q : Nat, s.heap.size ≤ q → Nf sz q := fun q h => by rw [hsz] at h; exact h
  have hl := lv_entry ([.ref (ad 0)]) (n := 1) (Nat.le_of_ble_eq_true rfl)
  rw [lg_entry_eq]
  generalize (lg_sl ([.ref (ad 0)]) ++ List.replicate (1 - (lg_sl ([.ref (ad 0)])).length) Slot.unset).toArray = ls at hl ⊢
  have hl : lv_has ls 1 [(0, .ref (ad 0))] := hl
  obtain ⟨fa, hi, wd, mo, tb, dp, many, grt, lst, nou, rm, rb, pr, wo, es1234, hwd2, hwd3, hmo, htb, hwo⟩ := getr_M hI
  refine lv_aload_n hx hb dX12_history_0 rfl (lv_at hl 0 rfl) ?_
  refine hp_get hx hb hts ix12 hown hK hh (q := 0) rfl (hI.1 _ (by decide)) es1234 rfl 1 (by decide) (hts _ tw_880) (fun _ h9 => h9) rfl dX12_history_1 ?_
  exact hp_iretR hx hb hr rfl hlocks hsz hh (trivial) dX12_history_4
theorem kw_X12_history {R : Room} {s : State} {args : Array Value} {own : String} {idx : Nat} (hts : ∀ w ∈ TB, w.before args s = true) (hl : Cond.methodLink own idx yX12_history ∈ TB) (hR : 0 + 1 ≤ R.frames ∧ 8 + (1 + 11) + 40 * 0 ≤ R.locals) : CallW R s args own RX12 idx yX12_history cX12_history 1 (some .int) (Cond.code yX12_history cX12_history 1 (some .int) :: TB) (rmN 0) 0 0 0 := cwV 0 hts (TB_V hl tw_1248 tw_1249 tw_9 tw_1250) rfl rfl rfl (by decide +kernel) hR
set_option maxHeartbeats 4000000 in
set_option maxRecDepth 100000 in
/-- fault -/
theorem c_X12_fault (l : Launch) (D : va_G) (cy : Nat → ClassId) (sz : Nat) (cs : List Nat) (ad : Nat → Nat) (en : Nat → va_E) (hI : RX cy cs ad en)    : Met l yX12_fault (Cond.code yX12_fault cX12_fault 1 (some .int) :: TB) (rmN 0) (va_Pc [.ref (ad 0)] (Pre D cy cs ad en sz)) (va_Qi (S := Unit) (fun _ _ => True) (fun _ _ => True) (Nf sz)) 0 0 (Nf sz) := by
  refine Met.ofW (cc := cX12_fault) (maxL := 1) (ret := (some .int)) (by decide) rfl ?_
  intro p e s m args below meth c s₁ B hml hv
  obtain ⟨rfl, hsz, hP, hK, hD0⟩ := hv
  have hx := B.exec
  have hb := B.bytes
  have hr := B.returns
  have hts : ∀ w ∈ TB, w.before _ s = true := fun w h => atoms_spec (ws := _ :: TB) B.pre w (List.mem_cons_of_mem _ h)
  have hown : s.vm.findClass RX12 = some m.cls := findClass_of_methodNamed B.named
  have hlocks := B.notSynchronized
  have hh : Hp D (Nf sz) (fun _ => True) s.heap s.heap [] cs ad en := ⟨hP, hD0, va_S.rf⟩
  have hA : ∀ q : Nat, s.heap.size ≤ q → Nf sz q := fun q h => by rw [hsz] at h; exact h
  have hl := lv_entry ([.ref (ad 0)]) (n := 1) (Nat.le_of_ble_eq_true rfl)
  rw [lg_entry_eq]
  generalize (lg_sl ([.ref (ad 0)]) ++ List.replicate (1 - (lg_sl ([.ref (ad 0)])).length) Slot.unset).toArray = ls at hl ⊢
  have hl : lv_has ls 1 [(0, .ref (ad 0))] := hl
  obtain ⟨fa, hi, wd, mo, tb, dp, many, grt, lst, nou, rm, rb, pr, wo, es1235, hwd2, hwd3, hmo, htb, hwo⟩ := getr_M hI
  refine lv_aload_n hx hb dX12_fault_0 rfl (lv_at hl 0 rfl) ?_
  refine hp_get hx hb hts ix12 hown hK hh (q := 0) rfl (hI.1 _ (by decide)) es1235 rfl 0 (by decide) (hts _ tw_879) (fun _ h9 => h9) rfl dX12_fault_1 ?_
  exact hp_iretR hx hb hr rfl hlocks hsz hh (trivial) dX12_fault_4
theorem kw_X12_fault {R : Room} {s : State} {args : Array Value} {own : String} {idx : Nat} (hts : ∀ w ∈ TB, w.before args s = true) (hl : Cond.methodLink own idx yX12_fault ∈ TB) (hR : 0 + 1 ≤ R.frames ∧ 8 + (1 + 11) + 40 * 0 ≤ R.locals) : CallW R s args own RX12 idx yX12_fault cX12_fault 1 (some .int) (Cond.code yX12_fault cX12_fault 1 (some .int) :: TB) (rmN 0) 0 0 0 := cwV 0 hts (TB_V hl tw_1252 tw_1253 tw_9 tw_1254) rfl rfl rfl (by decide +kernel) hR
set_option maxHeartbeats 4000000 in
set_option maxRecDepth 100000 in
/-- told -/
theorem c_X12_told (l : Launch) (D : va_G) (cy : Nat → ClassId) (sz : Nat) (cs : List Nat) (ad : Nat → Nat) (en : Nat → va_E) (hI : RX cy cs ad en) (z : Int32)   : Met l yX12_told (Cond.code yX12_told cX12_told 5 (some .int) :: TB) (rmN 1) (va_Pc [.ref (ad 0), .int z] (Pre D cy cs ad en sz)) (va_Qi (S := Unit) (fun _ _ => True) (fun _ _ => True) (Nf sz)) 0 0 (Nf sz) := by
  refine Met.ofW (cc := cX12_told) (maxL := 5) (ret := (some .int)) (by decide) rfl ?_
  intro p e s m args below meth c s₁ B hml hv
  obtain ⟨rfl, hsz, hP, hK, hD0⟩ := hv
  have hx := B.exec
  have hb := B.bytes
  have hr := B.returns
  have hts : ∀ w ∈ TB, w.before _ s = true := fun w h => atoms_spec (ws := _ :: TB) B.pre w (List.mem_cons_of_mem _ h)
  have hown : s.vm.findClass RX12 = some m.cls := findClass_of_methodNamed B.named
  have hlocks := B.notSynchronized
  have hh : Hp D (Nf sz) (fun _ => True) s.heap s.heap [] cs ad en := ⟨hP, hD0, va_S.rf⟩
  have hA : ∀ q : Nat, s.heap.size ≤ q → Nf sz q := fun q h => by rw [hsz] at h; exact h
  have hl := lv_entry ([.ref (ad 0), .int z]) (n := 5) (Nat.le_of_ble_eq_true rfl)
  rw [lg_entry_eq]
  generalize (lg_sl ([.ref (ad 0), .int z]) ++ List.replicate (5 - (lg_sl ([.ref (ad 0), .int z])).length) Slot.unset).toArray = ls at hl ⊢
  have hl : lv_has ls 5 [(0, .ref (ad 0)), (1, .int z)] := hl
  obtain ⟨fa, hi, wd, mo, tb, dp, many, grt, lst, nou, rm, rb, pr, wo, es1236, hwd2, hwd3, hmo, htb, hwo⟩ := getr_M hI
  refine lv_iload_n hx hb dX12_told_0 rfl (lv_at hl 1 rfl) ?_
  by_cases q_1237_0 : z = 0
  · refine lv_tableIn (off := 35) (tgt := 36) hx hb dX12_told_1 (by rw [q_1237_0]; decide) (by rw [q_1237_0]; decide) (by rw [q_1237_0]; decide) (by decide) ?_
    refine lv_aload_n hx hb dX12_told_36 rfl (lv_at hl 0 rfl) ?_
    refine hp_get hx hb hts ix12 hown hK hh (q := 0) rfl (hI.1 _ (by decide)) es1236 rfl 4 (by decide) (hts _ tw_883) (fun _ h9 => h9) rfl dX12_told_37 ?_
    exact hp_iretR hx hb hr rfl hlocks hsz hh (trivial) dX12_told_40
  by_cases q_1237_1 : z = 1
  · refine lv_tableIn (off := 40) (tgt := 41) hx hb dX12_told_1 (by rw [q_1237_1]; decide) (by rw [q_1237_1]; decide) (by rw [q_1237_1]; decide) (by decide) ?_
    refine lv_aload_n hx hb dX12_told_41 rfl (lv_at hl 0 rfl) ?_
    refine hp_get hx hb hts ix12 hown hK hh (q := 0) rfl (hI.1 _ (by decide)) es1236 rfl 2 (by decide) (hts _ tw_881) (fun _ h9 => h9) rfl dX12_told_42 ?_
    exact hp_iretR hx hb hr rfl hlocks hsz hh (trivial) dX12_told_45
  by_cases q_1237_2 : z = 2
  · refine lv_tableIn (off := 45) (tgt := 46) hx hb dX12_told_1 (by rw [q_1237_2]; decide) (by rw [q_1237_2]; decide) (by rw [q_1237_2]; decide) (by decide) ?_
    refine lv_aload_n hx hb dX12_told_46 rfl (lv_at hl 0 rfl) ?_
    refine hp_get hx hb hts ix12 hown hK hh (q := 0) rfl (hI.1 _ (by decide)) es1236 rfl 3 (by decide) (hts _ tw_882) (fun _ h9 => h9) rfl dX12_told_47 ?_
    exact hp_iretR hx hb hr rfl hlocks hsz hh (trivial) dX12_told_50
  by_cases q_1237_3 : z = 3
  · refine lv_tableIn (off := 50) (tgt := 51) hx hb dX12_told_1 (by rw [q_1237_3]; decide) (by rw [q_1237_3]; decide) (by rw [q_1237_3]; decide) (by decide) ?_
    refine lv_aload_n hx hb dX12_told_51 rfl (lv_at hl 0 rfl) ?_
    refine hp_get hx hb hts ix12 hown hK hh (q := 0) rfl (hI.1 _ (by decide)) es1236 rfl 30 (by decide) (hts _ tw_909) (fun _ h9 => h9) rfl dX12_told_52 ?_
    exact hp_iretR hx hb hr rfl hlocks hsz hh (trivial) dX12_told_55
  by_cases q_1237_4 : z = 4
  · refine lv_tableIn (off := 55) (tgt := 56) hx hb dX12_told_1 (by rw [q_1237_4]; decide) (by rw [q_1237_4]; decide) (by rw [q_1237_4]; decide) (by decide) ?_
    refine lv_iconst (v := 0) hx hb dX12_told_56 (by decide) ?_
    refine lv_istore_n (lv' := [(2, .int 0), (0, .ref (ad 0)), (1, .int z)]) hx hb dX12_told_57 rfl hl (by decide) rfl (fun ls hl => ?_)
    refine lv_iconst (v := 0) hx hb dX12_told_58 (by decide) ?_
    refine lv_istore_n (lv' := [(3, .int 0), (2, .int 0), (0, .ref (ad 0)), (1, .int z)]) hx hb dX12_told_59 rfl hl (by decide) rfl (fun ls hl => ?_)
    have loop_1238 : ∀ (fu j1238 : Nat) (ac1238 : Int32)  (ls : Array Slot) (H : Heap) (locs : List Loc), 0 ≤ j1238 → j1238 ≤ tb → tb < j1238 + fu →   lv_has ls 5 [(3, .int (nI j1238)), (2, .int ac1238), (0, .ref (ad 0)), (1, .int z)] → Hp D (Nf sz) (fun _ => True) s.heap H locs cs ad en → W p l e (headSpec (Cond.code yX12_told cX12_told 5 (some .int) :: TB) (rmN 1)).room s m ([.ref (ad 0), .int z] : List Value).toArray below meth c H locs 0 0 (MQ below (va_Qi (S := Unit) (fun _ _ => True) (fun _ _ => True) (Nf sz)) ([.ref (ad 0), .int z] : List Value).toArray s 0 0 (Nf sz)) (F0 m 60 ls []) := by
      intro fu
      induction fu with
      | zero => intro j1238 ac1238 ls H locs h0 h1 h2; exact absurd h2 (by omega)
      | succ fu ih_1238 =>
        intro j1238 ac1238 ls H locs hj0_1238 hj_1238 hfu_1238  hl hh
        refine lv_iload_n hx hb dX12_told_60 rfl (lv_at hl 0 rfl) ?_
        refine lv_aload_n hx hb dX12_told_61 rfl (lv_at hl 2 rfl) ?_
        refine hp_get hx hb hts ix12 hown hK hh (q := 0) rfl (hI.1 _ (by decide)) es1236 rfl 4 (by decide) (hts _ tw_883) (fun _ h9 => h9) rfl dX12_told_62 ?_
        refine lv_icmp_ge (tgt := 110) hx hb dX12_told_65 (by decide) (fun c_1239 => ?_) (fun c_1239 => ?_)
        · have n_1239 : tb ≤ j1238 := n_le (a := tb) (b := j1238) c_1239 (by omega) (by omega)
          refine lv_iload_n hx hb dX12_told_110 rfl (lv_at hl 1 rfl) ?_
          exact hp_iretR hx hb hr rfl hlocks hsz hh (trivial) dX12_told_111
        · have n_1239 : j1238 < tb := n_nle (a := tb) (b := j1238) c_1239 (by omega) (by omega)
          refine lv_iconst (v := 0) hx hb dX12_told_68 (by decide) ?_
          refine lv_istore (lv' := [(4, .int 0), (3, .int (nI j1238)), (2, .int ac1238), (0, .ref (ad 0)), (1, .int z)]) hx hb dX12_told_69 hl (by decide) rfl (fun ls hl => ?_)
          have loop_1240 : ∀ (fu j1240 : Nat) (ac1240 : Int32)  (ls : Array Slot) (H : Heap) (locs : List Loc), 0 ≤ j1240 → j1240 ≤ tb → tb < j1240 + fu →   lv_has ls 5 [(4, .int (nI j1240)), (3, .int (nI j1238)), (2, .int ac1240), (0, .ref (ad 0)), (1, .int z)] → Hp D (Nf sz) (fun _ => True) s.heap H locs cs ad en → W p l e (headSpec (Cond.code yX12_told cX12_told 5 (some .int) :: TB) (rmN 1)).room s m ([.ref (ad 0), .int z] : List Value).toArray below meth c H locs 0 0 (MQ below (va_Qi (S := Unit) (fun _ _ => True) (fun _ _ => True) (Nf sz)) ([.ref (ad 0), .int z] : List Value).toArray s 0 0 (Nf sz)) (F0 m 71 ls []) := by
            intro fu
            induction fu with
            | zero => intro j1240 ac1240 ls H locs h0 h1 h2; exact absurd h2 (by omega)
            | succ fu ih_1240 =>
              intro j1240 ac1240 ls H locs hj0_1240 hj_1240 hfu_1240  hl hh
              refine lv_iload hx hb dX12_told_71 (lv_at hl 0 rfl) ?_
              refine lv_aload_n hx hb dX12_told_73 rfl (lv_at hl 3 rfl) ?_
              refine hp_get hx hb hts ix12 hown hK hh (q := 0) rfl (hI.1 _ (by decide)) es1236 rfl 4 (by decide) (hts _ tw_883) (fun _ h9 => h9) rfl dX12_told_74 ?_
              refine lv_icmp_ge (tgt := 104) hx hb dX12_told_77 (by decide) (fun c_1241 => ?_) (fun c_1241 => ?_)
              · have n_1241 : tb ≤ j1240 := n_le (a := tb) (b := j1240) c_1241 (by omega) (by omega)
                refine lv_iinc (v := (nI (j1238 + 1))) (lv' := [(3, .int (nI (j1238 + 1))), (4, .int (nI j1240)), (2, .int ac1240), (0, .ref (ad 0)), (1, .int z)]) hx hb dX12_told_104 hl (k := 1) rfl (nI_1 _) (by decide) rfl (fun ls hl => ?_)
                refine lv_goto (tgt := 60) hx hb dX12_told_107 (by decide) ?_
                exact ih_1238 ((j1238 + 1)) ac1240 ls H locs (by omega) (by omega) (by omega)  (lv_sub hl [0, 2, 3, 4] rfl) hh
              · have n_1241 : j1240 < tb := n_nle (a := tb) (b := j1240) c_1241 (by omega) (by omega)
                refine lv_iload_n hx hb dX12_told_80 rfl (lv_at hl 2 rfl) ?_
                refine lv_aload_n hx hb dX12_told_81 rfl (lv_at hl 3 rfl) ?_
                refine lv_iload_n hx hb dX12_told_82 rfl (lv_at hl 1 rfl) ?_
                refine lv_iload hx hb dX12_told_83 (lv_at hl 0 rfl) ?_
                refine hp_callRi (va_runV (As := [.int (nI j1238), .int (nI j1240)]) (rest := [.int ac1240]) ⟨hx, hb, hml, hown, hts⟩ (c_X12_mayFollow l D cy _ cs ad en hI j1238 j1240 (by omega) (by omega)) (kw_X12_mayFollow hts tw_1029 ⟨by decide, by decide⟩) (preV_of hh hK (hI.1 _ (by decide)) es1236 rfl) rfl rfl hl.1 rfl (lv_room (Nat.le_of_ble_eq_true rfl)) dX12_told_85 ⟨Nat.le_of_ble_eq_true rfl, Nat.le_of_ble_eq_true rfl⟩) hh hA (fun r_1242 H locs hw_1242 hh => ?_)
                rcases Decidable.em (rdF (en 2) (6 * j1238 + j1240) = 0) with hp_1242 | hp_1242
                · obtain rfl : r_1242 = 1 := Eq.trans hw_1242 (if_pos hp_1242)
                  refine lv_if_eq (tgt := 95) hx hb dX12_told_88 (by decide) (fun c_0 => absurd c_0 (by decide)) (fun _ => ?_)
                  refine lv_iconst (v := 1) hx hb dX12_told_91 (by decide) ?_
                  refine lv_goto (tgt := 96) hx hb dX12_told_92 (by decide) ?_
                  refine lv_iadd hx hb dX12_told_96 ?_
                  refine lv_istore_n (lv' := [(2, .int (ac1240 + 1)), (4, .int (nI j1240)), (3, .int (nI j1238)), (0, .ref (ad 0)), (1, .int z)]) hx hb dX12_told_97 rfl hl (by decide) rfl (fun ls hl => ?_)
                  refine lv_iinc (v := (nI (j1240 + 1))) (lv' := [(4, .int (nI (j1240 + 1))), (2, .int (ac1240 + 1)), (3, .int (nI j1238)), (0, .ref (ad 0)), (1, .int z)]) hx hb dX12_told_98 hl (k := 1) rfl (nI_1 _) (by decide) rfl (fun ls hl => ?_)
                  refine lv_goto (tgt := 71) hx hb dX12_told_101 (by decide) ?_
                  exact ih_1240 ((j1240 + 1)) (ac1240 + 1) ls H locs (by omega) (by omega) (by omega)  (lv_sub hl [0, 2, 1, 3, 4] rfl) hh
                · obtain rfl : r_1242 = 0 := Eq.trans hw_1242 (if_neg hp_1242)
                  refine lv_if_eq (tgt := 95) hx hb dX12_told_88 (by decide) (fun _ => ?_) (fun c_0 => absurd c_0 (by decide))
                  refine lv_iconst (v := 0) hx hb dX12_told_95 (by decide) ?_
                  refine lv_iadd hx hb dX12_told_96 ?_
                  refine lv_istore_n (lv' := [(2, .int (ac1240 + 0)), (4, .int (nI j1240)), (3, .int (nI j1238)), (0, .ref (ad 0)), (1, .int z)]) hx hb dX12_told_97 rfl hl (by decide) rfl (fun ls hl => ?_)
                  refine lv_iinc (v := (nI (j1240 + 1))) (lv' := [(4, .int (nI (j1240 + 1))), (2, .int (ac1240 + 0)), (3, .int (nI j1238)), (0, .ref (ad 0)), (1, .int z)]) hx hb dX12_told_98 hl (k := 1) rfl (nI_1 _) (by decide) rfl (fun ls hl => ?_)
                  refine lv_goto (tgt := 71) hx hb dX12_told_101 (by decide) ?_
                  exact ih_1240 ((j1240 + 1)) (ac1240 + 0) ls H locs (by omega) (by omega) (by omega)  (lv_sub hl [0, 2, 1, 3, 4] rfl) hh
          exact loop_1240 (tb + 1) 0 ac1238 ls _ _ (Nat.le_refl _) (by omega) (by omega)  (lv_sub hl [0, 1, 2, 3, 4] rfl) hh
    exact loop_1238 (tb + 1) 0 0 ls _ _ (Nat.le_refl _) (by omega) (by omega)  (lv_sub hl [0, 1, 2, 3] rfl) hh
  refine lv_tableOut (tgt := 112) hx hb dX12_told_1 (tb_out 5 (by decide) (by decide) (fun j hj => by rcases (show j = 0 ∨ j = 1 ∨ j = 2 ∨ j = 3 ∨ j = 4 by omega) with rfl | rfl | rfl | rfl | rfl <;> first | exact lv_neT q_1237_0 (by decide) | exact lv_neT q_1237_1 (by decide) | exact lv_neT q_1237_2 (by decide) | exact lv_neT q_1237_3 (by decide) | exact lv_neT q_1237_4 (by decide))) (by decide) ?_
  refine lv_bipush (v := (-2)) hx hb dX12_told_112 (by decide) ?_
  exact hp_iretR hx hb hr rfl hlocks hsz hh (trivial) dX12_told_114
theorem kw_X12_told {R : Room} {s : State} {args : Array Value} {own : String} {idx : Nat} (hts : ∀ w ∈ TB, w.before args s = true) (hl : Cond.methodLink own idx yX12_told ∈ TB) (hR : 1 + 1 ≤ R.frames ∧ 8 + (5 + 11) + 40 * 1 ≤ R.locals) : CallW R s args own RX12 idx yX12_told cX12_told 5 (some .int) (Cond.code yX12_told cX12_told 5 (some .int) :: TB) (rmN 1) 0 0 1 := cwV 1 hts (TB_V hl tw_1256 tw_1257 tw_9 tw_1258) rfl rfl rfl (by decide +kernel) hR
set_option maxHeartbeats 4000000 in
set_option maxRecDepth 100000 in
/-- letter -/
theorem c_X12_letter (l : Launch) (D : va_G) (cy : Nat → ClassId) (sz : Nat) (cs : List Nat) (ad : Nat → Nat) (en : Nat → va_E) (hI : RX cy cs ad en) (w i9 : Int32)   : Met l yX12_letter (Cond.code yX12_letter cX12_letter 3 (some .int) :: TB) (rmN 1) (va_Pc [.ref (ad 0), .int w, .int i9] (Pre D cy cs ad en sz)) (va_Qi (S := Unit) (fun _ _ => True) (fun _ _ => True) (Nf sz)) 0 0 (Nf sz) := by
  refine Met.ofW (cc := cX12_letter) (maxL := 3) (ret := (some .int)) (by decide) rfl ?_
  intro p e s m args below meth c s₁ B hml hv
  obtain ⟨rfl, hsz, hP, hK, hD0⟩ := hv
  have hx := B.exec
  have hb := B.bytes
  have hr := B.returns
  have hts : ∀ w ∈ TB, w.before _ s = true := fun w h => atoms_spec (ws := _ :: TB) B.pre w (List.mem_cons_of_mem _ h)
  have hown : s.vm.findClass RX12 = some m.cls := findClass_of_methodNamed B.named
  have hlocks := B.notSynchronized
  have hh : Hp D (Nf sz) (fun _ => True) s.heap s.heap [] cs ad en := ⟨hP, hD0, va_S.rf⟩
  have hA : ∀ q : Nat, s.heap.size ≤ q → Nf sz q := fun q h => by rw [hsz] at h; exact h
  have hl := lv_entry ([.ref (ad 0), .int w, .int i9]) (n := 3) (Nat.le_of_ble_eq_true rfl)
  rw [lg_entry_eq]
  generalize (lg_sl ([.ref (ad 0), .int w, .int i9]) ++ List.replicate (3 - (lg_sl ([.ref (ad 0), .int w, .int i9])).length) Slot.unset).toArray = ls at hl ⊢
  have hl : lv_has ls 3 [(0, .ref (ad 0)), (1, .int w), (2, .int i9)] := hl
  obtain ⟨fa, hi, wd, mo, tb, dp, many, grt, lst, nou, rm, rb, pr, wo, es1243, hwd2, hwd3, hmo, htb, hwo⟩ := getr_M hI
  refine lv_aload_n hx hb dX12_letter_0 rfl (lv_at hl 0 rfl) ?_
  refine lv_iload_n hx hb dX12_letter_1 rfl (lv_at hl 1 rfl) ?_
  refine hp_callRi (va_runV (As := [.int w]) (rest := []) ⟨hx, hb, hml, hown, hts⟩ (c_X12_isWord l D cy _ cs ad en hI w ) (kw_X12_isWord hts tw_1175 ⟨by decide, by decide⟩) (preV_of hh hK (hI.1 _ (by decide)) es1243 rfl) rfl rfl hl.1 rfl (lv_room (Nat.le_of_ble_eq_true rfl)) dX12_letter_2 ⟨Nat.le_of_ble_eq_true rfl, Nat.le_of_ble_eq_true rfl⟩) hh hA (fun r_1244 H locs hw_1244 hh => ?_)
  rw [show rdI (en 0) 30 = (nI wo) from by rw [es1243]; rfl, nI_toInt (n := wo) (by omega)] at hw_1244
  rcases Decidable.em (0 ≤ w.toInt ∧ w.toInt < (wo : Int)) with hp_1244 | hp_1244
  · obtain rfl : r_1244 = 1 := Eq.trans hw_1244 (if_pos hp_1244)
    obtain ⟨T_1244, rfl, hT_1244⟩ := has_nat hp_1244
    refine lv_if_eq (tgt := 40) hx hb dX12_letter_5 (by decide) (fun c_0 => absurd c_0 (by decide)) (fun _ => ?_)
    refine lv_iload_n hx hb dX12_letter_8 rfl (lv_at hl 2 rfl) ?_
    refine lv_i2l hx hb dX12_letter_9 rfl ?_
    refine lv_lconst (v := 0) hx hb dX12_letter_10 (by decide) ?_
    refine lv_aload_n hx hb dX12_letter_11 rfl (lv_at hl 0 rfl) ?_
    refine hp_get hx hb hts ix12 hown hK hh (q := 0) rfl (hI.1 _ (by decide)) es1243 rfl 32 (by decide) (hts _ tw_911) (fun _ h9 => h9) rfl dX12_letter_12 ?_
    refine lv_iload_n hx hb dX12_letter_15 rfl (lv_at hl 1 rfl) ?_
    obtain ⟨f_1245, es1245, p0_1245⟩ := getr_wl hI
    refine hp_iald hx hb hK hh (q := 19) rfl (hI.1 _ (by decide)) es1245 (vp_in_nI (n := T_1244) (by omega) (by decide)) dX12_letter_16 ?_
    rw [nI_clamp (n := T_1244) (by omega)]
    obtain ⟨v_1246, hv_1246, hfv_1246⟩ := p0_1245 T_1244 (by omega)
    rw [hfv_1246]
    refine lv_i2l hx hb dX12_letter_17 rfl ?_
    refine lv_lconst (v := 1) hx hb dX12_letter_18 (by decide) ?_
    refine lv_lsub hx hb dX12_letter_19 ?_
    refine hp_callRi (va_runS (As := [.long i9.toInt64, .long 0, .long ((nI v_1246).toInt64 - 1)]) (rest := []) ⟨hx, hb, hml, hown, hts⟩ (c_X12_within l D cy _ cs ad en i9.toInt64 0 ((nI v_1246).toInt64 - 1)) (kw_X12_within hts tw_985 ⟨by decide, by decide⟩) (preS_of hh hK) rfl rfl hl.1 rfl (lv_room (Nat.le_of_ble_eq_true rfl)) dX12_letter_20 ⟨Nat.le_of_ble_eq_true rfl, Nat.le_of_ble_eq_true rfl⟩) hh hA (fun r_1247 H locs hw_1247 hh => ?_)
    rcases Decidable.em (0 ≤ i9.toInt ∧ i9.toInt < (v_1246 : Int)) with hp_1247 | hp_1247
    · obtain rfl : r_1247 = 1 := Eq.trans hw_1247 (if_pos ((wj_m1 (by omega)).mpr hp_1247))
      obtain ⟨N_1247, rfl, hB_1247⟩ := has_nat hp_1247
      refine lv_if_eq (tgt := 40) hx hb dX12_letter_23 (by decide) (fun c_0 => absurd c_0 (by decide)) (fun _ => ?_)
      refine lv_aload_n hx hb dX12_letter_26 rfl (lv_at hl 0 rfl) ?_
      refine hp_get hx hb hts ix12 hown hK hh (q := 0) rfl (hI.1 _ (by decide)) es1243 rfl 31 (by decide) (hts _ tw_910) (fun _ h9 => h9) rfl dX12_letter_27 ?_
      refine lv_bipush (v := 12) hx hb dX12_letter_30 (by decide) ?_
      refine lv_iload_n hx hb dX12_letter_32 rfl (lv_at hl 1 rfl) ?_
      refine lv_imul hx hb dX12_letter_33 ?_
      rw [show (12 : Int32) = nI 12 from rfl, pk_mul 12 T_1244]
      refine lv_iload_n hx hb dX12_letter_34 rfl (lv_at hl 2 rfl) ?_
      refine lv_iadd hx hb dX12_letter_35 ?_
      rw [nI_add (12 * T_1244) N_1247]
      obtain ⟨f_1248, es1248, p0_1248⟩ := getr_lt hI
      refine hp_iald hx hb hK hh (q := 18) rfl (hI.1 _ (by decide)) es1248 (vp_in_nI (n := ((12 * T_1244) + N_1247)) (by omega) (by decide)) dX12_letter_36 ?_
      rw [nI_clamp (n := ((12 * T_1244) + N_1247)) (by omega)]
      obtain ⟨v_1249, hv_1249, hfv_1249⟩ := p0_1248 ((12 * T_1244) + N_1247) (by omega)
      rw [hfv_1249]
      refine lv_goto (tgt := 41) hx hb dX12_letter_37 (by decide) ?_
      exact hp_iretR hx hb hr rfl hlocks hsz hh (trivial) dX12_letter_41
    · obtain rfl : r_1247 = 0 := Eq.trans hw_1247 (if_neg (fun q => hp_1247 ((wj_m1 (by omega)).mp q)))
      refine lv_if_eq (tgt := 40) hx hb dX12_letter_23 (by decide) (fun _ => ?_) (fun c_0 => absurd c_0 (by decide))
      refine lv_iconst (v := (-1)) hx hb dX12_letter_40 (by decide) ?_
      exact hp_iretR hx hb hr rfl hlocks hsz hh (trivial) dX12_letter_41
  · obtain rfl : r_1244 = 0 := Eq.trans hw_1244 (if_neg hp_1244)
    refine lv_if_eq (tgt := 40) hx hb dX12_letter_5 (by decide) (fun _ => ?_) (fun c_0 => absurd c_0 (by decide))
    refine lv_iconst (v := (-1)) hx hb dX12_letter_40 (by decide) ?_
    exact hp_iretR hx hb hr rfl hlocks hsz hh (trivial) dX12_letter_41
theorem kw_X12_letter {R : Room} {s : State} {args : Array Value} {own : String} {idx : Nat} (hts : ∀ w ∈ TB, w.before args s = true) (hl : Cond.methodLink own idx yX12_letter ∈ TB) (hR : 1 + 1 ≤ R.frames ∧ 8 + (3 + 11) + 40 * 1 ≤ R.locals) : CallW R s args own RX12 idx yX12_letter cX12_letter 3 (some .int) (Cond.code yX12_letter cX12_letter 3 (some .int) :: TB) (rmN 1) 0 0 2 := cwV 2 hts (TB_V hl tw_1180 tw_1181 tw_9 tw_1182) rfl rfl rfl (by decide +kernel) hR
set_option maxHeartbeats 4000000 in
set_option maxRecDepth 100000 in
/-- isAllowed -/
theorem c_X12_isAllowed (l : Launch) (D : va_G) (cy : Nat → ClassId) (sz : Nat) (cs : List Nat) (ad : Nat → Nat) (en : Nat → va_E) (hI : RX cy cs ad en) (n : Nat) (hn1 : 1 ≤ n) (hn12 : n ≤ 12)   : Met l yX12_isAllowed (Cond.code yX12_isAllowed cX12_isAllowed 3 (some .boolean) :: TB) (rmN 1) (va_Pc [.ref (ad 0), .int (nI n)] (Pre D cy cs ad en sz)) (va_Qi (S := Unit) (fun r _ => r = 0 ∨ r = 1) (fun _ _ => True) (Nf sz)) 0 0 (Nf sz) := by
  refine Met.ofW (cc := cX12_isAllowed) (maxL := 3) (ret := (some .boolean)) (by decide) rfl ?_
  intro p e s m args below meth c s₁ B hml hv
  obtain ⟨rfl, hsz, hP, hK, hD0⟩ := hv
  have hx := B.exec
  have hb := B.bytes
  have hr := B.returns
  have hts : ∀ w ∈ TB, w.before _ s = true := fun w h => atoms_spec (ws := _ :: TB) B.pre w (List.mem_cons_of_mem _ h)
  have hown : s.vm.findClass RX12 = some m.cls := findClass_of_methodNamed B.named
  have hlocks := B.notSynchronized
  have hh : Hp D (Nf sz) (fun _ => True) s.heap s.heap [] cs ad en := ⟨hP, hD0, va_S.rf⟩
  have hA : ∀ q : Nat, s.heap.size ≤ q → Nf sz q := fun q h => by rw [hsz] at h; exact h
  have hl := lv_entry ([.ref (ad 0), .int (nI n)]) (n := 3) (Nat.le_of_ble_eq_true rfl)
  rw [lg_entry_eq]
  generalize (lg_sl ([.ref (ad 0), .int (nI n)]) ++ List.replicate (3 - (lg_sl ([.ref (ad 0), .int (nI n)])).length) Slot.unset).toArray = ls at hl ⊢
  have hl : lv_has ls 3 [(0, .ref (ad 0)), (1, .int (nI n))] := hl
  obtain ⟨fa, hi, wd, mo, tb, dp, many, grt, lst, nou, rm, rb, pr, wo, es1250, hwd2, hwd3, hmo, htb, hwo⟩ := getr_M hI
  obtain ⟨f_1251, es1251, p0_1251⟩ := getr_ak hI
  refine lv_iconst (v := 1) hx hb dX12_isAllowed_0 (by decide) ?_
  refine lv_istore_n (lv' := [(2, .int 1), (0, .ref (ad 0)), (1, .int (nI n))]) hx hb dX12_isAllowed_1 rfl hl (by decide) rfl (fun ls hl => ?_)
  have loop_1252 : ∀ (fu j1252 : Nat)   (ls : Array Slot) (H : Heap) (locs : List Loc), 1 ≤ j1252 → j1252 ≤ n → n < j1252 + fu →   lv_has ls 3 [(2, .int (nI j1252)), (0, .ref (ad 0)), (1, .int (nI n))] → Hp D (Nf sz) (fun _ => True) s.heap H locs cs ad en → W p l e (headSpec (Cond.code yX12_isAllowed cX12_isAllowed 3 (some .boolean) :: TB) (rmN 1)).room s m ([.ref (ad 0), .int (nI n)] : List Value).toArray below meth c H locs 0 0 (MQ below (va_Qi (S := Unit) (fun r _ => r = 0 ∨ r = 1) (fun _ _ => True) (Nf sz)) ([.ref (ad 0), .int (nI n)] : List Value).toArray s 0 0 (Nf sz)) (F0 m 2 ls []) := by
    intro fu
    induction fu with
    | zero => intro j1252  ls H locs h0 h1 h2; exact absurd h2 (by omega)
    | succ fu ih_1252 =>
      intro j1252  ls H locs hj0_1252 hj_1252 hfu_1252  hl hh
      refine lv_iload_n hx hb dX12_isAllowed_2 rfl (lv_at hl 0 rfl) ?_
      refine lv_iload_n hx hb dX12_isAllowed_3 rfl (lv_at hl 2 rfl) ?_
      refine lv_icmp_ge (tgt := 36) hx hb dX12_isAllowed_4 (by decide) (fun c_1253 => ?_) (fun c_1253 => ?_)
      · have n_1253 : n ≤ j1252 := n_le (a := n) (b := j1252) c_1253 (by omega) (by omega)
        refine lv_iconst (v := 1) hx hb dX12_isAllowed_36 (by decide) ?_
        exact hp_iretR hx hb hr rfl hlocks hsz hh (Or.inr rfl) dX12_isAllowed_37
      · have n_1253 : j1252 < n := n_nle (a := n) (b := j1252) c_1253 (by omega) (by omega)
        refine lv_aload_n hx hb dX12_isAllowed_7 rfl (lv_at hl 1 rfl) ?_
        refine lv_aload_n hx hb dX12_isAllowed_8 rfl (lv_at hl 1 rfl) ?_
        refine hp_get hx hb hts ix12 hown hK hh (q := 0) rfl (hI.1 _ (by decide)) es1250 rfl 21 (by decide) (hts _ tw_900) (fun _ h9 => h9) rfl dX12_isAllowed_9 ?_
        refine lv_iload_n hx hb dX12_isAllowed_12 rfl (lv_at hl 0 rfl) ?_
        refine lv_iconst (v := 1) hx hb dX12_isAllowed_13 (by decide) ?_
        refine lv_isub hx hb dX12_isAllowed_14 ?_
        rw [show (1 : Int32) = nI 1 from rfl, pk_sub (a := j1252) (b := 1) (by omega)]
        refine hp_iald hx hb hK hh (q := 12) rfl (hI.1 _ (by decide)) es1251 (vp_in_nI (n := (j1252 - 1)) (by omega) (by decide)) dX12_isAllowed_15 ?_
        rw [nI_clamp (n := (j1252 - 1)) (by omega)]
        obtain ⟨v_1254, hv_1254, hfv_1254⟩ := p0_1251 (j1252 - 1) (by omega)
        rw [hfv_1254]
        refine lv_aload_n hx hb dX12_isAllowed_16 rfl (lv_at hl 1 rfl) ?_
        refine hp_get hx hb hts ix12 hown hK hh (q := 0) rfl (hI.1 _ (by decide)) es1250 rfl 21 (by decide) (hts _ tw_900) (fun _ h9 => h9) rfl dX12_isAllowed_17 ?_
        refine lv_iload_n hx hb dX12_isAllowed_20 rfl (lv_at hl 0 rfl) ?_
        refine hp_iald hx hb hK hh (q := 12) rfl (hI.1 _ (by decide)) es1251 (vp_in_nI (n := j1252) (by omega) (by decide)) dX12_isAllowed_21 ?_
        rw [nI_clamp (n := j1252) (by omega)]
        obtain ⟨v_1255, hv_1255, hfv_1255⟩ := p0_1251 j1252 (by omega)
        rw [hfv_1255]
        refine hp_callRi (va_runV (As := [.int (nI v_1254), .int (nI v_1255)]) (rest := []) ⟨hx, hb, hml, hown, hts⟩ (c_X12_mayFollow l D cy _ cs ad en hI v_1254 v_1255 (by omega) (by omega)) (kw_X12_mayFollow hts tw_1029 ⟨by decide, by decide⟩) (preV_of hh hK (hI.1 _ (by decide)) es1250 rfl) rfl rfl hl.1 rfl (lv_room (Nat.le_of_ble_eq_true rfl)) dX12_isAllowed_22 ⟨Nat.le_of_ble_eq_true rfl, Nat.le_of_ble_eq_true rfl⟩) hh hA (fun r_1256 H locs hw_1256 hh => ?_)
        rcases Decidable.em (rdF (en 2) (6 * v_1254 + v_1255) = 0) with hp_1256 | hp_1256
        · obtain rfl : r_1256 = 1 := Eq.trans hw_1256 (if_pos hp_1256)
          refine lv_if_ne (tgt := 30) hx hb dX12_isAllowed_25 (by decide) (fun _ => ?_) (fun c_0 => absurd c_0 (by decide))
          refine lv_iinc (v := (nI (j1252 + 1))) (lv' := [(2, .int (nI (j1252 + 1))), (0, .ref (ad 0)), (1, .int (nI n))]) hx hb dX12_isAllowed_30 hl (k := 0) rfl (nI_1 _) (by decide) rfl (fun ls hl => ?_)
          refine lv_goto (tgt := 2) hx hb dX12_isAllowed_33 (by decide) ?_
          exact ih_1252 ((j1252 + 1))  ls H locs (by omega) (by omega) (by omega)  (lv_sub hl [0, 1, 2] rfl) hh
        · obtain rfl : r_1256 = 0 := Eq.trans hw_1256 (if_neg hp_1256)
          refine lv_if_ne (tgt := 30) hx hb dX12_isAllowed_25 (by decide) (fun c_0 => absurd c_0 (by decide)) (fun _ => ?_)
          refine lv_iconst (v := 0) hx hb dX12_isAllowed_28 (by decide) ?_
          exact hp_iretR hx hb hr rfl hlocks hsz hh (Or.inl rfl) dX12_isAllowed_29
  exact loop_1252 (n + 1) 1  ls _ _ (Nat.le_refl _) (by omega) (by omega)  (lv_sub hl [0, 1, 2] rfl) hh
theorem kw_X12_isAllowed {R : Room} {s : State} {args : Array Value} {own : String} {idx : Nat} (hts : ∀ w ∈ TB, w.before args s = true) (hl : Cond.methodLink own idx yX12_isAllowed ∈ TB) (hR : 1 + 1 ≤ R.frames ∧ 8 + (3 + 11) + 40 * 1 ≤ R.locals) : CallW R s args own RX12 idx yX12_isAllowed cX12_isAllowed 3 (some .boolean) (Cond.code yX12_isAllowed cX12_isAllowed 3 (some .boolean) :: TB) (rmN 1) 0 0 1 := cwV 1 hts (TB_V hl tw_1083 ts_46 tw_9 tw_1084) rfl rfl rfl (by decide +kernel) hR
set_option maxHeartbeats 4000000 in
set_option maxRecDepth 100000 in
/-- timesOf -/
theorem c_X12_timesOf (l : Launch) (D : va_G) (cy : Nat → ClassId) (sz : Nat) (cs : List Nat) (ad : Nat → Nat) (en : Nat → va_E) (hI : RX cy cs ad en) (n : Nat) (hn1 : 1 ≤ n) (hn12 : n ≤ 12)   : Met l yX12_timesOf (Cond.code yX12_timesOf cX12_timesOf 5 (some .int) :: TB) (rmN 0) (va_Pc [.ref (ad 0), .int (nI n)] (Pre D cy cs ad en sz)) (va_Qi (S := Unit) (fun _ _ => True) (fun _ _ => True) (Nf sz)) 0 0 (Nf sz) := by
  refine Met.ofW (cc := cX12_timesOf) (maxL := 5) (ret := (some .int)) (by decide) rfl ?_
  intro p e s m args below meth c s₁ B hml hv
  obtain ⟨rfl, hsz, hP, hK, hD0⟩ := hv
  have hx := B.exec
  have hb := B.bytes
  have hr := B.returns
  have hts : ∀ w ∈ TB, w.before _ s = true := fun w h => atoms_spec (ws := _ :: TB) B.pre w (List.mem_cons_of_mem _ h)
  have hown : s.vm.findClass RX12 = some m.cls := findClass_of_methodNamed B.named
  have hlocks := B.notSynchronized
  have hh : Hp D (Nf sz) (fun _ => True) s.heap s.heap [] cs ad en := ⟨hP, hD0, va_S.rf⟩
  have hA : ∀ q : Nat, s.heap.size ≤ q → Nf sz q := fun q h => by rw [hsz] at h; exact h
  have hl := lv_entry ([.ref (ad 0), .int (nI n)]) (n := 5) (Nat.le_of_ble_eq_true rfl)
  rw [lg_entry_eq]
  generalize (lg_sl ([.ref (ad 0), .int (nI n)]) ++ List.replicate (5 - (lg_sl ([.ref (ad 0), .int (nI n)])).length) Slot.unset).toArray = ls at hl ⊢
  have hl : lv_has ls 5 [(0, .ref (ad 0)), (1, .int (nI n))] := hl
  obtain ⟨fa, hi, wd, mo, tb, dp, many, grt, lst, nou, rm, rb, pr, wo, es1257, hwd2, hwd3, hmo, htb, hwo⟩ := getr_M hI
  obtain ⟨f_1258, es1258, p0_1258⟩ := getr_ak hI
  refine lv_iconst (v := 1) hx hb dX12_timesOf_0 (by decide) ?_
  refine lv_istore_n (lv' := [(2, .int 1), (0, .ref (ad 0)), (1, .int (nI n))]) hx hb dX12_timesOf_1 rfl hl (by decide) rfl (fun ls hl => ?_)
  have loop_1259 : ∀ (fu j1259 : Nat)   (ls : Array Slot) (H : Heap) (locs : List Loc), 1 ≤ j1259 → j1259 ≤ n → n < j1259 + fu →   lv_has ls 5 [(2, .int (nI j1259)), (0, .ref (ad 0)), (1, .int (nI n))] → Hp D (Nf sz) (fun _ => True) s.heap H locs cs ad en → W p l e (headSpec (Cond.code yX12_timesOf cX12_timesOf 5 (some .int) :: TB) (rmN 0)).room s m ([.ref (ad 0), .int (nI n)] : List Value).toArray below meth c H locs 0 0 (MQ below (va_Qi (S := Unit) (fun _ _ => True) (fun _ _ => True) (Nf sz)) ([.ref (ad 0), .int (nI n)] : List Value).toArray s 0 0 (Nf sz)) (F0 m 2 ls []) := by
    intro fu
    induction fu with
    | zero => intro j1259  ls H locs h0 h1 h2; exact absurd h2 (by omega)
    | succ fu ih_1259 =>
      intro j1259  ls H locs hj0_1259 hj_1259 hfu_1259  hl hh
      refine lv_iload_n hx hb dX12_timesOf_2 rfl (lv_at hl 0 rfl) ?_
      refine lv_iload_n hx hb dX12_timesOf_3 rfl (lv_at hl 2 rfl) ?_
      refine lv_icmp_ge (tgt := 77) hx hb dX12_timesOf_4 (by decide) (fun c_1260 => ?_) (fun c_1260 => ?_)
      · have n_1260 : n ≤ j1259 := n_le (a := n) (b := j1259) c_1260 (by omega) (by omega)
        refine lv_iconst (v := 1) hx hb dX12_timesOf_77 (by decide) ?_
        exact hp_iretR hx hb hr rfl hlocks hsz hh (trivial) dX12_timesOf_78
      · have n_1260 : j1259 < n := n_nle (a := n) (b := j1259) c_1260 (by omega) (by omega)
        refine lv_iload_n hx hb dX12_timesOf_7 rfl (lv_at hl 2 rfl) ?_
        refine lv_iload_n hx hb dX12_timesOf_8 rfl (lv_at hl 0 rfl) ?_
        refine lv_irem hx hb dX12_timesOf_9 (nI_ne0 (by omega) (by omega)) ?_
        rw [pk_rem (a := n) (d := j1259) (by omega) (by omega) (by omega)]
        have hq_1261 : (n % j1259) ≤ n := Nat.mod_le _ _
        refine lv_if_ne (tgt := 17) hx hb dX12_timesOf_10 (by decide) (fun c_1262 => ?_) (fun c_1262 => ?_)
        · have n_1262 : (n % j1259) ≠ 0 := n_neq (a := (n % j1259)) (b := 0) c_1262 (by omega) (by decide)
          refine lv_iconst (v := 0) hx hb dX12_timesOf_17 (by decide) ?_
          refine lv_istore_n (lv' := [(3, .int 0), (2, .int (nI j1259)), (0, .ref (ad 0)), (1, .int (nI n))]) hx hb dX12_timesOf_18 rfl hl (by decide) rfl (fun ls hl => ?_)
          refine lv_iload_n hx hb dX12_timesOf_19 rfl (lv_at hl 1 rfl) ?_
          refine lv_istore (lv' := [(4, .int (nI j1259)), (3, .int 0), (2, .int (nI j1259)), (0, .ref (ad 0)), (1, .int (nI n))]) hx hb dX12_timesOf_20 hl (by decide) rfl (fun ls hl => ?_)
          have loop_1263 : ∀ (fu j1263 : Nat) (lk1263 : Int32)  (ls : Array Slot) (H : Heap) (locs : List Loc), j1259 ≤ j1263 → j1263 ≤ n → n < j1263 + fu →   lv_has ls 5 [(4, .int (nI j1263)), (3, .int lk1263), (2, .int (nI j1259)), (0, .ref (ad 0)), (1, .int (nI n))] → Hp D (Nf sz) (fun _ => True) s.heap H locs cs ad en → W p l e (headSpec (Cond.code yX12_timesOf cX12_timesOf 5 (some .int) :: TB) (rmN 0)).room s m ([.ref (ad 0), .int (nI n)] : List Value).toArray below meth c H locs 0 0 (MQ below (va_Qi (S := Unit) (fun _ _ => True) (fun _ _ => True) (Nf sz)) ([.ref (ad 0), .int (nI n)] : List Value).toArray s 0 0 (Nf sz)) (F0 m 22 ls []) := by
            intro fu
            induction fu with
            | zero => intro j1263 lk1263 ls H locs h0 h1 h2; exact absurd h2 (by omega)
            | succ fu ih_1263 =>
              intro j1263 lk1263 ls H locs hj0_1263 hj_1263 hfu_1263  hl hh
              refine lv_iload hx hb dX12_timesOf_22 (lv_at hl 0 rfl) ?_
              refine lv_iload_n hx hb dX12_timesOf_24 rfl (lv_at hl 4 rfl) ?_
              refine lv_icmp_ge (tgt := 63) hx hb dX12_timesOf_25 (by decide) (fun c_1264 => ?_) (fun c_1264 => ?_)
              · have n_1264 : n ≤ j1263 := n_le (a := n) (b := j1263) c_1264 (by omega) (by omega)
                refine lv_iload_n hx hb dX12_timesOf_63 rfl (lv_at hl 1 rfl) ?_
                refine lv_if_eq (tgt := 71) hx hb dX12_timesOf_64 (by decide) (fun c_1265 => ?_) (fun c_1265 => ?_)
                · refine lv_iinc (v := (nI (j1259 + 1))) (lv' := [(2, .int (nI (j1259 + 1))), (4, .int (nI j1263)), (3, .int lk1263), (0, .ref (ad 0)), (1, .int (nI n))]) hx hb dX12_timesOf_71 hl (k := 2) rfl (nI_1 _) (by decide) rfl (fun ls hl => ?_)
                  refine lv_goto (tgt := 2) hx hb dX12_timesOf_74 (by decide) ?_
                  exact ih_1259 ((j1259 + 1))  ls H locs (by omega) (by omega) (by omega)  (lv_sub hl [0, 3, 4] rfl) hh
                · refine lv_iload_n hx hb dX12_timesOf_67 rfl (lv_at hl 4 rfl) ?_
                  refine lv_iload_n hx hb dX12_timesOf_68 rfl (lv_at hl 2 rfl) ?_
                  refine lv_idiv hx hb dX12_timesOf_69 (nI_ne0 (by omega) (by omega)) ?_
                  rw [pk_div (a := n) (d := j1259) (by omega) (by omega) (by omega)]
                  have hq_1266 : (n / j1259) ≤ n := Nat.div_le_self _ _
                  exact hp_iretR hx hb hr rfl hlocks hsz hh (trivial) dX12_timesOf_70
              · have n_1264 : j1263 < n := n_nle (a := n) (b := j1263) c_1264 (by omega) (by omega)
                refine lv_iload_n hx hb dX12_timesOf_28 rfl (lv_at hl 1 rfl) ?_
                refine lv_if_eq (tgt := 63) hx hb dX12_timesOf_29 (by decide) (fun c_1267 => ?_) (fun c_1267 => ?_)
                · refine lv_iload_n hx hb dX12_timesOf_63 rfl (lv_at hl 1 rfl) ?_
                  refine lv_if_eq (tgt := 71) hx hb dX12_timesOf_64 (by decide) (fun c_1268 => ?_) (fun c_1268 => ?_)
                  · refine lv_iinc (v := (nI (j1259 + 1))) (lv' := [(2, .int (nI (j1259 + 1))), (4, .int (nI j1263)), (3, .int lk1263), (0, .ref (ad 0)), (1, .int (nI n))]) hx hb dX12_timesOf_71 hl (k := 2) rfl (nI_1 _) (by decide) rfl (fun ls hl => ?_)
                    refine lv_goto (tgt := 2) hx hb dX12_timesOf_74 (by decide) ?_
                    exact ih_1259 ((j1259 + 1))  ls H locs (by omega) (by omega) (by omega)  (lv_sub hl [0, 3, 4] rfl) hh
                  · refine lv_iload_n hx hb dX12_timesOf_67 rfl (lv_at hl 4 rfl) ?_
                    refine lv_iload_n hx hb dX12_timesOf_68 rfl (lv_at hl 2 rfl) ?_
                    refine lv_idiv hx hb dX12_timesOf_69 (nI_ne0 (by omega) (by omega)) ?_
                    rw [pk_div (a := n) (d := j1259) (by omega) (by omega) (by omega)]
                    have hq_1269 : (n / j1259) ≤ n := Nat.div_le_self _ _
                    exact hp_iretR hx hb hr rfl hlocks hsz hh (trivial) dX12_timesOf_70
                · refine lv_aload_n hx hb dX12_timesOf_32 rfl (lv_at hl 3 rfl) ?_
                  refine hp_get hx hb hts ix12 hown hK hh (q := 0) rfl (hI.1 _ (by decide)) es1257 rfl 21 (by decide) (hts _ tw_900) (fun _ h9 => h9) rfl dX12_timesOf_33 ?_
                  refine lv_iload hx hb dX12_timesOf_36 (lv_at hl 0 rfl) ?_
                  refine hp_iald hx hb hK hh (q := 12) rfl (hI.1 _ (by decide)) es1258 (vp_in_nI (n := j1263) (by omega) (by decide)) dX12_timesOf_38 ?_
                  rw [nI_clamp (n := j1263) (by omega)]
                  obtain ⟨v_1270, hv_1270, hfv_1270⟩ := p0_1258 j1263 (by omega)
                  rw [hfv_1270]
                  refine lv_aload_n hx hb dX12_timesOf_39 rfl (lv_at hl 3 rfl) ?_
                  refine hp_get hx hb hts ix12 hown hK hh (q := 0) rfl (hI.1 _ (by decide)) es1257 rfl 21 (by decide) (hts _ tw_900) (fun _ h9 => h9) rfl dX12_timesOf_40 ?_
                  refine lv_iload hx hb dX12_timesOf_43 (lv_at hl 0 rfl) ?_
                  refine lv_iload_n hx hb dX12_timesOf_45 rfl (lv_at hl 2 rfl) ?_
                  refine lv_isub hx hb dX12_timesOf_46 ?_
                  rw [pk_sub (a := j1263) (b := j1259) (by omega)]
                  refine hp_iald hx hb hK hh (q := 12) rfl (hI.1 _ (by decide)) es1258 (vp_in_nI (n := (j1263 - j1259)) (by omega) (by decide)) dX12_timesOf_47 ?_
                  rw [nI_clamp (n := (j1263 - j1259)) (by omega)]
                  obtain ⟨v_1271, hv_1271, hfv_1271⟩ := p0_1258 (j1263 - j1259) (by omega)
                  rw [hfv_1271]
                  refine lv_icmp_ne (tgt := 55) hx hb dX12_timesOf_48 (by decide) (fun c_1272 => ?_) (fun c_1272 => ?_)
                  · have n_1272 : v_1270 ≠ v_1271 := n_neq (a := v_1270) (b := v_1271) c_1272 (by omega) (by omega)
                    refine lv_iconst (v := 0) hx hb dX12_timesOf_55 (by decide) ?_
                    refine lv_istore_n (lv' := [(3, .int 0), (4, .int (nI j1263)), (2, .int (nI j1259)), (0, .ref (ad 0)), (1, .int (nI n))]) hx hb dX12_timesOf_56 rfl hl (by decide) rfl (fun ls hl => ?_)
                    refine lv_iinc (v := (nI (j1263 + 1))) (lv' := [(4, .int (nI (j1263 + 1))), (3, .int 0), (2, .int (nI j1259)), (0, .ref (ad 0)), (1, .int (nI n))]) hx hb dX12_timesOf_57 hl (k := 1) rfl (nI_1 _) (by decide) rfl (fun ls hl => ?_)
                    refine lv_goto (tgt := 22) hx hb dX12_timesOf_60 (by decide) ?_
                    exact ih_1263 ((j1263 + 1)) 0 ls H locs (by omega) (by omega) (by omega)  (lv_sub hl [0, 1, 2, 3, 4] rfl) hh
                  · have n_1272 : v_1270 = v_1271 := n_eq (a := v_1270) (b := v_1271) c_1272 (by omega) (by omega)
                    refine lv_iconst (v := 1) hx hb dX12_timesOf_51 (by decide) ?_
                    refine lv_goto (tgt := 56) hx hb dX12_timesOf_52 (by decide) ?_
                    refine lv_istore_n (lv' := [(3, .int 1), (4, .int (nI j1263)), (2, .int (nI j1259)), (0, .ref (ad 0)), (1, .int (nI n))]) hx hb dX12_timesOf_56 rfl hl (by decide) rfl (fun ls hl => ?_)
                    refine lv_iinc (v := (nI (j1263 + 1))) (lv' := [(4, .int (nI (j1263 + 1))), (3, .int 1), (2, .int (nI j1259)), (0, .ref (ad 0)), (1, .int (nI n))]) hx hb dX12_timesOf_57 hl (k := 1) rfl (nI_1 _) (by decide) rfl (fun ls hl => ?_)
                    refine lv_goto (tgt := 22) hx hb dX12_timesOf_60 (by decide) ?_
                    exact ih_1263 ((j1263 + 1)) 1 ls H locs (by omega) (by omega) (by omega)  (lv_sub hl [0, 1, 2, 3, 4] rfl) hh
          exact loop_1263 (n + 1) j1259 0 ls _ _ (Nat.le_refl _) (by omega) (by omega)  (lv_sub hl [0, 1, 2, 3, 4] rfl) hh
        · have n_1262 : (n % j1259) = 0 := n_eq (a := (n % j1259)) (b := 0) c_1262 (by omega) (by decide)
          refine lv_iconst (v := 1) hx hb dX12_timesOf_13 (by decide) ?_
          refine lv_goto (tgt := 18) hx hb dX12_timesOf_14 (by decide) ?_
          refine lv_istore_n (lv' := [(3, .int 1), (2, .int (nI j1259)), (0, .ref (ad 0)), (1, .int (nI n))]) hx hb dX12_timesOf_18 rfl hl (by decide) rfl (fun ls hl => ?_)
          refine lv_iload_n hx hb dX12_timesOf_19 rfl (lv_at hl 1 rfl) ?_
          refine lv_istore (lv' := [(4, .int (nI j1259)), (3, .int 1), (2, .int (nI j1259)), (0, .ref (ad 0)), (1, .int (nI n))]) hx hb dX12_timesOf_20 hl (by decide) rfl (fun ls hl => ?_)
          have loop_1273 : ∀ (fu j1273 : Nat) (lk1273 : Int32)  (ls : Array Slot) (H : Heap) (locs : List Loc), j1259 ≤ j1273 → j1273 ≤ n → n < j1273 + fu →   lv_has ls 5 [(4, .int (nI j1273)), (3, .int lk1273), (2, .int (nI j1259)), (0, .ref (ad 0)), (1, .int (nI n))] → Hp D (Nf sz) (fun _ => True) s.heap H locs cs ad en → W p l e (headSpec (Cond.code yX12_timesOf cX12_timesOf 5 (some .int) :: TB) (rmN 0)).room s m ([.ref (ad 0), .int (nI n)] : List Value).toArray below meth c H locs 0 0 (MQ below (va_Qi (S := Unit) (fun _ _ => True) (fun _ _ => True) (Nf sz)) ([.ref (ad 0), .int (nI n)] : List Value).toArray s 0 0 (Nf sz)) (F0 m 22 ls []) := by
            intro fu
            induction fu with
            | zero => intro j1273 lk1273 ls H locs h0 h1 h2; exact absurd h2 (by omega)
            | succ fu ih_1273 =>
              intro j1273 lk1273 ls H locs hj0_1273 hj_1273 hfu_1273  hl hh
              refine lv_iload hx hb dX12_timesOf_22 (lv_at hl 0 rfl) ?_
              refine lv_iload_n hx hb dX12_timesOf_24 rfl (lv_at hl 4 rfl) ?_
              refine lv_icmp_ge (tgt := 63) hx hb dX12_timesOf_25 (by decide) (fun c_1274 => ?_) (fun c_1274 => ?_)
              · have n_1274 : n ≤ j1273 := n_le (a := n) (b := j1273) c_1274 (by omega) (by omega)
                refine lv_iload_n hx hb dX12_timesOf_63 rfl (lv_at hl 1 rfl) ?_
                refine lv_if_eq (tgt := 71) hx hb dX12_timesOf_64 (by decide) (fun c_1275 => ?_) (fun c_1275 => ?_)
                · refine lv_iinc (v := (nI (j1259 + 1))) (lv' := [(2, .int (nI (j1259 + 1))), (4, .int (nI j1273)), (3, .int lk1273), (0, .ref (ad 0)), (1, .int (nI n))]) hx hb dX12_timesOf_71 hl (k := 2) rfl (nI_1 _) (by decide) rfl (fun ls hl => ?_)
                  refine lv_goto (tgt := 2) hx hb dX12_timesOf_74 (by decide) ?_
                  exact ih_1259 ((j1259 + 1))  ls H locs (by omega) (by omega) (by omega)  (lv_sub hl [0, 3, 4] rfl) hh
                · refine lv_iload_n hx hb dX12_timesOf_67 rfl (lv_at hl 4 rfl) ?_
                  refine lv_iload_n hx hb dX12_timesOf_68 rfl (lv_at hl 2 rfl) ?_
                  refine lv_idiv hx hb dX12_timesOf_69 (nI_ne0 (by omega) (by omega)) ?_
                  rw [pk_div (a := n) (d := j1259) (by omega) (by omega) (by omega)]
                  have hq_1276 : (n / j1259) ≤ n := Nat.div_le_self _ _
                  exact hp_iretR hx hb hr rfl hlocks hsz hh (trivial) dX12_timesOf_70
              · have n_1274 : j1273 < n := n_nle (a := n) (b := j1273) c_1274 (by omega) (by omega)
                refine lv_iload_n hx hb dX12_timesOf_28 rfl (lv_at hl 1 rfl) ?_
                refine lv_if_eq (tgt := 63) hx hb dX12_timesOf_29 (by decide) (fun c_1277 => ?_) (fun c_1277 => ?_)
                · refine lv_iload_n hx hb dX12_timesOf_63 rfl (lv_at hl 1 rfl) ?_
                  refine lv_if_eq (tgt := 71) hx hb dX12_timesOf_64 (by decide) (fun c_1278 => ?_) (fun c_1278 => ?_)
                  · refine lv_iinc (v := (nI (j1259 + 1))) (lv' := [(2, .int (nI (j1259 + 1))), (4, .int (nI j1273)), (3, .int lk1273), (0, .ref (ad 0)), (1, .int (nI n))]) hx hb dX12_timesOf_71 hl (k := 2) rfl (nI_1 _) (by decide) rfl (fun ls hl => ?_)
                    refine lv_goto (tgt := 2) hx hb dX12_timesOf_74 (by decide) ?_
                    exact ih_1259 ((j1259 + 1))  ls H locs (by omega) (by omega) (by omega)  (lv_sub hl [0, 3, 4] rfl) hh
                  · refine lv_iload_n hx hb dX12_timesOf_67 rfl (lv_at hl 4 rfl) ?_
                    refine lv_iload_n hx hb dX12_timesOf_68 rfl (lv_at hl 2 rfl) ?_
                    refine lv_idiv hx hb dX12_timesOf_69 (nI_ne0 (by omega) (by omega)) ?_
                    rw [pk_div (a := n) (d := j1259) (by omega) (by omega) (by omega)]
                    have hq_1279 : (n / j1259) ≤ n := Nat.div_le_self _ _
                    exact hp_iretR hx hb hr rfl hlocks hsz hh (trivial) dX12_timesOf_70
                · refine lv_aload_n hx hb dX12_timesOf_32 rfl (lv_at hl 3 rfl) ?_
                  refine hp_get hx hb hts ix12 hown hK hh (q := 0) rfl (hI.1 _ (by decide)) es1257 rfl 21 (by decide) (hts _ tw_900) (fun _ h9 => h9) rfl dX12_timesOf_33 ?_
                  refine lv_iload hx hb dX12_timesOf_36 (lv_at hl 0 rfl) ?_
                  refine hp_iald hx hb hK hh (q := 12) rfl (hI.1 _ (by decide)) es1258 (vp_in_nI (n := j1273) (by omega) (by decide)) dX12_timesOf_38 ?_
                  rw [nI_clamp (n := j1273) (by omega)]
                  obtain ⟨v_1280, hv_1280, hfv_1280⟩ := p0_1258 j1273 (by omega)
                  rw [hfv_1280]
                  refine lv_aload_n hx hb dX12_timesOf_39 rfl (lv_at hl 3 rfl) ?_
                  refine hp_get hx hb hts ix12 hown hK hh (q := 0) rfl (hI.1 _ (by decide)) es1257 rfl 21 (by decide) (hts _ tw_900) (fun _ h9 => h9) rfl dX12_timesOf_40 ?_
                  refine lv_iload hx hb dX12_timesOf_43 (lv_at hl 0 rfl) ?_
                  refine lv_iload_n hx hb dX12_timesOf_45 rfl (lv_at hl 2 rfl) ?_
                  refine lv_isub hx hb dX12_timesOf_46 ?_
                  rw [pk_sub (a := j1273) (b := j1259) (by omega)]
                  refine hp_iald hx hb hK hh (q := 12) rfl (hI.1 _ (by decide)) es1258 (vp_in_nI (n := (j1273 - j1259)) (by omega) (by decide)) dX12_timesOf_47 ?_
                  rw [nI_clamp (n := (j1273 - j1259)) (by omega)]
                  obtain ⟨v_1281, hv_1281, hfv_1281⟩ := p0_1258 (j1273 - j1259) (by omega)
                  rw [hfv_1281]
                  refine lv_icmp_ne (tgt := 55) hx hb dX12_timesOf_48 (by decide) (fun c_1282 => ?_) (fun c_1282 => ?_)
                  · have n_1282 : v_1280 ≠ v_1281 := n_neq (a := v_1280) (b := v_1281) c_1282 (by omega) (by omega)
                    refine lv_iconst (v := 0) hx hb dX12_timesOf_55 (by decide) ?_
                    refine lv_istore_n (lv' := [(3, .int 0), (4, .int (nI j1273)), (2, .int (nI j1259)), (0, .ref (ad 0)), (1, .int (nI n))]) hx hb dX12_timesOf_56 rfl hl (by decide) rfl (fun ls hl => ?_)
                    refine lv_iinc (v := (nI (j1273 + 1))) (lv' := [(4, .int (nI (j1273 + 1))), (3, .int 0), (2, .int (nI j1259)), (0, .ref (ad 0)), (1, .int (nI n))]) hx hb dX12_timesOf_57 hl (k := 1) rfl (nI_1 _) (by decide) rfl (fun ls hl => ?_)
                    refine lv_goto (tgt := 22) hx hb dX12_timesOf_60 (by decide) ?_
                    exact ih_1273 ((j1273 + 1)) 0 ls H locs (by omega) (by omega) (by omega)  (lv_sub hl [0, 1, 2, 3, 4] rfl) hh
                  · have n_1282 : v_1280 = v_1281 := n_eq (a := v_1280) (b := v_1281) c_1282 (by omega) (by omega)
                    refine lv_iconst (v := 1) hx hb dX12_timesOf_51 (by decide) ?_
                    refine lv_goto (tgt := 56) hx hb dX12_timesOf_52 (by decide) ?_
                    refine lv_istore_n (lv' := [(3, .int 1), (4, .int (nI j1273)), (2, .int (nI j1259)), (0, .ref (ad 0)), (1, .int (nI n))]) hx hb dX12_timesOf_56 rfl hl (by decide) rfl (fun ls hl => ?_)
                    refine lv_iinc (v := (nI (j1273 + 1))) (lv' := [(4, .int (nI (j1273 + 1))), (3, .int 1), (2, .int (nI j1259)), (0, .ref (ad 0)), (1, .int (nI n))]) hx hb dX12_timesOf_57 hl (k := 1) rfl (nI_1 _) (by decide) rfl (fun ls hl => ?_)
                    refine lv_goto (tgt := 22) hx hb dX12_timesOf_60 (by decide) ?_
                    exact ih_1273 ((j1273 + 1)) 1 ls H locs (by omega) (by omega) (by omega)  (lv_sub hl [0, 1, 2, 3, 4] rfl) hh
          exact loop_1273 (n + 1) j1259 1 ls _ _ (Nat.le_refl _) (by omega) (by omega)  (lv_sub hl [0, 1, 2, 3, 4] rfl) hh
  exact loop_1259 (n + 1) 1  ls _ _ (Nat.le_refl _) (by omega) (by omega)  (lv_sub hl [0, 1, 2] rfl) hh
theorem kw_X12_timesOf {R : Room} {s : State} {args : Array Value} {own : String} {idx : Nat} (hts : ∀ w ∈ TB, w.before args s = true) (hl : Cond.methodLink own idx yX12_timesOf ∈ TB) (hR : 0 + 1 ≤ R.frames ∧ 8 + (5 + 11) + 40 * 0 ≤ R.locals) : CallW R s args own RX12 idx yX12_timesOf cX12_timesOf 5 (some .int) (Cond.code yX12_timesOf cX12_timesOf 5 (some .int) :: TB) (rmN 0) 0 0 1 := cwV 1 hts (TB_V hl tw_1087 ts_47 tw_9 tw_1088) rfl rfl rfl (by decide +kernel) hR
set_option maxHeartbeats 4000000 in
set_option maxRecDepth 100000 in
/-- isFirstTurn -/
theorem c_X12_isFirstTurn (l : Launch) (D : va_G) (cy : Nat → ClassId) (sz : Nat) (cs : List Nat) (ad : Nat → Nat) (en : Nat → va_E) (hI : RX cy cs ad en) (n : Nat) (hn1 : 1 ≤ n) (hn12 : n ≤ 12)   : Met l yX12_isFirstTurn (Cond.code yX12_isFirstTurn cX12_isFirstTurn 4 (some .boolean) :: TB) (rmN 0) (va_Pc [.ref (ad 0), .int (nI n)] (Pre D cy cs ad en sz)) (va_Qi (S := Unit) (fun r _ => r = 0 ∨ r = 1) (fun _ _ => True) (Nf sz)) 0 0 (Nf sz) := by
  refine Met.ofW (cc := cX12_isFirstTurn) (maxL := 4) (ret := (some .boolean)) (by decide) rfl ?_
  intro p e s m args below meth c s₁ B hml hv
  obtain ⟨rfl, hsz, hP, hK, hD0⟩ := hv
  have hx := B.exec
  have hb := B.bytes
  have hr := B.returns
  have hts : ∀ w ∈ TB, w.before _ s = true := fun w h => atoms_spec (ws := _ :: TB) B.pre w (List.mem_cons_of_mem _ h)
  have hown : s.vm.findClass RX12 = some m.cls := findClass_of_methodNamed B.named
  have hlocks := B.notSynchronized
  have hh : Hp D (Nf sz) (fun _ => True) s.heap s.heap [] cs ad en := ⟨hP, hD0, va_S.rf⟩
  have hA : ∀ q : Nat, s.heap.size ≤ q → Nf sz q := fun q h => by rw [hsz] at h; exact h
  have hl := lv_entry ([.ref (ad 0), .int (nI n)]) (n := 4) (Nat.le_of_ble_eq_true rfl)
  rw [lg_entry_eq]
  generalize (lg_sl ([.ref (ad 0), .int (nI n)]) ++ List.replicate (4 - (lg_sl ([.ref (ad 0), .int (nI n)])).length) Slot.unset).toArray = ls at hl ⊢
  have hl : lv_has ls 4 [(0, .ref (ad 0)), (1, .int (nI n))] := hl
  obtain ⟨fa, hi, wd, mo, tb, dp, many, grt, lst, nou, rm, rb, pr, wo, es1283, hwd2, hwd3, hmo, htb, hwo⟩ := getr_M hI
  obtain ⟨f_1284, es1284, p0_1284⟩ := getr_ak hI
  refine lv_iconst (v := 1) hx hb dX12_isFirstTurn_0 (by decide) ?_
  refine lv_istore_n (lv' := [(2, .int 1), (0, .ref (ad 0)), (1, .int (nI n))]) hx hb dX12_isFirstTurn_1 rfl hl (by decide) rfl (fun ls hl => ?_)
  have loop_1285 : ∀ (fu j1285 : Nat)   (ls : Array Slot) (H : Heap) (locs : List Loc), 1 ≤ j1285 → j1285 ≤ n → n < j1285 + fu →   lv_has ls 4 [(2, .int (nI j1285)), (0, .ref (ad 0)), (1, .int (nI n))] → Hp D (Nf sz) (fun _ => True) s.heap H locs cs ad en → W p l e (headSpec (Cond.code yX12_isFirstTurn cX12_isFirstTurn 4 (some .boolean) :: TB) (rmN 0)).room s m ([.ref (ad 0), .int (nI n)] : List Value).toArray below meth c H locs 0 0 (MQ below (va_Qi (S := Unit) (fun r _ => r = 0 ∨ r = 1) (fun _ _ => True) (Nf sz)) ([.ref (ad 0), .int (nI n)] : List Value).toArray s 0 0 (Nf sz)) (F0 m 2 ls []) := by
    intro fu
    induction fu with
    | zero => intro j1285  ls H locs h0 h1 h2; exact absurd h2 (by omega)
    | succ fu ih_1285 =>
      intro j1285  ls H locs hj0_1285 hj_1285 hfu_1285  hl hh
      refine lv_iload_n hx hb dX12_isFirstTurn_2 rfl (lv_at hl 0 rfl) ?_
      refine lv_iload_n hx hb dX12_isFirstTurn_3 rfl (lv_at hl 2 rfl) ?_
      refine lv_icmp_ge (tgt := 71) hx hb dX12_isFirstTurn_4 (by decide) (fun c_1286 => ?_) (fun c_1286 => ?_)
      · have n_1286 : n ≤ j1285 := n_le (a := n) (b := j1285) c_1286 (by omega) (by omega)
        refine lv_iconst (v := 1) hx hb dX12_isFirstTurn_71 (by decide) ?_
        exact hp_iretR hx hb hr rfl hlocks hsz hh (Or.inr rfl) dX12_isFirstTurn_72
      · have n_1286 : j1285 < n := n_nle (a := n) (b := j1285) c_1286 (by omega) (by omega)
        refine lv_iconst (v := 0) hx hb dX12_isFirstTurn_7 (by decide) ?_
        refine lv_istore_n (lv' := [(3, .int 0), (2, .int (nI j1285)), (0, .ref (ad 0)), (1, .int (nI n))]) hx hb dX12_isFirstTurn_8 rfl hl (by decide) rfl (fun ls hl => ?_)
        have loop_1287 : ∀ (fu j1287 : Nat)   (ls : Array Slot) (H : Heap) (locs : List Loc), 0 ≤ j1287 → j1287 ≤ n → n < j1287 + fu →   lv_has ls 4 [(3, .int (nI j1287)), (2, .int (nI j1285)), (0, .ref (ad 0)), (1, .int (nI n))] → Hp D (Nf sz) (fun _ => True) s.heap H locs cs ad en → W p l e (headSpec (Cond.code yX12_isFirstTurn cX12_isFirstTurn 4 (some .boolean) :: TB) (rmN 0)).room s m ([.ref (ad 0), .int (nI n)] : List Value).toArray below meth c H locs 0 0 (MQ below (va_Qi (S := Unit) (fun r _ => r = 0 ∨ r = 1) (fun _ _ => True) (Nf sz)) ([.ref (ad 0), .int (nI n)] : List Value).toArray s 0 0 (Nf sz)) (F0 m 9 ls []) := by
          intro fu
          induction fu with
          | zero => intro j1287  ls H locs h0 h1 h2; exact absurd h2 (by omega)
          | succ fu ih_1287 =>
            intro j1287  ls H locs hj0_1287 hj_1287 hfu_1287  hl hh
            refine lv_iload_n hx hb dX12_isFirstTurn_9 rfl (lv_at hl 0 rfl) ?_
            refine lv_iload_n hx hb dX12_isFirstTurn_10 rfl (lv_at hl 3 rfl) ?_
            refine lv_icmp_ge (tgt := 39) hx hb dX12_isFirstTurn_11 (by decide) (fun c_1288 => ?_) (fun c_1288 => ?_)
            · have n_1288 : n ≤ j1287 := n_le (a := n) (b := j1287) c_1288 (by omega) (by omega)
              refine lv_iload_n hx hb dX12_isFirstTurn_39 rfl (lv_at hl 0 rfl) ?_
              refine lv_iload_n hx hb dX12_isFirstTurn_40 rfl (lv_at hl 3 rfl) ?_
              refine lv_icmp_ge (tgt := 65) hx hb dX12_isFirstTurn_41 (by decide) (fun c_1289 => ?_) (fun c_1289 => ?_)
              · have n_1289 : n ≤ j1287 := n_le (a := n) (b := j1287) c_1289 (by omega) (by omega)
                refine lv_iinc (v := (nI (j1285 + 1))) (lv' := [(2, .int (nI (j1285 + 1))), (3, .int (nI j1287)), (0, .ref (ad 0)), (1, .int (nI n))]) hx hb dX12_isFirstTurn_65 hl (k := 1) rfl (nI_1 _) (by decide) rfl (fun ls hl => ?_)
                refine lv_goto (tgt := 2) hx hb dX12_isFirstTurn_68 (by decide) ?_
                exact ih_1285 ((j1285 + 1))  ls H locs (by omega) (by omega) (by omega)  (lv_sub hl [0, 2, 3] rfl) hh
              · have n_1289 : j1287 < n := n_nle (a := n) (b := j1287) c_1289 (by omega) (by omega)
                refine lv_aload_n hx hb dX12_isFirstTurn_44 rfl (lv_at hl 2 rfl) ?_
                refine hp_get hx hb hts ix12 hown hK hh (q := 0) rfl (hI.1 _ (by decide)) es1283 rfl 21 (by decide) (hts _ tw_900) (fun _ h9 => h9) rfl dX12_isFirstTurn_45 ?_
                refine lv_iload_n hx hb dX12_isFirstTurn_48 rfl (lv_at hl 0 rfl) ?_
                refine lv_iload_n hx hb dX12_isFirstTurn_49 rfl (lv_at hl 1 rfl) ?_
                refine lv_iadd hx hb dX12_isFirstTurn_50 ?_
                rw [nI_add j1287 j1285]
                refine lv_iload_n hx hb dX12_isFirstTurn_51 rfl (lv_at hl 3 rfl) ?_
                refine lv_irem hx hb dX12_isFirstTurn_52 (nI_ne0 (by omega) (by omega)) ?_
                rw [pk_rem (a := (j1287 + j1285)) (d := n) (by omega) (by omega) (by omega)]
                have hq_1290 : ((j1287 + j1285) % n) ≤ (j1287 + j1285) := Nat.mod_le _ _
                have hm_1291 : ((j1287 + j1285) % n) < n := Nat.mod_lt _ (by omega)
                refine hp_iald hx hb hK hh (q := 12) rfl (hI.1 _ (by decide)) es1284 (vp_in_nI (n := ((j1287 + j1285) % n)) (by omega) (by decide)) dX12_isFirstTurn_53 ?_
                rw [nI_clamp (n := ((j1287 + j1285) % n)) (by omega)]
                obtain ⟨v_1292, hv_1292, hfv_1292⟩ := p0_1284 ((j1287 + j1285) % n) (by omega)
                rw [hfv_1292]
                refine lv_aload_n hx hb dX12_isFirstTurn_54 rfl (lv_at hl 2 rfl) ?_
                refine hp_get hx hb hts ix12 hown hK hh (q := 0) rfl (hI.1 _ (by decide)) es1283 rfl 21 (by decide) (hts _ tw_900) (fun _ h9 => h9) rfl dX12_isFirstTurn_55 ?_
                refine lv_iload_n hx hb dX12_isFirstTurn_58 rfl (lv_at hl 0 rfl) ?_
                refine hp_iald hx hb hK hh (q := 12) rfl (hI.1 _ (by decide)) es1284 (vp_in_nI (n := j1287) (by omega) (by decide)) dX12_isFirstTurn_59 ?_
                rw [nI_clamp (n := j1287) (by omega)]
                obtain ⟨v_1293, hv_1293, hfv_1293⟩ := p0_1284 j1287 (by omega)
                rw [hfv_1293]
                refine lv_icmp_ge (tgt := 65) hx hb dX12_isFirstTurn_60 (by decide) (fun c_1294 => ?_) (fun c_1294 => ?_)
                · have n_1294 : v_1293 ≤ v_1292 := n_le (a := v_1293) (b := v_1292) c_1294 (by omega) (by omega)
                  refine lv_iinc (v := (nI (j1285 + 1))) (lv' := [(2, .int (nI (j1285 + 1))), (3, .int (nI j1287)), (0, .ref (ad 0)), (1, .int (nI n))]) hx hb dX12_isFirstTurn_65 hl (k := 1) rfl (nI_1 _) (by decide) rfl (fun ls hl => ?_)
                  refine lv_goto (tgt := 2) hx hb dX12_isFirstTurn_68 (by decide) ?_
                  exact ih_1285 ((j1285 + 1))  ls H locs (by omega) (by omega) (by omega)  (lv_sub hl [0, 2, 3] rfl) hh
                · have n_1294 : v_1292 < v_1293 := n_nle (a := v_1293) (b := v_1292) c_1294 (by omega) (by omega)
                  refine lv_iconst (v := 0) hx hb dX12_isFirstTurn_63 (by decide) ?_
                  exact hp_iretR hx hb hr rfl hlocks hsz hh (Or.inl rfl) dX12_isFirstTurn_64
            · have n_1288 : j1287 < n := n_nle (a := n) (b := j1287) c_1288 (by omega) (by omega)
              refine lv_aload_n hx hb dX12_isFirstTurn_14 rfl (lv_at hl 2 rfl) ?_
              refine hp_get hx hb hts ix12 hown hK hh (q := 0) rfl (hI.1 _ (by decide)) es1283 rfl 21 (by decide) (hts _ tw_900) (fun _ h9 => h9) rfl dX12_isFirstTurn_15 ?_
              refine lv_iload_n hx hb dX12_isFirstTurn_18 rfl (lv_at hl 0 rfl) ?_
              refine lv_iload_n hx hb dX12_isFirstTurn_19 rfl (lv_at hl 1 rfl) ?_
              refine lv_iadd hx hb dX12_isFirstTurn_20 ?_
              rw [nI_add j1287 j1285]
              refine lv_iload_n hx hb dX12_isFirstTurn_21 rfl (lv_at hl 3 rfl) ?_
              refine lv_irem hx hb dX12_isFirstTurn_22 (nI_ne0 (by omega) (by omega)) ?_
              rw [pk_rem (a := (j1287 + j1285)) (d := n) (by omega) (by omega) (by omega)]
              have hq_1295 : ((j1287 + j1285) % n) ≤ (j1287 + j1285) := Nat.mod_le _ _
              have hm_1296 : ((j1287 + j1285) % n) < n := Nat.mod_lt _ (by omega)
              refine hp_iald hx hb hK hh (q := 12) rfl (hI.1 _ (by decide)) es1284 (vp_in_nI (n := ((j1287 + j1285) % n)) (by omega) (by decide)) dX12_isFirstTurn_23 ?_
              rw [nI_clamp (n := ((j1287 + j1285) % n)) (by omega)]
              obtain ⟨v_1297, hv_1297, hfv_1297⟩ := p0_1284 ((j1287 + j1285) % n) (by omega)
              rw [hfv_1297]
              refine lv_aload_n hx hb dX12_isFirstTurn_24 rfl (lv_at hl 2 rfl) ?_
              refine hp_get hx hb hts ix12 hown hK hh (q := 0) rfl (hI.1 _ (by decide)) es1283 rfl 21 (by decide) (hts _ tw_900) (fun _ h9 => h9) rfl dX12_isFirstTurn_25 ?_
              refine lv_iload_n hx hb dX12_isFirstTurn_28 rfl (lv_at hl 0 rfl) ?_
              refine hp_iald hx hb hK hh (q := 12) rfl (hI.1 _ (by decide)) es1284 (vp_in_nI (n := j1287) (by omega) (by decide)) dX12_isFirstTurn_29 ?_
              rw [nI_clamp (n := j1287) (by omega)]
              obtain ⟨v_1298, hv_1298, hfv_1298⟩ := p0_1284 j1287 (by omega)
              rw [hfv_1298]
              refine lv_icmp_ne (tgt := 39) hx hb dX12_isFirstTurn_30 (by decide) (fun c_1299 => ?_) (fun c_1299 => ?_)
              · have n_1299 : v_1297 ≠ v_1298 := n_neq (a := v_1297) (b := v_1298) c_1299 (by omega) (by omega)
                refine lv_iload_n hx hb dX12_isFirstTurn_39 rfl (lv_at hl 0 rfl) ?_
                refine lv_iload_n hx hb dX12_isFirstTurn_40 rfl (lv_at hl 3 rfl) ?_
                refine lv_icmp_ge (tgt := 65) hx hb dX12_isFirstTurn_41 (by decide) (fun c_1300 => ?_) (fun c_1300 => ?_)
                · have n_1300 : n ≤ j1287 := n_le (a := n) (b := j1287) c_1300 (by omega) (by omega)
                  refine lv_iinc (v := (nI (j1285 + 1))) (lv' := [(2, .int (nI (j1285 + 1))), (3, .int (nI j1287)), (0, .ref (ad 0)), (1, .int (nI n))]) hx hb dX12_isFirstTurn_65 hl (k := 1) rfl (nI_1 _) (by decide) rfl (fun ls hl => ?_)
                  refine lv_goto (tgt := 2) hx hb dX12_isFirstTurn_68 (by decide) ?_
                  exact ih_1285 ((j1285 + 1))  ls H locs (by omega) (by omega) (by omega)  (lv_sub hl [0, 2, 3] rfl) hh
                · have n_1300 : j1287 < n := n_nle (a := n) (b := j1287) c_1300 (by omega) (by omega)
                  refine lv_aload_n hx hb dX12_isFirstTurn_44 rfl (lv_at hl 2 rfl) ?_
                  refine hp_get hx hb hts ix12 hown hK hh (q := 0) rfl (hI.1 _ (by decide)) es1283 rfl 21 (by decide) (hts _ tw_900) (fun _ h9 => h9) rfl dX12_isFirstTurn_45 ?_
                  refine lv_iload_n hx hb dX12_isFirstTurn_48 rfl (lv_at hl 0 rfl) ?_
                  refine lv_iload_n hx hb dX12_isFirstTurn_49 rfl (lv_at hl 1 rfl) ?_
                  refine lv_iadd hx hb dX12_isFirstTurn_50 ?_
                  rw [nI_add j1287 j1285]
                  refine lv_iload_n hx hb dX12_isFirstTurn_51 rfl (lv_at hl 3 rfl) ?_
                  refine lv_irem hx hb dX12_isFirstTurn_52 (nI_ne0 (by omega) (by omega)) ?_
                  rw [pk_rem (a := (j1287 + j1285)) (d := n) (by omega) (by omega) (by omega)]
                  have hq_1301 : ((j1287 + j1285) % n) ≤ (j1287 + j1285) := Nat.mod_le _ _
                  have hm_1302 : ((j1287 + j1285) % n) < n := Nat.mod_lt _ (by omega)
                  refine hp_iald hx hb hK hh (q := 12) rfl (hI.1 _ (by decide)) es1284 (vp_in_nI (n := ((j1287 + j1285) % n)) (by omega) (by decide)) dX12_isFirstTurn_53 ?_
                  rw [nI_clamp (n := ((j1287 + j1285) % n)) (by omega)]
                  rw [hfv_1297]
                  refine lv_aload_n hx hb dX12_isFirstTurn_54 rfl (lv_at hl 2 rfl) ?_
                  refine hp_get hx hb hts ix12 hown hK hh (q := 0) rfl (hI.1 _ (by decide)) es1283 rfl 21 (by decide) (hts _ tw_900) (fun _ h9 => h9) rfl dX12_isFirstTurn_55 ?_
                  refine lv_iload_n hx hb dX12_isFirstTurn_58 rfl (lv_at hl 0 rfl) ?_
                  refine hp_iald hx hb hK hh (q := 12) rfl (hI.1 _ (by decide)) es1284 (vp_in_nI (n := j1287) (by omega) (by decide)) dX12_isFirstTurn_59 ?_
                  rw [nI_clamp (n := j1287) (by omega)]
                  rw [hfv_1298]
                  refine lv_icmp_ge (tgt := 65) hx hb dX12_isFirstTurn_60 (by decide) (fun c_1303 => ?_) (fun c_1303 => ?_)
                  · have n_1303 : v_1298 ≤ v_1297 := n_le (a := v_1298) (b := v_1297) c_1303 (by omega) (by omega)
                    refine lv_iinc (v := (nI (j1285 + 1))) (lv' := [(2, .int (nI (j1285 + 1))), (3, .int (nI j1287)), (0, .ref (ad 0)), (1, .int (nI n))]) hx hb dX12_isFirstTurn_65 hl (k := 1) rfl (nI_1 _) (by decide) rfl (fun ls hl => ?_)
                    refine lv_goto (tgt := 2) hx hb dX12_isFirstTurn_68 (by decide) ?_
                    exact ih_1285 ((j1285 + 1))  ls H locs (by omega) (by omega) (by omega)  (lv_sub hl [0, 2, 3] rfl) hh
                  · have n_1303 : v_1297 < v_1298 := n_nle (a := v_1298) (b := v_1297) c_1303 (by omega) (by omega)
                    refine lv_iconst (v := 0) hx hb dX12_isFirstTurn_63 (by decide) ?_
                    exact hp_iretR hx hb hr rfl hlocks hsz hh (Or.inl rfl) dX12_isFirstTurn_64
              · have n_1299 : v_1297 = v_1298 := n_eq (a := v_1297) (b := v_1298) c_1299 (by omega) (by omega)
                refine lv_iinc (v := (nI (j1287 + 1))) (lv' := [(3, .int (nI (j1287 + 1))), (2, .int (nI j1285)), (0, .ref (ad 0)), (1, .int (nI n))]) hx hb dX12_isFirstTurn_33 hl (k := 0) rfl (nI_1 _) (by decide) rfl (fun ls hl => ?_)
                refine lv_goto (tgt := 9) hx hb dX12_isFirstTurn_36 (by decide) ?_
                exact ih_1287 ((j1287 + 1))  ls H locs (by omega) (by omega) (by omega)  (lv_sub hl [0, 1, 2, 3] rfl) hh
        exact loop_1287 (n + 1) 0  ls _ _ (Nat.le_refl _) (by omega) (by omega)  (lv_sub hl [0, 1, 2, 3] rfl) hh
  exact loop_1285 (n + 1) 1  ls _ _ (Nat.le_refl _) (by omega) (by omega)  (lv_sub hl [0, 1, 2] rfl) hh
theorem kw_X12_isFirstTurn {R : Room} {s : State} {args : Array Value} {own : String} {idx : Nat} (hts : ∀ w ∈ TB, w.before args s = true) (hl : Cond.methodLink own idx yX12_isFirstTurn ∈ TB) (hR : 0 + 1 ≤ R.frames ∧ 8 + (4 + 11) + 40 * 0 ≤ R.locals) : CallW R s args own RX12 idx yX12_isFirstTurn cX12_isFirstTurn 4 (some .boolean) (Cond.code yX12_isFirstTurn cX12_isFirstTurn 4 (some .boolean) :: TB) (rmN 0) 0 0 1 := cwV 1 hts (TB_V hl tw_1091 ts_48 tw_9 tw_1092) rfl rfl rfl (by decide +kernel) hR
set_option maxHeartbeats 4000000 in
set_option maxRecDepth 100000 in
/-- isRing -/
theorem c_X12_isRing (l : Launch) (D : va_G) (cy : Nat → ClassId) (sz : Nat) (cs : List Nat) (ad : Nat → Nat) (en : Nat → va_E) (hI : RX cy cs ad en) (n : Nat) (hn1 : 1 ≤ n) (hn12 : n ≤ 12)   : Met l yX12_isRing (Cond.code yX12_isRing cX12_isRing 2 (some .boolean) :: TB) (rmN 2) (va_Pc [.ref (ad 0), .int (nI n)] (Pre D cy cs ad en sz)) (va_Qi (S := Unit) (fun r _ => r = 0 ∨ r = 1) (fun _ _ => True) (Nf sz)) 0 0 (Nf sz) := by
  refine Met.ofW (cc := cX12_isRing) (maxL := 2) (ret := (some .boolean)) (by decide) rfl ?_
  intro p e s m args below meth c s₁ B hml hv
  obtain ⟨rfl, hsz, hP, hK, hD0⟩ := hv
  have hx := B.exec
  have hb := B.bytes
  have hr := B.returns
  have hts : ∀ w ∈ TB, w.before _ s = true := fun w h => atoms_spec (ws := _ :: TB) B.pre w (List.mem_cons_of_mem _ h)
  have hown : s.vm.findClass RX12 = some m.cls := findClass_of_methodNamed B.named
  have hlocks := B.notSynchronized
  have hh : Hp D (Nf sz) (fun _ => True) s.heap s.heap [] cs ad en := ⟨hP, hD0, va_S.rf⟩
  have hA : ∀ q : Nat, s.heap.size ≤ q → Nf sz q := fun q h => by rw [hsz] at h; exact h
  have hl := lv_entry ([.ref (ad 0), .int (nI n)]) (n := 2) (Nat.le_of_ble_eq_true rfl)
  rw [lg_entry_eq]
  generalize (lg_sl ([.ref (ad 0), .int (nI n)]) ++ List.replicate (2 - (lg_sl ([.ref (ad 0), .int (nI n)])).length) Slot.unset).toArray = ls at hl ⊢
  have hl : lv_has ls 2 [(0, .ref (ad 0)), (1, .int (nI n))] := hl
  obtain ⟨fa, hi, wd, mo, tb, dp, many, grt, lst, nou, rm, rb, pr, wo, es1304, hwd2, hwd3, hmo, htb, hwo⟩ := getr_M hI
  obtain ⟨f_1305, es1305, p0_1305⟩ := getr_ak hI
  refine lv_aload_n hx hb dX12_isRing_0 rfl (lv_at hl 0 rfl) ?_
  refine lv_iload_n hx hb dX12_isRing_1 rfl (lv_at hl 1 rfl) ?_
  refine hp_callRi (va_runV (As := [.int (nI n)]) (rest := []) ⟨hx, hb, hml, hown, hts⟩ (c_X12_isAllowed l D cy _ cs ad en hI n (by omega) (by omega)) (kw_X12_isAllowed hts tw_1081 ⟨by decide, by decide⟩) (preV_of hh hK (hI.1 _ (by decide)) es1304 rfl) rfl rfl hl.1 rfl (lv_room (Nat.le_of_ble_eq_true rfl)) dX12_isRing_2 ⟨Nat.le_of_ble_eq_true rfl, Nat.le_of_ble_eq_true rfl⟩) hh hA (fun r_1306 H locs hw_1306 hh => ?_)
  rcases hw_1306 with hb_1306 | hb_1306
  · obtain rfl : r_1306 = 0 := hb_1306
    refine lv_if_eq (tgt := 50) hx hb dX12_isRing_5 (by decide) (fun _ => ?_) (fun c_0 => absurd c_0 (by decide))
    refine lv_iconst (v := 0) hx hb dX12_isRing_50 (by decide) ?_
    exact hp_iretR hx hb hr rfl hlocks hsz hh (Or.inl rfl) dX12_isRing_51
  · obtain rfl : r_1306 = 1 := hb_1306
    refine lv_if_eq (tgt := 50) hx hb dX12_isRing_5 (by decide) (fun c_0 => absurd c_0 (by decide)) (fun _ => ?_)
    refine lv_aload_n hx hb dX12_isRing_8 rfl (lv_at hl 0 rfl) ?_
    refine lv_aload_n hx hb dX12_isRing_9 rfl (lv_at hl 0 rfl) ?_
    refine hp_get hx hb hts ix12 hown hK hh (q := 0) rfl (hI.1 _ (by decide)) es1304 rfl 21 (by decide) (hts _ tw_900) (fun _ h9 => h9) rfl dX12_isRing_10 ?_
    refine lv_iload_n hx hb dX12_isRing_13 rfl (lv_at hl 1 rfl) ?_
    refine lv_iconst (v := 1) hx hb dX12_isRing_14 (by decide) ?_
    refine lv_isub hx hb dX12_isRing_15 ?_
    rw [show (1 : Int32) = nI 1 from rfl, pk_sub (a := n) (b := 1) (by omega)]
    refine hp_iald hx hb hK hh (q := 12) rfl (hI.1 _ (by decide)) es1305 (vp_in_nI (n := (n - 1)) (by omega) (by decide)) dX12_isRing_16 ?_
    rw [nI_clamp (n := (n - 1)) (by omega)]
    obtain ⟨v_1307, hv_1307, hfv_1307⟩ := p0_1305 (n - 1) (by omega)
    rw [hfv_1307]
    refine lv_aload_n hx hb dX12_isRing_17 rfl (lv_at hl 0 rfl) ?_
    refine hp_get hx hb hts ix12 hown hK hh (q := 0) rfl (hI.1 _ (by decide)) es1304 rfl 21 (by decide) (hts _ tw_900) (fun _ h9 => h9) rfl dX12_isRing_18 ?_
    refine lv_iconst (v := 0) hx hb dX12_isRing_21 (by decide) ?_
    rw [show (0 : Int32) = nI 0 from rfl]
    refine hp_iald hx hb hK hh (q := 12) rfl (hI.1 _ (by decide)) es1305 (vp_in_nI (n := 0) (by decide) (by decide)) dX12_isRing_22 ?_
    rw [nI_clamp (n := 0) (by decide)]
    obtain ⟨v_1308, hv_1308, hfv_1308⟩ := p0_1305 0 (by decide)
    rw [hfv_1308]
    refine hp_callRi (va_runV (As := [.int (nI v_1307), .int (nI v_1308)]) (rest := []) ⟨hx, hb, hml, hown, hts⟩ (c_X12_mayFollow l D cy _ cs ad en hI v_1307 v_1308 (by omega) (by omega)) (kw_X12_mayFollow hts tw_1029 ⟨by decide, by decide⟩) (preV_of hh hK (hI.1 _ (by decide)) es1304 rfl) rfl rfl hl.1 rfl (lv_room (Nat.le_of_ble_eq_true rfl)) dX12_isRing_23 ⟨Nat.le_of_ble_eq_true rfl, Nat.le_of_ble_eq_true rfl⟩) hh hA (fun r_1309 H locs hw_1309 hh => ?_)
    rcases Decidable.em (rdF (en 2) (6 * v_1307 + v_1308) = 0) with hp_1309 | hp_1309
    · obtain rfl : r_1309 = 1 := Eq.trans hw_1309 (if_pos hp_1309)
      refine lv_if_eq (tgt := 50) hx hb dX12_isRing_26 (by decide) (fun c_0 => absurd c_0 (by decide)) (fun _ => ?_)
      refine lv_aload_n hx hb dX12_isRing_29 rfl (lv_at hl 0 rfl) ?_
      refine lv_iload_n hx hb dX12_isRing_30 rfl (lv_at hl 1 rfl) ?_
      refine hp_callRi (va_runV (As := [.int (nI n)]) (rest := []) ⟨hx, hb, hml, hown, hts⟩ (c_X12_timesOf l D cy _ cs ad en hI n (by omega) (by omega)) (kw_X12_timesOf hts tw_1085 ⟨by decide, by decide⟩) (preV_of hh hK (hI.1 _ (by decide)) es1304 rfl) rfl rfl hl.1 rfl (lv_room (Nat.le_of_ble_eq_true rfl)) dX12_isRing_31 ⟨Nat.le_of_ble_eq_true rfl, Nat.le_of_ble_eq_true rfl⟩) hh hA (fun r_1310 H locs hw_1310 hh => ?_)
      refine lv_iconst (v := 1) hx hb dX12_isRing_34 (by decide) ?_
      refine lv_icmp_ne (tgt := 50) hx hb dX12_isRing_35 (by decide) (fun c_1311 => ?_) (fun c_1311 => ?_)
      · refine lv_iconst (v := 0) hx hb dX12_isRing_50 (by decide) ?_
        exact hp_iretR hx hb hr rfl hlocks hsz hh (Or.inl rfl) dX12_isRing_51
      · refine lv_aload_n hx hb dX12_isRing_38 rfl (lv_at hl 0 rfl) ?_
        refine lv_iload_n hx hb dX12_isRing_39 rfl (lv_at hl 1 rfl) ?_
        refine hp_callRi (va_runV (As := [.int (nI n)]) (rest := []) ⟨hx, hb, hml, hown, hts⟩ (c_X12_isFirstTurn l D cy _ cs ad en hI n (by omega) (by omega)) (kw_X12_isFirstTurn hts tw_1089 ⟨by decide, by decide⟩) (preV_of hh hK (hI.1 _ (by decide)) es1304 rfl) rfl rfl hl.1 rfl (lv_room (Nat.le_of_ble_eq_true rfl)) dX12_isRing_40 ⟨Nat.le_of_ble_eq_true rfl, Nat.le_of_ble_eq_true rfl⟩) hh hA (fun r_1312 H locs hw_1312 hh => ?_)
        rcases hw_1312 with hb_1312 | hb_1312
        · obtain rfl : r_1312 = 0 := hb_1312
          refine lv_if_eq (tgt := 50) hx hb dX12_isRing_43 (by decide) (fun _ => ?_) (fun c_0 => absurd c_0 (by decide))
          refine lv_iconst (v := 0) hx hb dX12_isRing_50 (by decide) ?_
          exact hp_iretR hx hb hr rfl hlocks hsz hh (Or.inl rfl) dX12_isRing_51
        · obtain rfl : r_1312 = 1 := hb_1312
          refine lv_if_eq (tgt := 50) hx hb dX12_isRing_43 (by decide) (fun c_0 => absurd c_0 (by decide)) (fun _ => ?_)
          refine lv_iconst (v := 1) hx hb dX12_isRing_46 (by decide) ?_
          refine lv_goto (tgt := 51) hx hb dX12_isRing_47 (by decide) ?_
          exact hp_iretR hx hb hr rfl hlocks hsz hh (Or.inr rfl) dX12_isRing_51
    · obtain rfl : r_1309 = 0 := Eq.trans hw_1309 (if_neg hp_1309)
      refine lv_if_eq (tgt := 50) hx hb dX12_isRing_26 (by decide) (fun _ => ?_) (fun c_0 => absurd c_0 (by decide))
      refine lv_iconst (v := 0) hx hb dX12_isRing_50 (by decide) ?_
      exact hp_iretR hx hb hr rfl hlocks hsz hh (Or.inl rfl) dX12_isRing_51
theorem kw_X12_isRing {R : Room} {s : State} {args : Array Value} {own : String} {idx : Nat} (hts : ∀ w ∈ TB, w.before args s = true) (hl : Cond.methodLink own idx yX12_isRing ∈ TB) (hR : 2 + 1 ≤ R.frames ∧ 8 + (2 + 11) + 40 * 2 ≤ R.locals) : CallW R s args own RX12 idx yX12_isRing cX12_isRing 2 (some .boolean) (Cond.code yX12_isRing cX12_isRing 2 (some .boolean) :: TB) (rmN 2) 0 0 1 := cwV 1 hts (TB_V hl tw_1079 ts_45 tw_9 tw_1080) rfl rfl rfl (by decide +kernel) hR
