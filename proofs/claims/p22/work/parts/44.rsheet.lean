set_option maxHeartbeats 4000000 in
set_option maxRecDepth 100000 in
/-- sheet -/
theorem c_X12_sheet (l : Launch) (D : va_G) (cy : Nat → ClassId) (sz : Nat) (cs : List Nat) (ad : Nat → Nat) (en : Nat → va_E) (hI : RX cy cs ad en) (k9 la9 n9 : Int32)   : Met l yX12_sheet (Cond.code yX12_sheet cX12_sheet 5 (some .int) :: TB) (rmN 1) (va_Pc [.ref (ad 0), .int k9, .int la9, .int n9] (Pre D cy cs ad en sz)) (va_Qi (S := Nat → va_E) (fun r en1 => RX cy cs ad en1 ∧ (∀ c, (c ≠ 0 ∧ c ≠ 3 ∧ c ≠ 4 ∧ c ≠ 5) → en1 c = en c) ∧ r = spSheet k9 la9 n9 ∧ KP en en1) (PostM D cs ad) (Af cs ad sz)) 0 0 (Af cs ad sz) := by
  refine Met.ofW (cc := cX12_sheet) (maxL := 5) (ret := (some .int)) (by decide) rfl ?_
  intro p e s m args below meth c s₁ B hml hv
  obtain ⟨rfl, hsz, hP, hK, hD0⟩ := hv
  have hx := B.exec
  have hb := B.bytes
  have hr := B.returns
  have hts : ∀ w ∈ TB, w.before _ s = true := fun w h => atoms_spec (ws := _ :: TB) B.pre w (List.mem_cons_of_mem _ h)
  have hown : s.vm.findClass RX12 = some m.cls := findClass_of_methodNamed B.named
  have hlocks := B.notSynchronized
  have hh : Hp D (Af cs ad sz) (Af cs ad sz) s.heap s.heap [] cs ad en := ⟨hP, Af_self hD0, va_S.rf⟩
  have hA : ∀ q : Nat, s.heap.size ≤ q → Af cs ad sz q := fun q h => Or.inr (by rw [hsz] at h; exact h)
  have hl := lv_entry ([.ref (ad 0), .int k9, .int la9, .int n9]) (n := 5) (Nat.le_of_ble_eq_true rfl)
  rw [lg_entry_eq]
  generalize (lg_sl ([.ref (ad 0), .int k9, .int la9, .int n9]) ++ List.replicate (5 - (lg_sl ([.ref (ad 0), .int k9, .int la9, .int n9])).length) Slot.unset).toArray = ls at hl ⊢
  have hl : lv_has ls 5 [(0, .ref (ad 0)), (1, .int k9), (2, .int la9), (3, .int n9)] := hl
  have hf0 : ∀ c, (c ≠ 0 ∧ c ≠ 3 ∧ c ≠ 4 ∧ c ≠ 5) → en c = en c := fun _ _ => rfl
  obtain ⟨fa, hi, wd, mo, tb, dp, many, grt, lst, nou, rm, rb, pr, wo, es1115, hwd2, hwd3, hmo, htb, hwo⟩ := getr_M hI
  refine lv_aload_n hx hb dX12_sheet_0 rfl (lv_at hl 0 rfl) ?_
  refine lv_iconst (v := 0) hx hb dX12_sheet_1 (by decide) ?_
  refine hp_put hx hb hts ix12 tyX12 tyX12_ok nmX12 hown hK hh (q := 0) rfl (hI.1 _ (by decide)) es1115 rfl 0 (by decide) (hts _ tw_879) (fun _ h9 => h9) rfl (ty := .int) (by decide +kernel) rfl rfl (Nat.le_of_ble_eq_true rfl) dX12_sheet_2 (fun H locs en_1116 hen_1116 hh => ?_)
  have es1115_1116 : en_1116 0 = .inr (11, [.int 0, .int hi, .int (nI wd), .int (nI mo), .int (nI tb), .ref (ad 1), .ref (ad 2), .ref (ad 3), .ref (ad 4), .ref (ad 5), .ref (ad 6), .ref (ad 7), .ref (ad 8), .ref (ad 9), .int dp, .long many, .long grt, .long lst, .long nou, .ref (ad 10), .ref (ad 11), .ref (ad 12), .int rm, .long rb, .ref (ad 13), .int pr, .ref (ad 14), .ref (ad 15), .ref (ad 16), .ref (ad 17), .int (nI wo), .ref (ad 18), .ref (ad 19)]) := by rw [hen_1116]; exact va_up_self _ _ _
  have hI_1116 : RX cy cs ad en_1116 := by rw [hen_1116]; exact upr_M hI ⟨0, hi, wd, mo, tb, dp, many, grt, lst, nou, rm, rb, pr, wo, rfl, hwd2, hwd3, hmo, htb, hwo⟩
  have hf_1116 : ∀ c, (c ≠ 0 ∧ c ≠ 3 ∧ c ≠ 4 ∧ c ≠ 5) → en_1116 c = en c := fun c hc => Eq.trans (show en_1116 c = en c from by rw [hen_1116, va_up_ne _ _ (by omega)]) (hf0 c hc)
  have hkp_1116 : KP en en_1116 := KP_fv (KP_rf en) es1115 es1115_1116 hi (nI wd) (nI mo) (nI tb) pr (nI wo) rfl rfl rfl rfl rfl rfl rfl rfl rfl rfl rfl rfl
  refine lv_iload_n hx hb dX12_sheet_5 rfl (lv_at hl 1 rfl) ?_
  refine lv_i2l hx hb dX12_sheet_6 rfl ?_
  refine lv_lconst (v := 0) hx hb dX12_sheet_7 (by decide) ?_
  refine lv_ldc2 hx hb hown (hts _ tw_984) dX12_sheet_8 ?_
  refine hp_callRi (va_runS (As := [.long k9.toInt64, .long 0, .long 3]) (rest := []) ⟨hx, hb, hml, hown, hts⟩ (c_X12_within l D cy _ cs ad en_1116 k9.toInt64 0 3) (kw_X12_within hts tw_985 ⟨by decide, by decide⟩) (preS_of hh hK) rfl rfl hl.1 rfl (lv_room (Nat.le_of_ble_eq_true rfl)) dX12_sheet_11 ⟨Nat.le_of_ble_eq_true rfl, Nat.le_of_ble_eq_true rfl⟩) hh hA (fun r_1117 H locs hw_1117 hh => ?_)
  rcases Decidable.em (wi k9 0 3) with hp_1117 | hp_1117
  · obtain rfl : r_1117 = 1 := Eq.trans hw_1117 (if_pos ((wj_32 (by decide) (by decide)).mpr hp_1117))
    obtain ⟨N_1117, rfl, hA_1117, hB_1117⟩ := wi_natB hp_1117 0 3 (by decide) (by decide)
    refine lv_if_ne (tgt := 19) hx hb dX12_sheet_14 (by decide) (fun _ => ?_) (fun c_0 => absurd c_0 (by decide))
    refine lv_iload_n hx hb dX12_sheet_19 rfl (lv_at hl 2 rfl) ?_
    refine lv_i2l hx hb dX12_sheet_20 rfl ?_
    refine lv_lconst (v := 0) hx hb dX12_sheet_21 (by decide) ?_
    refine lv_ldc2 hx hb hown (hts _ tw_983) dX12_sheet_22 ?_
    refine hp_callRi (va_runS (As := [.long la9.toInt64, .long 0, .long 2]) (rest := []) ⟨hx, hb, hml, hown, hts⟩ (c_X12_within l D cy _ cs ad en_1116 la9.toInt64 0 2) (kw_X12_within hts tw_985 ⟨by decide, by decide⟩) (preS_of hh hK) rfl rfl hl.1 rfl (lv_room (Nat.le_of_ble_eq_true rfl)) dX12_sheet_25 ⟨Nat.le_of_ble_eq_true rfl, Nat.le_of_ble_eq_true rfl⟩) hh hA (fun r_1118 H locs hw_1118 hh => ?_)
    rcases Decidable.em (wi la9 0 2) with hp_1118 | hp_1118
    · obtain rfl : r_1118 = 1 := Eq.trans hw_1118 (if_pos ((wj_32 (by decide) (by decide)).mpr hp_1118))
      obtain ⟨N_1118, rfl, hA_1118, hB_1118⟩ := wi_natB hp_1118 0 2 (by decide) (by decide)
      refine lv_if_eq (tgt := 37) hx hb dX12_sheet_28 (by decide) (fun c_0 => absurd c_0 (by decide)) (fun _ => ?_)
      refine lv_iload_n hx hb dX12_sheet_31 rfl (lv_at hl 3 rfl) ?_
      refine lv_bipush (v := 40) hx hb dX12_sheet_32 (by decide) ?_
      refine lv_icmp_le (tgt := 40) hx hb dX12_sheet_34 (by decide) (fun c_1119 => ?_) (fun c_1119 => ?_)
      · refine lv_iload_n hx hb dX12_sheet_40 rfl (lv_at hl 3 rfl) ?_
        refine lv_if_ge (tgt := 50) hx hb dX12_sheet_41 (by decide) (fun c_1120 => ?_) (fun c_1120 => ?_)
        · obtain ⟨N9, hN9, rfl⟩ := nat_of (Int32.not_lt.mpr c_1120)
          have hN40 : N9 ≤ 40 := n_le (a := N9) (b := 40) c_1119 hN9 (by decide)
          refine lv_aload_n hx hb dX12_sheet_50 rfl (lv_at hl 0 rfl) ?_
          refine hp_get hx hb hts ix12 hown hK hh (q := 0) rfl (hI.1 _ (by decide)) es1115_1116 rfl 7 (by decide) (hts _ tw_886) (fun _ h9 => h9) rfl dX12_sheet_51 ?_
          refine lv_iload_n hx hb dX12_sheet_54 rfl (lv_at hl 1 rfl) ?_
          refine lv_iload_n hx hb dX12_sheet_55 rfl (lv_at hl 2 rfl) ?_
          obtain ⟨f_1121, es1121⟩ := getr_la hI_1116
          refine hp_iast hx hb hK hh (q := 3) rfl (hI.1 _ (by decide)) es1121 (vp_in_nI (n := N_1117) (by omega) (by decide)) dX12_sheet_56 (fun H locs en_1122 hen_1122 hh => ?_)
          rw [nI_clamp (n := N_1117) (by omega)] at hen_1122
          have es1115_1122 : en_1122 0 = .inr (11, [.int 0, .int hi, .int (nI wd), .int (nI mo), .int (nI tb), .ref (ad 1), .ref (ad 2), .ref (ad 3), .ref (ad 4), .ref (ad 5), .ref (ad 6), .ref (ad 7), .ref (ad 8), .ref (ad 9), .int dp, .long many, .long grt, .long lst, .long nou, .ref (ad 10), .ref (ad 11), .ref (ad 12), .int rm, .long rb, .ref (ad 13), .int pr, .ref (ad 14), .ref (ad 15), .ref (ad 16), .ref (ad 17), .int (nI wo), .ref (ad 18), .ref (ad 19)]) := by rw [hen_1122, va_up_ne _ _ (by decide)]; exact es1115_1116
          have es1121_1122 : en_1122 3 = .inl (cy 0, 4, .inl (upd f_1121 N_1117 (nI N_1118))) := by rw [hen_1122]; exact va_up_self _ _ _
          have hI_1122 : RX cy cs ad en_1122 := by rw [hen_1122]; exact upr_la hI_1116 ⟨(upd f_1121 N_1117 (nI N_1118)), rfl⟩
          have hf_1122 : ∀ c, (c ≠ 0 ∧ c ≠ 3 ∧ c ≠ 4 ∧ c ≠ 5) → en_1122 c = en c := fun c hc => Eq.trans (show en_1122 c = en_1116 c from by rw [hen_1122, va_up_ne _ _ (by omega)]) (hf_1116 c hc)
          have hkp_1122 : KP en en_1122 := KP_same hkp_1116 (show en_1122 0 = en_1116 0 from by rw [hen_1122, va_up_ne _ _ (by decide)])
          refine lv_aload_n hx hb dX12_sheet_57 rfl (lv_at hl 0 rfl) ?_
          refine hp_get hx hb hts ix12 hown hK hh (q := 0) rfl (hI.1 _ (by decide)) es1115_1122 rfl 8 (by decide) (hts _ tw_887) (fun _ h9 => h9) rfl dX12_sheet_58 ?_
          refine lv_iload_n hx hb dX12_sheet_61 rfl (lv_at hl 1 rfl) ?_
          refine lv_iload_n hx hb dX12_sheet_62 rfl (lv_at hl 3 rfl) ?_
          obtain ⟨f_1123, es1123, p0_1123⟩ := getr_sl hI_1122
          refine hp_iast hx hb hK hh (q := 4) rfl (hI.1 _ (by decide)) es1123 (vp_in_nI (n := N_1117) (by omega) (by decide)) dX12_sheet_63 (fun H locs en_1124 hen_1124 hh => ?_)
          rw [nI_clamp (n := N_1117) (by omega)] at hen_1124
          have es1115_1124 : en_1124 0 = .inr (11, [.int 0, .int hi, .int (nI wd), .int (nI mo), .int (nI tb), .ref (ad 1), .ref (ad 2), .ref (ad 3), .ref (ad 4), .ref (ad 5), .ref (ad 6), .ref (ad 7), .ref (ad 8), .ref (ad 9), .int dp, .long many, .long grt, .long lst, .long nou, .ref (ad 10), .ref (ad 11), .ref (ad 12), .int rm, .long rb, .ref (ad 13), .int pr, .ref (ad 14), .ref (ad 15), .ref (ad 16), .ref (ad 17), .int (nI wo), .ref (ad 18), .ref (ad 19)]) := by rw [hen_1124, va_up_ne _ _ (by decide)]; exact es1115_1122
          have es1121_1124 : en_1124 3 = .inl (cy 0, 4, .inl (upd f_1121 N_1117 (nI N_1118))) := by rw [hen_1124, va_up_ne _ _ (by decide)]; exact es1121_1122
          have es1123_1124 : en_1124 4 = .inl (cy 0, 4, .inl (upd f_1123 N_1117 (nI N9))) := by rw [hen_1124]; exact va_up_self _ _ _
          have hI_1124 : RX cy cs ad en_1124 := by rw [hen_1124]; exact upr_sl hI_1122 ⟨(upd f_1123 N_1117 (nI N9)), rfl, (vals_updB p0_1123 (by omega))⟩
          have hf_1124 : ∀ c, (c ≠ 0 ∧ c ≠ 3 ∧ c ≠ 4 ∧ c ≠ 5) → en_1124 c = en c := fun c hc => Eq.trans (show en_1124 c = en_1122 c from by rw [hen_1124, va_up_ne _ _ (by omega)]) (hf_1122 c hc)
          have hkp_1124 : KP en en_1124 := KP_same hkp_1122 (show en_1124 0 = en_1122 0 from by rw [hen_1124, va_up_ne _ _ (by decide)])
          refine lv_iconst (v := 0) hx hb dX12_sheet_64 (by decide) ?_
          refine lv_istore (lv' := [(4, .int 0), (0, .ref (ad 0)), (1, .int (nI N_1117)), (2, .int (nI N_1118)), (3, .int (nI N9))]) hx hb dX12_sheet_65 hl (by decide) rfl (fun ls hl => ?_)
          have loop_1125 : ∀ (fu j1125 : Nat)  (en_1125 : Nat → va_E) (ls : Array Slot) (H : Heap) (locs : List Loc), 0 ≤ j1125 → j1125 ≤ 40 → 40 < j1125 + fu → RX cy cs ad en_1125 → (∀ c, (c ≠ 0 ∧ c ≠ 3 ∧ c ≠ 4 ∧ c ≠ 5) → en_1125 c = en c) → (KP en en_1125) → lv_has ls 5 [(4, .int (nI j1125)), (0, .ref (ad 0)), (1, .int (nI N_1117)), (2, .int (nI N_1118)), (3, .int (nI N9))] → Hp D (Af cs ad sz) (Af cs ad sz) s.heap H locs cs ad en_1125 → W p l e (headSpec (Cond.code yX12_sheet cX12_sheet 5 (some .int) :: TB) (rmN 1)).room s m ([.ref (ad 0), .int (nI N_1117), .int (nI N_1118), .int (nI N9)] : List Value).toArray below meth c H locs 0 0 (MQ below (va_Qi (S := Nat → va_E) (fun r en1 => RX cy cs ad en1 ∧ (∀ c, (c ≠ 0 ∧ c ≠ 3 ∧ c ≠ 4 ∧ c ≠ 5) → en1 c = en c) ∧ r = spSheet (nI N_1117) (nI N_1118) (nI N9) ∧ KP en en1) (PostM D cs ad) (Af cs ad sz)) ([.ref (ad 0), .int (nI N_1117), .int (nI N_1118), .int (nI N9)] : List Value).toArray s 0 0 (Af cs ad sz)) (F0 m 67 ls []) := by
            intro fu
            induction fu with
            | zero => intro j1125  en_1125 ls H locs h0 h1 h2; exact absurd h2 (by omega)
            | succ fu ih_1125 =>
              intro j1125  en_1125 ls H locs hj0_1125 hj_1125 hfu_1125 hI_1125 hf_1125 i0_1125 hl hh
              refine lv_iload hx hb dX12_sheet_67 (lv_at hl 0 rfl) ?_
              refine lv_bipush (v := 40) hx hb dX12_sheet_69 (by decide) ?_
              refine lv_icmp_ge (tgt := 93) hx hb dX12_sheet_71 (by decide) (fun c_1126 => ?_) (fun c_1126 => ?_)
              · have n_1126 : 40 ≤ j1125 := n_le (a := 40) (b := j1125) c_1126 (by decide) (by omega)
                refine lv_iconst (v := 1) hx hb dX12_sheet_93 (by decide) ?_
                have h40 : (40 : Int32).toInt = 40 := by decide
                have h00 : (0 : Int32).toInt = 0 := by decide
                exact hp_iretM hx hb hr rfl hlocks hh (⟨hI_1125, hf_1125, (by have h8 := i_le c_1119; have h9 := i_le c_1120; unfold spSheet; rw [if_pos hp_1117, if_pos ⟨hp_1118, by omega⟩, if_neg (by omega)]), i0_1125⟩) dX12_sheet_94
              · have n_1126 : j1125 < 40 := n_nle (a := 40) (b := j1125) c_1126 (by decide) (by omega)
                refine lv_aload_n hx hb dX12_sheet_74 rfl (lv_at hl 1 rfl) ?_
                obtain ⟨fa_1127, hi_1127, wd_1127, mo_1127, tb_1127, dp_1127, many_1127, grt_1127, lst_1127, nou_1127, rm_1127, rb_1127, pr_1127, wo_1127, es1127, p0_1127, p1_1127, p2_1127, p3_1127, p4_1127⟩ := getr_M hI_1125
                have hq2_1128 : wd_1127 = wd := n_eq ((show nI wd_1127 = rdI (en_1125 0) 2 from by rw [es1127]; rfl).trans (i0_1125.2.1.trans (show rdI (en 0) 2 = nI wd from by rw [es1115]; rfl))) (by omega) (by omega)
                have hq3_1128 : mo_1127 = mo := n_eq ((show nI mo_1127 = rdI (en_1125 0) 3 from by rw [es1127]; rfl).trans (i0_1125.2.2.1.trans (show rdI (en 0) 3 = nI mo from by rw [es1115]; rfl))) (by omega) (by omega)
                have hq4_1128 : tb_1127 = tb := n_eq ((show nI tb_1127 = rdI (en_1125 0) 4 from by rw [es1127]; rfl).trans (i0_1125.2.2.2.1.trans (show rdI (en 0) 4 = nI tb from by rw [es1115]; rfl))) (by omega) (by omega)
                have hq30_1128 : wo_1127 = wo := n_eq ((show nI wo_1127 = rdI (en_1125 0) 30 from by rw [es1127]; rfl).trans (i0_1125.2.2.2.2.2.trans (show rdI (en 0) 30 = nI wo from by rw [es1115]; rfl))) (by omega) (by omega)
                rw [hq2_1128, hq3_1128, hq4_1128, hq30_1128] at es1127
                refine hp_get hx hb hts ix12 hown hK hh (q := 0) rfl (hI.1 _ (by decide)) es1127 rfl 9 (by decide) (hts _ tw_888) (fun _ h9 => h9) rfl dX12_sheet_75 ?_
                refine lv_bipush (v := 40) hx hb dX12_sheet_78 (by decide) ?_
                refine lv_iload_n hx hb dX12_sheet_80 rfl (lv_at hl 2 rfl) ?_
                refine lv_imul hx hb dX12_sheet_81 ?_
                rw [show (40 : Int32) = nI 40 from rfl, pk_mul 40 N_1117]
                refine lv_iload hx hb dX12_sheet_82 (lv_at hl 0 rfl) ?_
                refine lv_iadd hx hb dX12_sheet_84 ?_
                rw [nI_add (40 * N_1117) j1125]
                refine lv_iconst (v := 0) hx hb dX12_sheet_85 (by decide) ?_
                obtain ⟨f_1129, es1129⟩ := getr_ce hI_1125
                refine hp_iast hx hb hK hh (q := 5) rfl (hI.1 _ (by decide)) es1129 (vp_in_nI (n := ((40 * N_1117) + j1125)) (by omega) (by decide)) dX12_sheet_86 (fun H locs en_1130 hen_1130 hh => ?_)
                rw [nI_clamp (n := ((40 * N_1117) + j1125)) (by omega)] at hen_1130
                have es1127_1130 : en_1130 0 = .inr (11, [.int fa_1127, .int hi_1127, .int (nI wd), .int (nI mo), .int (nI tb), .ref (ad 1), .ref (ad 2), .ref (ad 3), .ref (ad 4), .ref (ad 5), .ref (ad 6), .ref (ad 7), .ref (ad 8), .ref (ad 9), .int dp_1127, .long many_1127, .long grt_1127, .long lst_1127, .long nou_1127, .ref (ad 10), .ref (ad 11), .ref (ad 12), .int rm_1127, .long rb_1127, .ref (ad 13), .int pr_1127, .ref (ad 14), .ref (ad 15), .ref (ad 16), .ref (ad 17), .int (nI wo), .ref (ad 18), .ref (ad 19)]) := by rw [hen_1130, va_up_ne _ _ (by decide)]; exact es1127
                have es1129_1130 : en_1130 5 = .inl (cy 0, 160, .inl (upd f_1129 ((40 * N_1117) + j1125) 0)) := by rw [hen_1130]; exact va_up_self _ _ _
                have hI_1130 : RX cy cs ad en_1130 := by rw [hen_1130]; exact upr_ce hI_1125 ⟨(upd f_1129 ((40 * N_1117) + j1125) 0), rfl⟩
                have hf_1130 : ∀ c, (c ≠ 0 ∧ c ≠ 3 ∧ c ≠ 4 ∧ c ≠ 5) → en_1130 c = en c := fun c hc => Eq.trans (show en_1130 c = en_1125 c from by rw [hen_1130, va_up_ne _ _ (by omega)]) (hf_1125 c hc)
                have hkp_1130 : KP en en_1130 := KP_same i0_1125 (show en_1130 0 = en_1125 0 from by rw [hen_1130, va_up_ne _ _ (by decide)])
                refine lv_iinc (v := (nI (j1125 + 1))) (lv' := [(4, .int (nI (j1125 + 1))), (0, .ref (ad 0)), (1, .int (nI N_1117)), (2, .int (nI N_1118)), (3, .int (nI N9))]) hx hb dX12_sheet_87 hl (k := 0) rfl (nI_1 _) (by decide) rfl (fun ls hl => ?_)
                refine lv_goto (tgt := 67) hx hb dX12_sheet_90 (by decide) ?_
                exact ih_1125 ((j1125 + 1))  en_1130 ls H locs (by omega) (by omega) (by omega) hI_1130 hf_1130 (hkp_1130) (lv_sub hl [0, 1, 2, 3, 4] rfl) hh
          exact loop_1125 (40 + 1) 0  en_1124 ls _ _ (Nat.le_refl _) (by omega) (by omega) hI_1124 hf_1124 (hkp_1124) (lv_sub hl [0, 1, 2, 3, 4] rfl) hh
        · refine lv_aload_n hx hb dX12_sheet_44 rfl (lv_at hl 0 rfl) ?_
          refine lv_iconst (v := 4) hx hb dX12_sheet_45 (by decide) ?_
          refine hp_callMi (va_runV (As := [.int 4]) (rest := []) ⟨hx, hb, hml, hown, hts⟩ (c_X12_fails l D cy _ cs ad en_1116 (hI.1 _ (by decide)) 0 hi wd mo tb dp many grt lst nou rm rb pr wo 4 es1115_1116) (kw_X12_fails hts tw_997 ⟨by decide, by decide⟩) (preV_of hh hK (hI.1 _ (by decide)) es1115_1116 rfl) rfl rfl hl.1 rfl (lv_room (Nat.le_of_ble_eq_true rfl)) dX12_sheet_46 ⟨Nat.le_of_ble_eq_true rfl, Nat.le_of_ble_eq_true rfl⟩) hh hA (fun r_1131 H locs en_1131 hw_1131 hh => ?_)
          obtain ⟨hr_1131, hen_1131⟩ := hw_1131
          have es1115_1131 : en_1131 0 = .inr (11, [.int 4, .int hi, .int (nI wd), .int (nI mo), .int (nI tb), .ref (ad 1), .ref (ad 2), .ref (ad 3), .ref (ad 4), .ref (ad 5), .ref (ad 6), .ref (ad 7), .ref (ad 8), .ref (ad 9), .int dp, .long many, .long grt, .long lst, .long nou, .ref (ad 10), .ref (ad 11), .ref (ad 12), .int rm, .long rb, .ref (ad 13), .int pr, .ref (ad 14), .ref (ad 15), .ref (ad 16), .ref (ad 17), .int (nI wo), .ref (ad 18), .ref (ad 19)]) := by rw [hen_1131]; exact va_up_self _ _ _
          have hI_1131 : RX cy cs ad en_1131 := by rw [hen_1131]; exact upr_M hI_1116 ⟨4, hi, wd, mo, tb, dp, many, grt, lst, nou, rm, rb, pr, wo, rfl, hwd2, hwd3, hmo, htb, hwo⟩
          have hf_1131 : ∀ c, (c ≠ 0 ∧ c ≠ 3 ∧ c ≠ 4 ∧ c ≠ 5) → en_1131 c = en c := fun c hc => Eq.trans (show en_1131 c = en_1116 c from by rw [hen_1131, va_up_ne _ _ (by omega)]) (hf_1116 c hc)
          have hkp_1131 : KP en en_1131 := KP_fv hkp_1116 es1115_1116 es1115_1131 hi (nI wd) (nI mo) (nI tb) pr (nI wo) rfl rfl rfl rfl rfl rfl rfl rfl rfl rfl rfl rfl
          obtain rfl : r_1131 = (-14) := hr_1131.trans (by decide)
          have h40 : (40 : Int32).toInt = 40 := by decide
          have h00 : (0 : Int32).toInt = 0 := by decide
          exact hp_iretM hx hb hr rfl hlocks hh (⟨hI_1131, hf_1131, (by have h8 := i_le c_1119; have h9 := i_nle c_1120; unfold spSheet; rw [if_pos hp_1117, if_pos ⟨hp_1118, by omega⟩, if_pos (by omega)]), hkp_1131⟩) dX12_sheet_49
      · refine lv_bipush (v := (-2)) hx hb dX12_sheet_37 (by decide) ?_
        have h40 : (40 : Int32).toInt = 40 := by decide
        have h00 : (0 : Int32).toInt = 0 := by decide
        exact hp_iretM hx hb hr rfl hlocks hh (⟨hI_1116, hf_1116, (by have h9 := i_nle c_1119; unfold spSheet; rw [if_pos hp_1117, if_neg (fun q => absurd q.2 (by omega))]), hkp_1116⟩) dX12_sheet_39
    · obtain rfl : r_1118 = 0 := Eq.trans hw_1118 (if_neg (fun q => hp_1118 ((wj_32 (by decide) (by decide)).mp q)))
      refine lv_if_eq (tgt := 37) hx hb dX12_sheet_28 (by decide) (fun _ => ?_) (fun c_0 => absurd c_0 (by decide))
      refine lv_bipush (v := (-2)) hx hb dX12_sheet_37 (by decide) ?_
      have h40 : (40 : Int32).toInt = 40 := by decide
      have h00 : (0 : Int32).toInt = 0 := by decide
      exact hp_iretM hx hb hr rfl hlocks hh (⟨hI_1116, hf_1116, (by unfold spSheet; rw [if_pos hp_1117, if_neg (fun q => hp_1118 q.1)]), hkp_1116⟩) dX12_sheet_39
  · obtain rfl : r_1117 = 0 := Eq.trans hw_1117 (if_neg (fun q => hp_1117 ((wj_32 (by decide) (by decide)).mp q)))
    refine lv_if_ne (tgt := 19) hx hb dX12_sheet_14 (by decide) (fun c_0 => absurd c_0 (by decide)) (fun _ => ?_)
    refine lv_iconst (v := (-1)) hx hb dX12_sheet_17 (by decide) ?_
    have h40 : (40 : Int32).toInt = 40 := by decide
    have h00 : (0 : Int32).toInt = 0 := by decide
    exact hp_iretM hx hb hr rfl hlocks hh (⟨hI_1116, hf_1116, (by unfold spSheet; rw [if_neg hp_1117]), hkp_1116⟩) dX12_sheet_18
theorem kw_X12_sheet {R : Room} {s : State} {args : Array Value} {own : String} {idx : Nat} (hts : ∀ w ∈ TB, w.before args s = true) (hl : Cond.methodLink own idx yX12_sheet ∈ TB) (hR : 1 + 1 ≤ R.frames ∧ 8 + (5 + 11) + 40 * 1 ≤ R.locals) : CallW R s args own RX12 idx yX12_sheet cX12_sheet 5 (some .int) (Cond.code yX12_sheet cX12_sheet 5 (some .int) :: TB) (rmN 1) 0 0 3 := cwV 3 hts (TB_V hl tw_1200 tw_1201 tw_9 tw_1202) rfl rfl rfl (by decide +kernel) hR
set_option maxHeartbeats 4000000 in
set_option maxRecDepth 100000 in
/-- lose -/
theorem c_X12_lose (l : Launch) (D : va_G) (cy : Nat → ClassId) (sz : Nat) (cs : List Nat) (ad : Nat → Nat) (en : Nat → va_E) (hI : RX cy cs ad en) (k9 : Int32)   : Met l yX12_lose (Cond.code yX12_lose cX12_lose 3 (some .int) :: TB) (rmN 1) (va_Pc [.ref (ad 0), .int k9] (Pre D cy cs ad en sz)) (va_Qi (S := Nat → va_E) (fun r en1 => RX cy cs ad en1 ∧ (∀ c, (c ≠ 3) → en1 c = en c)) (PostM D cs ad) (Af cs ad sz)) 0 0 (Af cs ad sz) := by
  refine Met.ofW (cc := cX12_lose) (maxL := 3) (ret := (some .int)) (by decide) rfl ?_
  intro p e s m args below meth c s₁ B hml hv
  obtain ⟨rfl, hsz, hP, hK, hD0⟩ := hv
  have hx := B.exec
  have hb := B.bytes
  have hr := B.returns
  have hts : ∀ w ∈ TB, w.before _ s = true := fun w h => atoms_spec (ws := _ :: TB) B.pre w (List.mem_cons_of_mem _ h)
  have hown : s.vm.findClass RX12 = some m.cls := findClass_of_methodNamed B.named
  have hlocks := B.notSynchronized
  have hh : Hp D (Af cs ad sz) (Af cs ad sz) s.heap s.heap [] cs ad en := ⟨hP, Af_self hD0, va_S.rf⟩
  have hA : ∀ q : Nat, s.heap.size ≤ q → Af cs ad sz q := fun q h => Or.inr (by rw [hsz] at h; exact h)
  have hl := lv_entry ([.ref (ad 0), .int k9]) (n := 3) (Nat.le_of_ble_eq_true rfl)
  rw [lg_entry_eq]
  generalize (lg_sl ([.ref (ad 0), .int k9]) ++ List.replicate (3 - (lg_sl ([.ref (ad 0), .int k9])).length) Slot.unset).toArray = ls at hl ⊢
  have hl : lv_has ls 3 [(0, .ref (ad 0)), (1, .int k9)] := hl
  have hf0 : ∀ c, (c ≠ 3) → en c = en c := fun _ _ => rfl
  obtain ⟨fa, hi, wd, mo, tb, dp, many, grt, lst, nou, rm, rb, pr, wo, es1132, hwd2, hwd3, hmo, htb, hwo⟩ := getr_M hI
  refine lv_iload_n hx hb dX12_lose_0 rfl (lv_at hl 1 rfl) ?_
  refine lv_i2l hx hb dX12_lose_1 rfl ?_
  refine lv_lconst (v := 0) hx hb dX12_lose_2 (by decide) ?_
  refine lv_ldc2 hx hb hown (hts _ tw_984) dX12_lose_3 ?_
  refine hp_callRi (va_runS (As := [.long k9.toInt64, .long 0, .long 3]) (rest := []) ⟨hx, hb, hml, hown, hts⟩ (c_X12_within l D cy _ cs ad en k9.toInt64 0 3) (kw_X12_within hts tw_985 ⟨by decide, by decide⟩) (preS_of hh hK) rfl rfl hl.1 rfl (lv_room (Nat.le_of_ble_eq_true rfl)) dX12_lose_6 ⟨Nat.le_of_ble_eq_true rfl, Nat.le_of_ble_eq_true rfl⟩) hh hA (fun r_1133 H locs hw_1133 hh => ?_)
  rcases Decidable.em (wi k9 0 3) with hp_1133 | hp_1133
  · obtain rfl : r_1133 = 1 := Eq.trans hw_1133 (if_pos ((wj_32 (by decide) (by decide)).mpr hp_1133))
    obtain ⟨N_1133, rfl, hA_1133, hB_1133⟩ := wi_natB hp_1133 0 3 (by decide) (by decide)
    refine lv_if_ne (tgt := 14) hx hb dX12_lose_9 (by decide) (fun _ => ?_) (fun c_0 => absurd c_0 (by decide))
    refine lv_aload_n hx hb dX12_lose_14 rfl (lv_at hl 0 rfl) ?_
    refine hp_get hx hb hts ix12 hown hK hh (q := 0) rfl (hI.1 _ (by decide)) es1132 rfl 7 (by decide) (hts _ tw_886) (fun _ h9 => h9) rfl dX12_lose_15 ?_
    refine lv_iload_n hx hb dX12_lose_18 rfl (lv_at hl 1 rfl) ?_
    obtain ⟨f_1134, es1134⟩ := getr_la hI
    refine hp_iald hx hb hK hh (q := 3) rfl (hI.1 _ (by decide)) es1134 (vp_in_nI (n := N_1133) (by omega) (by decide)) dX12_lose_19 ?_
    rw [nI_clamp (n := N_1133) (by omega)]
    refine lv_bipush (v := (-9)) hx hb dX12_lose_20 (by decide) ?_
    refine lv_icmp_ne (tgt := 29) hx hb dX12_lose_22 (by decide) (fun c_1135 => ?_) (fun c_1135 => ?_)
    · refine lv_iconst (v := 1) hx hb dX12_lose_29 (by decide) ?_
      refine lv_istore_n (lv' := [(2, .int 1), (0, .ref (ad 0)), (1, .int (nI N_1133))]) hx hb dX12_lose_30 rfl hl (by decide) rfl (fun ls hl => ?_)
      refine lv_aload_n hx hb dX12_lose_31 rfl (lv_at hl 1 rfl) ?_
      refine hp_get hx hb hts ix12 hown hK hh (q := 0) rfl (hI.1 _ (by decide)) es1132 rfl 7 (by decide) (hts _ tw_886) (fun _ h9 => h9) rfl dX12_lose_32 ?_
      refine lv_iload_n hx hb dX12_lose_35 rfl (lv_at hl 2 rfl) ?_
      refine lv_bipush (v := (-9)) hx hb dX12_lose_36 (by decide) ?_
      refine hp_iast hx hb hK hh (q := 3) rfl (hI.1 _ (by decide)) es1134 (vp_in_nI (n := N_1133) (by omega) (by decide)) dX12_lose_38 (fun H locs en_1136 hen_1136 hh => ?_)
      rw [nI_clamp (n := N_1133) (by omega)] at hen_1136
      have es1132_1136 : en_1136 0 = .inr (11, [.int fa, .int hi, .int (nI wd), .int (nI mo), .int (nI tb), .ref (ad 1), .ref (ad 2), .ref (ad 3), .ref (ad 4), .ref (ad 5), .ref (ad 6), .ref (ad 7), .ref (ad 8), .ref (ad 9), .int dp, .long many, .long grt, .long lst, .long nou, .ref (ad 10), .ref (ad 11), .ref (ad 12), .int rm, .long rb, .ref (ad 13), .int pr, .ref (ad 14), .ref (ad 15), .ref (ad 16), .ref (ad 17), .int (nI wo), .ref (ad 18), .ref (ad 19)]) := by rw [hen_1136, va_up_ne _ _ (by decide)]; exact es1132
      have es1134_1136 : en_1136 3 = .inl (cy 0, 4, .inl (upd f_1134 N_1133 (-9))) := by rw [hen_1136]; exact va_up_self _ _ _
      have hI_1136 : RX cy cs ad en_1136 := by rw [hen_1136]; exact upr_la hI ⟨(upd f_1134 N_1133 (-9)), rfl⟩
      have hf_1136 : ∀ c, (c ≠ 3) → en_1136 c = en c := fun c hc => Eq.trans (show en_1136 c = en c from by rw [hen_1136, va_up_ne _ _ (by omega)]) (hf0 c hc)
      refine lv_iload_n hx hb dX12_lose_39 rfl (lv_at hl 0 rfl) ?_
      exact hp_iretM hx hb hr rfl hlocks hh (⟨hI_1136, hf_1136⟩) dX12_lose_40
    · refine lv_iconst (v := 0) hx hb dX12_lose_25 (by decide) ?_
      refine lv_goto (tgt := 30) hx hb dX12_lose_26 (by decide) ?_
      refine lv_istore_n (lv' := [(2, .int 0), (0, .ref (ad 0)), (1, .int (nI N_1133))]) hx hb dX12_lose_30 rfl hl (by decide) rfl (fun ls hl => ?_)
      refine lv_aload_n hx hb dX12_lose_31 rfl (lv_at hl 1 rfl) ?_
      refine hp_get hx hb hts ix12 hown hK hh (q := 0) rfl (hI.1 _ (by decide)) es1132 rfl 7 (by decide) (hts _ tw_886) (fun _ h9 => h9) rfl dX12_lose_32 ?_
      refine lv_iload_n hx hb dX12_lose_35 rfl (lv_at hl 2 rfl) ?_
      refine lv_bipush (v := (-9)) hx hb dX12_lose_36 (by decide) ?_
      refine hp_iast hx hb hK hh (q := 3) rfl (hI.1 _ (by decide)) es1134 (vp_in_nI (n := N_1133) (by omega) (by decide)) dX12_lose_38 (fun H locs en_1137 hen_1137 hh => ?_)
      rw [nI_clamp (n := N_1133) (by omega)] at hen_1137
      have es1132_1137 : en_1137 0 = .inr (11, [.int fa, .int hi, .int (nI wd), .int (nI mo), .int (nI tb), .ref (ad 1), .ref (ad 2), .ref (ad 3), .ref (ad 4), .ref (ad 5), .ref (ad 6), .ref (ad 7), .ref (ad 8), .ref (ad 9), .int dp, .long many, .long grt, .long lst, .long nou, .ref (ad 10), .ref (ad 11), .ref (ad 12), .int rm, .long rb, .ref (ad 13), .int pr, .ref (ad 14), .ref (ad 15), .ref (ad 16), .ref (ad 17), .int (nI wo), .ref (ad 18), .ref (ad 19)]) := by rw [hen_1137, va_up_ne _ _ (by decide)]; exact es1132
      have es1134_1137 : en_1137 3 = .inl (cy 0, 4, .inl (upd f_1134 N_1133 (-9))) := by rw [hen_1137]; exact va_up_self _ _ _
      have hI_1137 : RX cy cs ad en_1137 := by rw [hen_1137]; exact upr_la hI ⟨(upd f_1134 N_1133 (-9)), rfl⟩
      have hf_1137 : ∀ c, (c ≠ 3) → en_1137 c = en c := fun c hc => Eq.trans (show en_1137 c = en c from by rw [hen_1137, va_up_ne _ _ (by omega)]) (hf0 c hc)
      refine lv_iload_n hx hb dX12_lose_39 rfl (lv_at hl 0 rfl) ?_
      exact hp_iretM hx hb hr rfl hlocks hh (⟨hI_1137, hf_1137⟩) dX12_lose_40
  · obtain rfl : r_1133 = 0 := Eq.trans hw_1133 (if_neg (fun q => hp_1133 ((wj_32 (by decide) (by decide)).mp q)))
    refine lv_if_ne (tgt := 14) hx hb dX12_lose_9 (by decide) (fun c_0 => absurd c_0 (by decide)) (fun _ => ?_)
    refine lv_iconst (v := (-1)) hx hb dX12_lose_12 (by decide) ?_
    exact hp_iretM hx hb hr rfl hlocks hh (⟨hI, hf0⟩) dX12_lose_13
theorem kw_X12_lose {R : Room} {s : State} {args : Array Value} {own : String} {idx : Nat} (hts : ∀ w ∈ TB, w.before args s = true) (hl : Cond.methodLink own idx yX12_lose ∈ TB) (hR : 1 + 1 ≤ R.frames ∧ 8 + (3 + 11) + 40 * 1 ≤ R.locals) : CallW R s args own RX12 idx yX12_lose cX12_lose 3 (some .int) (Cond.code yX12_lose cX12_lose 3 (some .int) :: TB) (rmN 1) 0 0 1 := cwV 1 hts (TB_V hl tw_1204 tw_1205 tw_9 tw_1206) rfl rfl rfl (by decide +kernel) hR
set_option maxHeartbeats 4000000 in
set_option maxRecDepth 100000 in
/-- put -/
theorem c_X12_put (l : Launch) (D : va_G) (cy : Nat → ClassId) (sz : Nat) (cs : List Nat) (ad : Nat → Nat) (en : Nat → va_E) (hI : RX cy cs ad en) (k9 i9 v9 : Int32)   : Met l yX12_put (Cond.code yX12_put cX12_put 4 (some .int) :: TB) (rmN 1) (va_Pc [.ref (ad 0), .int k9, .int i9, .int v9] (Pre D cy cs ad en sz)) (va_Qi (S := Nat → va_E) (fun r en1 => RX cy cs ad en1 ∧ (∀ c, (c ≠ 0 ∧ c ≠ 5) → en1 c = en c) ∧ KP en en1) (PostM D cs ad) (Af cs ad sz)) 0 0 (Af cs ad sz) := by
  refine Met.ofW (cc := cX12_put) (maxL := 4) (ret := (some .int)) (by decide) rfl ?_
  intro p e s m args below meth c s₁ B hml hv
  obtain ⟨rfl, hsz, hP, hK, hD0⟩ := hv
  have hx := B.exec
  have hb := B.bytes
  have hr := B.returns
  have hts : ∀ w ∈ TB, w.before _ s = true := fun w h => atoms_spec (ws := _ :: TB) B.pre w (List.mem_cons_of_mem _ h)
  have hown : s.vm.findClass RX12 = some m.cls := findClass_of_methodNamed B.named
  have hlocks := B.notSynchronized
  have hh : Hp D (Af cs ad sz) (Af cs ad sz) s.heap s.heap [] cs ad en := ⟨hP, Af_self hD0, va_S.rf⟩
  have hA : ∀ q : Nat, s.heap.size ≤ q → Af cs ad sz q := fun q h => Or.inr (by rw [hsz] at h; exact h)
  have hl := lv_entry ([.ref (ad 0), .int k9, .int i9, .int v9]) (n := 4) (Nat.le_of_ble_eq_true rfl)
  rw [lg_entry_eq]
  generalize (lg_sl ([.ref (ad 0), .int k9, .int i9, .int v9]) ++ List.replicate (4 - (lg_sl ([.ref (ad 0), .int k9, .int i9, .int v9])).length) Slot.unset).toArray = ls at hl ⊢
  have hl : lv_has ls 4 [(0, .ref (ad 0)), (1, .int k9), (2, .int i9), (3, .int v9)] := hl
  have hf0 : ∀ c, (c ≠ 0 ∧ c ≠ 5) → en c = en c := fun _ _ => rfl
  obtain ⟨fa, hi, wd, mo, tb, dp, many, grt, lst, nou, rm, rb, pr, wo, es1138, hwd2, hwd3, hmo, htb, hwo⟩ := getr_M hI
  refine lv_aload_n hx hb dX12_put_0 rfl (lv_at hl 0 rfl) ?_
  refine lv_iconst (v := 0) hx hb dX12_put_1 (by decide) ?_
  refine hp_put hx hb hts ix12 tyX12 tyX12_ok nmX12 hown hK hh (q := 0) rfl (hI.1 _ (by decide)) es1138 rfl 0 (by decide) (hts _ tw_879) (fun _ h9 => h9) rfl (ty := .int) (by decide +kernel) rfl rfl (Nat.le_of_ble_eq_true rfl) dX12_put_2 (fun H locs en_1139 hen_1139 hh => ?_)
  have es1138_1139 : en_1139 0 = .inr (11, [.int 0, .int hi, .int (nI wd), .int (nI mo), .int (nI tb), .ref (ad 1), .ref (ad 2), .ref (ad 3), .ref (ad 4), .ref (ad 5), .ref (ad 6), .ref (ad 7), .ref (ad 8), .ref (ad 9), .int dp, .long many, .long grt, .long lst, .long nou, .ref (ad 10), .ref (ad 11), .ref (ad 12), .int rm, .long rb, .ref (ad 13), .int pr, .ref (ad 14), .ref (ad 15), .ref (ad 16), .ref (ad 17), .int (nI wo), .ref (ad 18), .ref (ad 19)]) := by rw [hen_1139]; exact va_up_self _ _ _
  have hI_1139 : RX cy cs ad en_1139 := by rw [hen_1139]; exact upr_M hI ⟨0, hi, wd, mo, tb, dp, many, grt, lst, nou, rm, rb, pr, wo, rfl, hwd2, hwd3, hmo, htb, hwo⟩
  have hf_1139 : ∀ c, (c ≠ 0 ∧ c ≠ 5) → en_1139 c = en c := fun c hc => Eq.trans (show en_1139 c = en c from by rw [hen_1139, va_up_ne _ _ (by omega)]) (hf0 c hc)
  have hkp_1139 : KP en en_1139 := KP_fv (KP_rf en) es1138 es1138_1139 hi (nI wd) (nI mo) (nI tb) pr (nI wo) rfl rfl rfl rfl rfl rfl rfl rfl rfl rfl rfl rfl
  refine lv_iload_n hx hb dX12_put_5 rfl (lv_at hl 1 rfl) ?_
  refine lv_i2l hx hb dX12_put_6 rfl ?_
  refine lv_lconst (v := 0) hx hb dX12_put_7 (by decide) ?_
  refine lv_ldc2 hx hb hown (hts _ tw_984) dX12_put_8 ?_
  refine hp_callRi (va_runS (As := [.long k9.toInt64, .long 0, .long 3]) (rest := []) ⟨hx, hb, hml, hown, hts⟩ (c_X12_within l D cy _ cs ad en_1139 k9.toInt64 0 3) (kw_X12_within hts tw_985 ⟨by decide, by decide⟩) (preS_of hh hK) rfl rfl hl.1 rfl (lv_room (Nat.le_of_ble_eq_true rfl)) dX12_put_11 ⟨Nat.le_of_ble_eq_true rfl, Nat.le_of_ble_eq_true rfl⟩) hh hA (fun r_1140 H locs hw_1140 hh => ?_)
  rcases Decidable.em (wi k9 0 3) with hp_1140 | hp_1140
  · obtain rfl : r_1140 = 1 := Eq.trans hw_1140 (if_pos ((wj_32 (by decide) (by decide)).mpr hp_1140))
    obtain ⟨N_1140, rfl, hA_1140, hB_1140⟩ := wi_natB hp_1140 0 3 (by decide) (by decide)
    refine lv_if_ne (tgt := 19) hx hb dX12_put_14 (by decide) (fun _ => ?_) (fun c_0 => absurd c_0 (by decide))
    refine lv_aload_n hx hb dX12_put_19 rfl (lv_at hl 0 rfl) ?_
    refine hp_get hx hb hts ix12 hown hK hh (q := 0) rfl (hI.1 _ (by decide)) es1138_1139 rfl 7 (by decide) (hts _ tw_886) (fun _ h9 => h9) rfl dX12_put_20 ?_
    refine lv_iload_n hx hb dX12_put_23 rfl (lv_at hl 1 rfl) ?_
    obtain ⟨f_1141, es1141⟩ := getr_la hI_1139
    refine hp_iald hx hb hK hh (q := 3) rfl (hI.1 _ (by decide)) es1141 (vp_in_nI (n := N_1140) (by omega) (by decide)) dX12_put_24 ?_
    rw [nI_clamp (n := N_1140) (by omega)]
    refine lv_bipush (v := (-9)) hx hb dX12_put_25 (by decide) ?_
    refine lv_icmp_ne (tgt := 36) hx hb dX12_put_27 (by decide) (fun c_1142 => ?_) (fun c_1142 => ?_)
    · refine lv_iload_n hx hb dX12_put_36 rfl (lv_at hl 2 rfl) ?_
      refine lv_i2l hx hb dX12_put_37 rfl ?_
      refine lv_lconst (v := 0) hx hb dX12_put_38 (by decide) ?_
      refine lv_aload_n hx hb dX12_put_39 rfl (lv_at hl 0 rfl) ?_
      refine hp_get hx hb hts ix12 hown hK hh (q := 0) rfl (hI.1 _ (by decide)) es1138_1139 rfl 8 (by decide) (hts _ tw_887) (fun _ h9 => h9) rfl dX12_put_40 ?_
      refine lv_iload_n hx hb dX12_put_43 rfl (lv_at hl 1 rfl) ?_
      obtain ⟨f_1143, es1143, p0_1143⟩ := getr_sl hI_1139
      refine hp_iald hx hb hK hh (q := 4) rfl (hI.1 _ (by decide)) es1143 (vp_in_nI (n := N_1140) (by omega) (by decide)) dX12_put_44 ?_
      rw [nI_clamp (n := N_1140) (by omega)]
      obtain ⟨v_1144, hv_1144, hfv_1144⟩ := p0_1143 N_1140 (by omega)
      rw [hfv_1144]
      refine lv_i2l hx hb dX12_put_45 rfl ?_
      refine lv_lconst (v := 1) hx hb dX12_put_46 (by decide) ?_
      refine lv_lsub hx hb dX12_put_47 ?_
      refine hp_callRi (va_runS (As := [.long i9.toInt64, .long 0, .long ((nI v_1144).toInt64 - 1)]) (rest := []) ⟨hx, hb, hml, hown, hts⟩ (c_X12_within l D cy _ cs ad en_1139 i9.toInt64 0 ((nI v_1144).toInt64 - 1)) (kw_X12_within hts tw_985 ⟨by decide, by decide⟩) (preS_of hh hK) rfl rfl hl.1 rfl (lv_room (Nat.le_of_ble_eq_true rfl)) dX12_put_48 ⟨Nat.le_of_ble_eq_true rfl, Nat.le_of_ble_eq_true rfl⟩) hh hA (fun r_1145 H locs hw_1145 hh => ?_)
      rcases Decidable.em (0 ≤ i9.toInt ∧ i9.toInt < (v_1144 : Int)) with hp_1145 | hp_1145
      · obtain rfl : r_1145 = 1 := Eq.trans hw_1145 (if_pos ((wj_m1 (by omega)).mpr hp_1145))
        obtain ⟨N_1145, rfl, hB_1145⟩ := has_nat hp_1145
        refine lv_if_ne (tgt := 60) hx hb dX12_put_51 (by decide) (fun _ => ?_) (fun c_0 => absurd c_0 (by decide))
        refine lv_aload_n hx hb dX12_put_60 rfl (lv_at hl 0 rfl) ?_
        refine hp_get hx hb hts ix12 hown hK hh (q := 0) rfl (hI.1 _ (by decide)) es1138_1139 rfl 9 (by decide) (hts _ tw_888) (fun _ h9 => h9) rfl dX12_put_61 ?_
        refine lv_bipush (v := 40) hx hb dX12_put_64 (by decide) ?_
        refine lv_iload_n hx hb dX12_put_66 rfl (lv_at hl 1 rfl) ?_
        refine lv_imul hx hb dX12_put_67 ?_
        rw [show (40 : Int32) = nI 40 from rfl, pk_mul 40 N_1140]
        refine lv_iload_n hx hb dX12_put_68 rfl (lv_at hl 2 rfl) ?_
        refine lv_iadd hx hb dX12_put_69 ?_
        rw [nI_add (40 * N_1140) N_1145]
        refine lv_aload_n hx hb dX12_put_70 rfl (lv_at hl 0 rfl) ?_
        refine hp_get hx hb hts ix12 hown hK hh (q := 0) rfl (hI.1 _ (by decide)) es1138_1139 rfl 7 (by decide) (hts _ tw_886) (fun _ h9 => h9) rfl dX12_put_71 ?_
        refine lv_iload_n hx hb dX12_put_74 rfl (lv_at hl 1 rfl) ?_
        refine hp_iald hx hb hK hh (q := 3) rfl (hI.1 _ (by decide)) es1141 (vp_in_nI (n := N_1140) (by omega) (by decide)) dX12_put_75 ?_
        rw [nI_clamp (n := N_1140) (by omega)]
        refine lv_if_ne (tgt := 84) hx hb dX12_put_76 (by decide) (fun c_1146 => ?_) (fun c_1146 => ?_)
        · refine lv_aload_n hx hb dX12_put_84 rfl (lv_at hl 0 rfl) ?_
          refine hp_get hx hb hts ix12 hown hK hh (q := 0) rfl (hI.1 _ (by decide)) es1138_1139 rfl 7 (by decide) (hts _ tw_886) (fun _ h9 => h9) rfl dX12_put_85 ?_
          refine lv_iload_n hx hb dX12_put_88 rfl (lv_at hl 1 rfl) ?_
          refine hp_iald hx hb hK hh (q := 3) rfl (hI.1 _ (by decide)) es1141 (vp_in_nI (n := N_1140) (by omega) (by decide)) dX12_put_89 ?_
          rw [nI_clamp (n := N_1140) (by omega)]
          refine lv_iconst (v := 1) hx hb dX12_put_90 (by decide) ?_
          refine lv_icmp_ne (tgt := 99) hx hb dX12_put_91 (by decide) (fun c_1147 => ?_) (fun c_1147 => ?_)
          · refine lv_iload_n hx hb dX12_put_99 rfl (lv_at hl 3 rfl) ?_
            obtain ⟨f_1148, es1148⟩ := getr_ce hI_1139
            refine hp_iast hx hb hK hh (q := 5) rfl (hI.1 _ (by decide)) es1148 (vp_in_nI (n := ((40 * N_1140) + N_1145)) (by omega) (by decide)) dX12_put_100 (fun H locs en_1149 hen_1149 hh => ?_)
            rw [nI_clamp (n := ((40 * N_1140) + N_1145)) (by omega)] at hen_1149
            have es1138_1149 : en_1149 0 = .inr (11, [.int 0, .int hi, .int (nI wd), .int (nI mo), .int (nI tb), .ref (ad 1), .ref (ad 2), .ref (ad 3), .ref (ad 4), .ref (ad 5), .ref (ad 6), .ref (ad 7), .ref (ad 8), .ref (ad 9), .int dp, .long many, .long grt, .long lst, .long nou, .ref (ad 10), .ref (ad 11), .ref (ad 12), .int rm, .long rb, .ref (ad 13), .int pr, .ref (ad 14), .ref (ad 15), .ref (ad 16), .ref (ad 17), .int (nI wo), .ref (ad 18), .ref (ad 19)]) := by rw [hen_1149, va_up_ne _ _ (by decide)]; exact es1138_1139
            have es1141_1149 : en_1149 3 = .inl (cy 0, 4, .inl f_1141) := by rw [hen_1149, va_up_ne _ _ (by decide)]; exact es1141
            have es1143_1149 : en_1149 4 = .inl (cy 0, 4, .inl f_1143) := by rw [hen_1149, va_up_ne _ _ (by decide)]; exact es1143
            have es1148_1149 : en_1149 5 = .inl (cy 0, 160, .inl (upd f_1148 ((40 * N_1140) + N_1145) v9)) := by rw [hen_1149]; exact va_up_self _ _ _
            have hI_1149 : RX cy cs ad en_1149 := by rw [hen_1149]; exact upr_ce hI_1139 ⟨(upd f_1148 ((40 * N_1140) + N_1145) v9), rfl⟩
            have hf_1149 : ∀ c, (c ≠ 0 ∧ c ≠ 5) → en_1149 c = en c := fun c hc => Eq.trans (show en_1149 c = en_1139 c from by rw [hen_1149, va_up_ne _ _ (by omega)]) (hf_1139 c hc)
            have hkp_1149 : KP en en_1149 := KP_same hkp_1139 (show en_1149 0 = en_1139 0 from by rw [hen_1149, va_up_ne _ _ (by decide)])
            refine lv_iconst (v := 1) hx hb dX12_put_101 (by decide) ?_
            exact hp_iretM hx hb hr rfl hlocks hh (⟨hI_1149, hf_1149, hkp_1149⟩) dX12_put_102
          · refine lv_iload_n hx hb dX12_put_94 rfl (lv_at hl 3 rfl) ?_
            refine lv_i2s hx hb dX12_put_95 rfl ?_
            refine lv_goto (tgt := 100) hx hb dX12_put_96 (by decide) ?_
            obtain ⟨f_1150, es1150⟩ := getr_ce hI_1139
            refine hp_iast hx hb hK hh (q := 5) rfl (hI.1 _ (by decide)) es1150 (vp_in_nI (n := ((40 * N_1140) + N_1145)) (by omega) (by decide)) dX12_put_100 (fun H locs en_1151 hen_1151 hh => ?_)
            rw [nI_clamp (n := ((40 * N_1140) + N_1145)) (by omega)] at hen_1151
            have es1138_1151 : en_1151 0 = .inr (11, [.int 0, .int hi, .int (nI wd), .int (nI mo), .int (nI tb), .ref (ad 1), .ref (ad 2), .ref (ad 3), .ref (ad 4), .ref (ad 5), .ref (ad 6), .ref (ad 7), .ref (ad 8), .ref (ad 9), .int dp, .long many, .long grt, .long lst, .long nou, .ref (ad 10), .ref (ad 11), .ref (ad 12), .int rm, .long rb, .ref (ad 13), .int pr, .ref (ad 14), .ref (ad 15), .ref (ad 16), .ref (ad 17), .int (nI wo), .ref (ad 18), .ref (ad 19)]) := by rw [hen_1151, va_up_ne _ _ (by decide)]; exact es1138_1139
            have es1141_1151 : en_1151 3 = .inl (cy 0, 4, .inl f_1141) := by rw [hen_1151, va_up_ne _ _ (by decide)]; exact es1141
            have es1143_1151 : en_1151 4 = .inl (cy 0, 4, .inl f_1143) := by rw [hen_1151, va_up_ne _ _ (by decide)]; exact es1143
            have es1150_1151 : en_1151 5 = .inl (cy 0, 160, .inl (upd f_1150 ((40 * N_1140) + N_1145) v9.toInt16.toInt32)) := by rw [hen_1151]; exact va_up_self _ _ _
            have hI_1151 : RX cy cs ad en_1151 := by rw [hen_1151]; exact upr_ce hI_1139 ⟨(upd f_1150 ((40 * N_1140) + N_1145) v9.toInt16.toInt32), rfl⟩
            have hf_1151 : ∀ c, (c ≠ 0 ∧ c ≠ 5) → en_1151 c = en c := fun c hc => Eq.trans (show en_1151 c = en_1139 c from by rw [hen_1151, va_up_ne _ _ (by omega)]) (hf_1139 c hc)
            have hkp_1151 : KP en en_1151 := KP_same hkp_1139 (show en_1151 0 = en_1139 0 from by rw [hen_1151, va_up_ne _ _ (by decide)])
            refine lv_iconst (v := 1) hx hb dX12_put_101 (by decide) ?_
            exact hp_iretM hx hb hr rfl hlocks hh (⟨hI_1151, hf_1151, hkp_1151⟩) dX12_put_102
        · refine lv_iload_n hx hb dX12_put_79 rfl (lv_at hl 3 rfl) ?_
          refine lv_i2b hx hb dX12_put_80 rfl ?_
          refine lv_goto (tgt := 100) hx hb dX12_put_81 (by decide) ?_
          obtain ⟨f_1152, es1152⟩ := getr_ce hI_1139
          refine hp_iast hx hb hK hh (q := 5) rfl (hI.1 _ (by decide)) es1152 (vp_in_nI (n := ((40 * N_1140) + N_1145)) (by omega) (by decide)) dX12_put_100 (fun H locs en_1153 hen_1153 hh => ?_)
          rw [nI_clamp (n := ((40 * N_1140) + N_1145)) (by omega)] at hen_1153
          have es1138_1153 : en_1153 0 = .inr (11, [.int 0, .int hi, .int (nI wd), .int (nI mo), .int (nI tb), .ref (ad 1), .ref (ad 2), .ref (ad 3), .ref (ad 4), .ref (ad 5), .ref (ad 6), .ref (ad 7), .ref (ad 8), .ref (ad 9), .int dp, .long many, .long grt, .long lst, .long nou, .ref (ad 10), .ref (ad 11), .ref (ad 12), .int rm, .long rb, .ref (ad 13), .int pr, .ref (ad 14), .ref (ad 15), .ref (ad 16), .ref (ad 17), .int (nI wo), .ref (ad 18), .ref (ad 19)]) := by rw [hen_1153, va_up_ne _ _ (by decide)]; exact es1138_1139
          have es1141_1153 : en_1153 3 = .inl (cy 0, 4, .inl f_1141) := by rw [hen_1153, va_up_ne _ _ (by decide)]; exact es1141
          have es1143_1153 : en_1153 4 = .inl (cy 0, 4, .inl f_1143) := by rw [hen_1153, va_up_ne _ _ (by decide)]; exact es1143
          have es1152_1153 : en_1153 5 = .inl (cy 0, 160, .inl (upd f_1152 ((40 * N_1140) + N_1145) v9.toInt8.toInt32)) := by rw [hen_1153]; exact va_up_self _ _ _
          have hI_1153 : RX cy cs ad en_1153 := by rw [hen_1153]; exact upr_ce hI_1139 ⟨(upd f_1152 ((40 * N_1140) + N_1145) v9.toInt8.toInt32), rfl⟩
          have hf_1153 : ∀ c, (c ≠ 0 ∧ c ≠ 5) → en_1153 c = en c := fun c hc => Eq.trans (show en_1153 c = en_1139 c from by rw [hen_1153, va_up_ne _ _ (by omega)]) (hf_1139 c hc)
          have hkp_1153 : KP en en_1153 := KP_same hkp_1139 (show en_1153 0 = en_1139 0 from by rw [hen_1153, va_up_ne _ _ (by decide)])
          refine lv_iconst (v := 1) hx hb dX12_put_101 (by decide) ?_
          exact hp_iretM hx hb hr rfl hlocks hh (⟨hI_1153, hf_1153, hkp_1153⟩) dX12_put_102
      · obtain rfl : r_1145 = 0 := Eq.trans hw_1145 (if_neg (fun q => hp_1145 ((wj_m1 (by omega)).mp q)))
        refine lv_if_ne (tgt := 60) hx hb dX12_put_51 (by decide) (fun c_0 => absurd c_0 (by decide)) (fun _ => ?_)
        refine lv_aload_n hx hb dX12_put_54 rfl (lv_at hl 0 rfl) ?_
        refine lv_iconst (v := 3) hx hb dX12_put_55 (by decide) ?_
        refine hp_callMi (va_runV (As := [.int 3]) (rest := []) ⟨hx, hb, hml, hown, hts⟩ (c_X12_fails l D cy _ cs ad en_1139 (hI.1 _ (by decide)) 0 hi wd mo tb dp many grt lst nou rm rb pr wo 3 es1138_1139) (kw_X12_fails hts tw_997 ⟨by decide, by decide⟩) (preV_of hh hK (hI.1 _ (by decide)) es1138_1139 rfl) rfl rfl hl.1 rfl (lv_room (Nat.le_of_ble_eq_true rfl)) dX12_put_56 ⟨Nat.le_of_ble_eq_true rfl, Nat.le_of_ble_eq_true rfl⟩) hh hA (fun r_1154 H locs en_1154 hw_1154 hh => ?_)
        obtain ⟨hr_1154, hen_1154⟩ := hw_1154
        have es1141_1154 : en_1154 3 = .inl (cy 0, 4, .inl f_1141) := by rw [hen_1154, va_up_ne _ _ (by decide)]; exact es1141
        have es1143_1154 : en_1154 4 = .inl (cy 0, 4, .inl f_1143) := by rw [hen_1154, va_up_ne _ _ (by decide)]; exact es1143
        have es1138_1154 : en_1154 0 = .inr (11, [.int 3, .int hi, .int (nI wd), .int (nI mo), .int (nI tb), .ref (ad 1), .ref (ad 2), .ref (ad 3), .ref (ad 4), .ref (ad 5), .ref (ad 6), .ref (ad 7), .ref (ad 8), .ref (ad 9), .int dp, .long many, .long grt, .long lst, .long nou, .ref (ad 10), .ref (ad 11), .ref (ad 12), .int rm, .long rb, .ref (ad 13), .int pr, .ref (ad 14), .ref (ad 15), .ref (ad 16), .ref (ad 17), .int (nI wo), .ref (ad 18), .ref (ad 19)]) := by rw [hen_1154]; exact va_up_self _ _ _
        have hI_1154 : RX cy cs ad en_1154 := by rw [hen_1154]; exact upr_M hI_1139 ⟨3, hi, wd, mo, tb, dp, many, grt, lst, nou, rm, rb, pr, wo, rfl, hwd2, hwd3, hmo, htb, hwo⟩
        have hf_1154 : ∀ c, (c ≠ 0 ∧ c ≠ 5) → en_1154 c = en c := fun c hc => Eq.trans (show en_1154 c = en_1139 c from by rw [hen_1154, va_up_ne _ _ (by omega)]) (hf_1139 c hc)
        have hkp_1154 : KP en en_1154 := KP_fv hkp_1139 es1138_1139 es1138_1154 hi (nI wd) (nI mo) (nI tb) pr (nI wo) rfl rfl rfl rfl rfl rfl rfl rfl rfl rfl rfl rfl
        obtain rfl : r_1154 = (-13) := hr_1154.trans (by decide)
        exact hp_iretM hx hb hr rfl hlocks hh (⟨hI_1154, hf_1154, hkp_1154⟩) dX12_put_59
    · refine lv_aload_n hx hb dX12_put_30 rfl (lv_at hl 0 rfl) ?_
      refine lv_iconst (v := 1) hx hb dX12_put_31 (by decide) ?_
      refine hp_callMi (va_runV (As := [.int 1]) (rest := []) ⟨hx, hb, hml, hown, hts⟩ (c_X12_fails l D cy _ cs ad en_1139 (hI.1 _ (by decide)) 0 hi wd mo tb dp many grt lst nou rm rb pr wo 1 es1138_1139) (kw_X12_fails hts tw_997 ⟨by decide, by decide⟩) (preV_of hh hK (hI.1 _ (by decide)) es1138_1139 rfl) rfl rfl hl.1 rfl (lv_room (Nat.le_of_ble_eq_true rfl)) dX12_put_32 ⟨Nat.le_of_ble_eq_true rfl, Nat.le_of_ble_eq_true rfl⟩) hh hA (fun r_1155 H locs en_1155 hw_1155 hh => ?_)
      obtain ⟨hr_1155, hen_1155⟩ := hw_1155
      have es1141_1155 : en_1155 3 = .inl (cy 0, 4, .inl f_1141) := by rw [hen_1155, va_up_ne _ _ (by decide)]; exact es1141
      have es1138_1155 : en_1155 0 = .inr (11, [.int 1, .int hi, .int (nI wd), .int (nI mo), .int (nI tb), .ref (ad 1), .ref (ad 2), .ref (ad 3), .ref (ad 4), .ref (ad 5), .ref (ad 6), .ref (ad 7), .ref (ad 8), .ref (ad 9), .int dp, .long many, .long grt, .long lst, .long nou, .ref (ad 10), .ref (ad 11), .ref (ad 12), .int rm, .long rb, .ref (ad 13), .int pr, .ref (ad 14), .ref (ad 15), .ref (ad 16), .ref (ad 17), .int (nI wo), .ref (ad 18), .ref (ad 19)]) := by rw [hen_1155]; exact va_up_self _ _ _
      have hI_1155 : RX cy cs ad en_1155 := by rw [hen_1155]; exact upr_M hI_1139 ⟨1, hi, wd, mo, tb, dp, many, grt, lst, nou, rm, rb, pr, wo, rfl, hwd2, hwd3, hmo, htb, hwo⟩
      have hf_1155 : ∀ c, (c ≠ 0 ∧ c ≠ 5) → en_1155 c = en c := fun c hc => Eq.trans (show en_1155 c = en_1139 c from by rw [hen_1155, va_up_ne _ _ (by omega)]) (hf_1139 c hc)
      have hkp_1155 : KP en en_1155 := KP_fv hkp_1139 es1138_1139 es1138_1155 hi (nI wd) (nI mo) (nI tb) pr (nI wo) rfl rfl rfl rfl rfl rfl rfl rfl rfl rfl rfl rfl
      obtain rfl : r_1155 = (-11) := hr_1155.trans (by decide)
      exact hp_iretM hx hb hr rfl hlocks hh (⟨hI_1155, hf_1155, hkp_1155⟩) dX12_put_35
  · obtain rfl : r_1140 = 0 := Eq.trans hw_1140 (if_neg (fun q => hp_1140 ((wj_32 (by decide) (by decide)).mp q)))
    refine lv_if_ne (tgt := 19) hx hb dX12_put_14 (by decide) (fun c_0 => absurd c_0 (by decide)) (fun _ => ?_)
    refine lv_iconst (v := (-1)) hx hb dX12_put_17 (by decide) ?_
    exact hp_iretM hx hb hr rfl hlocks hh (⟨hI_1139, hf_1139, hkp_1139⟩) dX12_put_18
theorem kw_X12_put {R : Room} {s : State} {args : Array Value} {own : String} {idx : Nat} (hts : ∀ w ∈ TB, w.before args s = true) (hl : Cond.methodLink own idx yX12_put ∈ TB) (hR : 1 + 1 ≤ R.frames ∧ 8 + (4 + 11) + 40 * 1 ≤ R.locals) : CallW R s args own RX12 idx yX12_put cX12_put 4 (some .int) (Cond.code yX12_put cX12_put 4 (some .int) :: TB) (rmN 1) 0 0 3 := cwV 3 hts (TB_V hl tw_1208 tw_1209 tw_9 tw_1210) rfl rfl rfl (by decide +kernel) hR
set_option maxHeartbeats 4000000 in
set_option maxRecDepth 100000 in
/-- at -/
theorem c_X12_at (l : Launch) (D : va_G) (cy : Nat → ClassId) (sz : Nat) (cs : List Nat) (ad : Nat → Nat) (en : Nat → va_E) (hI : RX cy cs ad en) (k9 i9 la9 : Int32)   : Met l yX12_at (Cond.code yX12_at cX12_at 4 (some .long) :: TB) (rmN 1) (va_Pc [.ref (ad 0), .int k9, .int i9, .int la9] (Pre D cy cs ad en sz)) (va_Ql (S := Nat → va_E) (fun r en1 => RX cy cs ad en1 ∧ (∀ c, (c ≠ 0) → en1 c = en c) ∧ KP en en1) (PostM D cs ad) (Af cs ad sz)) 0 0 (Af cs ad sz) := by
  refine Met.ofW (cc := cX12_at) (maxL := 4) (ret := (some .long)) (by decide) rfl ?_
  intro p e s m args below meth c s₁ B hml hv
  obtain ⟨rfl, hsz, hP, hK, hD0⟩ := hv
  have hx := B.exec
  have hb := B.bytes
  have hr := B.returns
  have hts : ∀ w ∈ TB, w.before _ s = true := fun w h => atoms_spec (ws := _ :: TB) B.pre w (List.mem_cons_of_mem _ h)
  have hown : s.vm.findClass RX12 = some m.cls := findClass_of_methodNamed B.named
  have hlocks := B.notSynchronized
  have hh : Hp D (Af cs ad sz) (Af cs ad sz) s.heap s.heap [] cs ad en := ⟨hP, Af_self hD0, va_S.rf⟩
  have hA : ∀ q : Nat, s.heap.size ≤ q → Af cs ad sz q := fun q h => Or.inr (by rw [hsz] at h; exact h)
  have hl := lv_entry ([.ref (ad 0), .int k9, .int i9, .int la9]) (n := 4) (Nat.le_of_ble_eq_true rfl)
  rw [lg_entry_eq]
  generalize (lg_sl ([.ref (ad 0), .int k9, .int i9, .int la9]) ++ List.replicate (4 - (lg_sl ([.ref (ad 0), .int k9, .int i9, .int la9])).length) Slot.unset).toArray = ls at hl ⊢
  have hl : lv_has ls 4 [(0, .ref (ad 0)), (1, .int k9), (2, .int i9), (3, .int la9)] := hl
  have hf0 : ∀ c, (c ≠ 0) → en c = en c := fun _ _ => rfl
  obtain ⟨fa, hi, wd, mo, tb, dp, many, grt, lst, nou, rm, rb, pr, wo, es1156, hwd2, hwd3, hmo, htb, hwo⟩ := getr_M hI
  refine lv_aload_n hx hb dX12_at_0 rfl (lv_at hl 0 rfl) ?_
  refine lv_iconst (v := 0) hx hb dX12_at_1 (by decide) ?_
  refine hp_put hx hb hts ix12 tyX12 tyX12_ok nmX12 hown hK hh (q := 0) rfl (hI.1 _ (by decide)) es1156 rfl 0 (by decide) (hts _ tw_879) (fun _ h9 => h9) rfl (ty := .int) (by decide +kernel) rfl rfl (Nat.le_of_ble_eq_true rfl) dX12_at_2 (fun H locs en_1157 hen_1157 hh => ?_)
  have es1156_1157 : en_1157 0 = .inr (11, [.int 0, .int hi, .int (nI wd), .int (nI mo), .int (nI tb), .ref (ad 1), .ref (ad 2), .ref (ad 3), .ref (ad 4), .ref (ad 5), .ref (ad 6), .ref (ad 7), .ref (ad 8), .ref (ad 9), .int dp, .long many, .long grt, .long lst, .long nou, .ref (ad 10), .ref (ad 11), .ref (ad 12), .int rm, .long rb, .ref (ad 13), .int pr, .ref (ad 14), .ref (ad 15), .ref (ad 16), .ref (ad 17), .int (nI wo), .ref (ad 18), .ref (ad 19)]) := by rw [hen_1157]; exact va_up_self _ _ _
  have hI_1157 : RX cy cs ad en_1157 := by rw [hen_1157]; exact upr_M hI ⟨0, hi, wd, mo, tb, dp, many, grt, lst, nou, rm, rb, pr, wo, rfl, hwd2, hwd3, hmo, htb, hwo⟩
  have hf_1157 : ∀ c, (c ≠ 0) → en_1157 c = en c := fun c hc => Eq.trans (show en_1157 c = en c from by rw [hen_1157, va_up_ne _ _ (by omega)]) (hf0 c hc)
  have hkp_1157 : KP en en_1157 := KP_fv (KP_rf en) es1156 es1156_1157 hi (nI wd) (nI mo) (nI tb) pr (nI wo) rfl rfl rfl rfl rfl rfl rfl rfl rfl rfl rfl rfl
  refine lv_iload_n hx hb dX12_at_5 rfl (lv_at hl 1 rfl) ?_
  refine lv_i2l hx hb dX12_at_6 rfl ?_
  refine lv_lconst (v := 0) hx hb dX12_at_7 (by decide) ?_
  refine lv_ldc2 hx hb hown (hts _ tw_984) dX12_at_8 ?_
  refine hp_callRi (va_runS (As := [.long k9.toInt64, .long 0, .long 3]) (rest := []) ⟨hx, hb, hml, hown, hts⟩ (c_X12_within l D cy _ cs ad en_1157 k9.toInt64 0 3) (kw_X12_within hts tw_985 ⟨by decide, by decide⟩) (preS_of hh hK) rfl rfl hl.1 rfl (lv_room (Nat.le_of_ble_eq_true rfl)) dX12_at_11 ⟨Nat.le_of_ble_eq_true rfl, Nat.le_of_ble_eq_true rfl⟩) hh hA (fun r_1158 H locs hw_1158 hh => ?_)
  rcases Decidable.em (wi k9 0 3) with hp_1158 | hp_1158
  · obtain rfl : r_1158 = 1 := Eq.trans hw_1158 (if_pos ((wj_32 (by decide) (by decide)).mpr hp_1158))
    obtain ⟨N_1158, rfl, hA_1158, hB_1158⟩ := wi_natB hp_1158 0 3 (by decide) (by decide)
    refine lv_if_eq (tgt := 29) hx hb dX12_at_14 (by decide) (fun c_0 => absurd c_0 (by decide)) (fun _ => ?_)
    refine lv_iload_n hx hb dX12_at_17 rfl (lv_at hl 3 rfl) ?_
    refine lv_i2l hx hb dX12_at_18 rfl ?_
    refine lv_lconst (v := 0) hx hb dX12_at_19 (by decide) ?_
    refine lv_ldc2 hx hb hown (hts _ tw_983) dX12_at_20 ?_
    refine hp_callRi (va_runS (As := [.long la9.toInt64, .long 0, .long 2]) (rest := []) ⟨hx, hb, hml, hown, hts⟩ (c_X12_within l D cy _ cs ad en_1157 la9.toInt64 0 2) (kw_X12_within hts tw_985 ⟨by decide, by decide⟩) (preS_of hh hK) rfl rfl hl.1 rfl (lv_room (Nat.le_of_ble_eq_true rfl)) dX12_at_23 ⟨Nat.le_of_ble_eq_true rfl, Nat.le_of_ble_eq_true rfl⟩) hh hA (fun r_1159 H locs hw_1159 hh => ?_)
    rcases Decidable.em (wi la9 0 2) with hp_1159 | hp_1159
    · obtain rfl : r_1159 = 1 := Eq.trans hw_1159 (if_pos ((wj_32 (by decide) (by decide)).mpr hp_1159))
      obtain ⟨N_1159, rfl, hA_1159, hB_1159⟩ := wi_natB hp_1159 0 2 (by decide) (by decide)
      refine lv_if_ne (tgt := 33) hx hb dX12_at_26 (by decide) (fun _ => ?_) (fun c_0 => absurd c_0 (by decide))
      refine lv_aload_n hx hb dX12_at_33 rfl (lv_at hl 0 rfl) ?_
      refine hp_get hx hb hts ix12 hown hK hh (q := 0) rfl (hI.1 _ (by decide)) es1156_1157 rfl 7 (by decide) (hts _ tw_886) (fun _ h9 => h9) rfl dX12_at_34 ?_
      refine lv_iload_n hx hb dX12_at_37 rfl (lv_at hl 1 rfl) ?_
      obtain ⟨f_1160, es1160⟩ := getr_la hI_1157
      refine hp_iald hx hb hK hh (q := 3) rfl (hI.1 _ (by decide)) es1160 (vp_in_nI (n := N_1158) (by omega) (by decide)) dX12_at_38 ?_
      rw [nI_clamp (n := N_1158) (by omega)]
      refine lv_bipush (v := (-9)) hx hb dX12_at_39 (by decide) ?_
      refine lv_icmp_eq (tgt := 60) hx hb dX12_at_41 (by decide) (fun c_1161 => ?_) (fun c_1161 => ?_)
      · refine lv_aload_n hx hb dX12_at_60 rfl (lv_at hl 0 rfl) ?_
        refine hp_get hx hb hts ix12 hown hK hh (q := 0) rfl (hI.1 _ (by decide)) es1156_1157 rfl 7 (by decide) (hts _ tw_886) (fun _ h9 => h9) rfl dX12_at_61 ?_
        refine lv_iload_n hx hb dX12_at_64 rfl (lv_at hl 1 rfl) ?_
        refine hp_iald hx hb hK hh (q := 3) rfl (hI.1 _ (by decide)) es1160 (vp_in_nI (n := N_1158) (by omega) (by decide)) dX12_at_65 ?_
        rw [nI_clamp (n := N_1158) (by omega)]
        refine lv_bipush (v := (-9)) hx hb dX12_at_66 (by decide) ?_
        refine lv_icmp_ne (tgt := 77) hx hb dX12_at_68 (by decide) (fun c_1162 => ?_) (fun c_1162 => ?_)
        · refine lv_iload_n hx hb dX12_at_77 rfl (lv_at hl 2 rfl) ?_
          refine lv_i2l hx hb dX12_at_78 rfl ?_
          refine lv_lconst (v := 0) hx hb dX12_at_79 (by decide) ?_
          refine lv_aload_n hx hb dX12_at_80 rfl (lv_at hl 0 rfl) ?_
          refine hp_get hx hb hts ix12 hown hK hh (q := 0) rfl (hI.1 _ (by decide)) es1156_1157 rfl 8 (by decide) (hts _ tw_887) (fun _ h9 => h9) rfl dX12_at_81 ?_
          refine lv_iload_n hx hb dX12_at_84 rfl (lv_at hl 1 rfl) ?_
          obtain ⟨f_1163, es1163, p0_1163⟩ := getr_sl hI_1157
          refine hp_iald hx hb hK hh (q := 4) rfl (hI.1 _ (by decide)) es1163 (vp_in_nI (n := N_1158) (by omega) (by decide)) dX12_at_85 ?_
          rw [nI_clamp (n := N_1158) (by omega)]
          obtain ⟨v_1164, hv_1164, hfv_1164⟩ := p0_1163 N_1158 (by omega)
          rw [hfv_1164]
          refine lv_i2l hx hb dX12_at_86 rfl ?_
          refine lv_lconst (v := 1) hx hb dX12_at_87 (by decide) ?_
          refine lv_lsub hx hb dX12_at_88 ?_
          refine hp_callRi (va_runS (As := [.long i9.toInt64, .long 0, .long ((nI v_1164).toInt64 - 1)]) (rest := []) ⟨hx, hb, hml, hown, hts⟩ (c_X12_within l D cy _ cs ad en_1157 i9.toInt64 0 ((nI v_1164).toInt64 - 1)) (kw_X12_within hts tw_985 ⟨by decide, by decide⟩) (preS_of hh hK) rfl rfl hl.1 rfl (lv_room (Nat.le_of_ble_eq_true rfl)) dX12_at_89 ⟨Nat.le_of_ble_eq_true rfl, Nat.le_of_ble_eq_true rfl⟩) hh hA (fun r_1165 H locs hw_1165 hh => ?_)
          rcases Decidable.em (0 ≤ i9.toInt ∧ i9.toInt < (v_1164 : Int)) with hp_1165 | hp_1165
          · obtain rfl : r_1165 = 1 := Eq.trans hw_1165 (if_pos ((wj_m1 (by omega)).mpr hp_1165))
            obtain ⟨N_1165, rfl, hB_1165⟩ := has_nat hp_1165
            refine lv_if_ne (tgt := 101) hx hb dX12_at_92 (by decide) (fun _ => ?_) (fun c_0 => absurd c_0 (by decide))
            refine lv_aload_n hx hb dX12_at_101 rfl (lv_at hl 0 rfl) ?_
            refine hp_get hx hb hts ix12 hown hK hh (q := 0) rfl (hI.1 _ (by decide)) es1156_1157 rfl 9 (by decide) (hts _ tw_888) (fun _ h9 => h9) rfl dX12_at_102 ?_
            refine lv_bipush (v := 40) hx hb dX12_at_105 (by decide) ?_
            refine lv_iload_n hx hb dX12_at_107 rfl (lv_at hl 1 rfl) ?_
            refine lv_imul hx hb dX12_at_108 ?_
            rw [show (40 : Int32) = nI 40 from rfl, pk_mul 40 N_1158]
            refine lv_iload_n hx hb dX12_at_109 rfl (lv_at hl 2 rfl) ?_
            refine lv_iadd hx hb dX12_at_110 ?_
            rw [nI_add (40 * N_1158) N_1165]
            obtain ⟨f_1166, es1166⟩ := getr_ce hI_1157
            refine hp_iald hx hb hK hh (q := 5) rfl (hI.1 _ (by decide)) es1166 (vp_in_nI (n := ((40 * N_1158) + N_1165)) (by omega) (by decide)) dX12_at_111 ?_
            rw [nI_clamp (n := ((40 * N_1158) + N_1165)) (by omega)]
            refine lv_i2l hx hb dX12_at_112 rfl ?_
            exact hp_lretM hx hb hr hlocks hh (⟨hI_1157, hf_1157, hkp_1157⟩) dX12_at_113
          · obtain rfl : r_1165 = 0 := Eq.trans hw_1165 (if_neg (fun q => hp_1165 ((wj_m1 (by omega)).mp q)))
            refine lv_if_ne (tgt := 101) hx hb dX12_at_92 (by decide) (fun c_0 => absurd c_0 (by decide)) (fun _ => ?_)
            refine lv_aload_n hx hb dX12_at_95 rfl (lv_at hl 0 rfl) ?_
            refine lv_iconst (v := 3) hx hb dX12_at_96 (by decide) ?_
            refine hp_callMl (va_runV (As := [.int 3]) (rest := []) ⟨hx, hb, hml, hown, hts⟩ (c_X12_lost l D cy _ cs ad en_1157 (hI.1 _ (by decide)) 0 hi wd mo tb dp many grt lst nou rm rb pr wo 3 es1156_1157) (kw_X12_lost hts tw_1215 ⟨by decide, by decide⟩) (preV_of hh hK (hI.1 _ (by decide)) es1156_1157 rfl) rfl rfl hl.1 rfl (lv_room (Nat.le_of_ble_eq_true rfl)) dX12_at_97 ⟨Nat.le_of_ble_eq_true rfl, Nat.le_of_ble_eq_true rfl⟩) hh hA (fun r_1167 H locs en_1167 hw_1167 hh => ?_)
            obtain ⟨hr_1167, hen_1167⟩ := hw_1167
            have es1160_1167 : en_1167 3 = .inl (cy 0, 4, .inl f_1160) := by rw [hen_1167, va_up_ne _ _ (by decide)]; exact es1160
            have es1163_1167 : en_1167 4 = .inl (cy 0, 4, .inl f_1163) := by rw [hen_1167, va_up_ne _ _ (by decide)]; exact es1163
            have es1156_1167 : en_1167 0 = .inr (11, [.int 3, .int hi, .int (nI wd), .int (nI mo), .int (nI tb), .ref (ad 1), .ref (ad 2), .ref (ad 3), .ref (ad 4), .ref (ad 5), .ref (ad 6), .ref (ad 7), .ref (ad 8), .ref (ad 9), .int dp, .long many, .long grt, .long lst, .long nou, .ref (ad 10), .ref (ad 11), .ref (ad 12), .int rm, .long rb, .ref (ad 13), .int pr, .ref (ad 14), .ref (ad 15), .ref (ad 16), .ref (ad 17), .int (nI wo), .ref (ad 18), .ref (ad 19)]) := by rw [hen_1167]; exact va_up_self _ _ _
            have hI_1167 : RX cy cs ad en_1167 := by rw [hen_1167]; exact upr_M hI_1157 ⟨3, hi, wd, mo, tb, dp, many, grt, lst, nou, rm, rb, pr, wo, rfl, hwd2, hwd3, hmo, htb, hwo⟩
            have hf_1167 : ∀ c, (c ≠ 0) → en_1167 c = en c := fun c hc => Eq.trans (show en_1167 c = en_1157 c from by rw [hen_1167, va_up_ne _ _ (by omega)]) (hf_1157 c hc)
            have hkp_1167 : KP en en_1167 := KP_fv hkp_1157 es1156_1157 es1156_1167 hi (nI wd) (nI mo) (nI tb) pr (nI wo) rfl rfl rfl rfl rfl rfl rfl rfl rfl rfl rfl rfl
            obtain rfl : r_1167 = (-9223372036854775808) := hr_1167
            exact hp_lretM hx hb hr hlocks hh (⟨hI_1167, hf_1167, hkp_1167⟩) dX12_at_100
        · refine lv_aload_n hx hb dX12_at_71 rfl (lv_at hl 0 rfl) ?_
          refine lv_iconst (v := 1) hx hb dX12_at_72 (by decide) ?_
          refine hp_callMl (va_runV (As := [.int 1]) (rest := []) ⟨hx, hb, hml, hown, hts⟩ (c_X12_lost l D cy _ cs ad en_1157 (hI.1 _ (by decide)) 0 hi wd mo tb dp many grt lst nou rm rb pr wo 1 es1156_1157) (kw_X12_lost hts tw_1215 ⟨by decide, by decide⟩) (preV_of hh hK (hI.1 _ (by decide)) es1156_1157 rfl) rfl rfl hl.1 rfl (lv_room (Nat.le_of_ble_eq_true rfl)) dX12_at_73 ⟨Nat.le_of_ble_eq_true rfl, Nat.le_of_ble_eq_true rfl⟩) hh hA (fun r_1168 H locs en_1168 hw_1168 hh => ?_)
          obtain ⟨hr_1168, hen_1168⟩ := hw_1168
          have es1160_1168 : en_1168 3 = .inl (cy 0, 4, .inl f_1160) := by rw [hen_1168, va_up_ne _ _ (by decide)]; exact es1160
          have es1156_1168 : en_1168 0 = .inr (11, [.int 1, .int hi, .int (nI wd), .int (nI mo), .int (nI tb), .ref (ad 1), .ref (ad 2), .ref (ad 3), .ref (ad 4), .ref (ad 5), .ref (ad 6), .ref (ad 7), .ref (ad 8), .ref (ad 9), .int dp, .long many, .long grt, .long lst, .long nou, .ref (ad 10), .ref (ad 11), .ref (ad 12), .int rm, .long rb, .ref (ad 13), .int pr, .ref (ad 14), .ref (ad 15), .ref (ad 16), .ref (ad 17), .int (nI wo), .ref (ad 18), .ref (ad 19)]) := by rw [hen_1168]; exact va_up_self _ _ _
          have hI_1168 : RX cy cs ad en_1168 := by rw [hen_1168]; exact upr_M hI_1157 ⟨1, hi, wd, mo, tb, dp, many, grt, lst, nou, rm, rb, pr, wo, rfl, hwd2, hwd3, hmo, htb, hwo⟩
          have hf_1168 : ∀ c, (c ≠ 0) → en_1168 c = en c := fun c hc => Eq.trans (show en_1168 c = en_1157 c from by rw [hen_1168, va_up_ne _ _ (by omega)]) (hf_1157 c hc)
          have hkp_1168 : KP en en_1168 := KP_fv hkp_1157 es1156_1157 es1156_1168 hi (nI wd) (nI mo) (nI tb) pr (nI wo) rfl rfl rfl rfl rfl rfl rfl rfl rfl rfl rfl rfl
          obtain rfl : r_1168 = (-9223372036854775808) := hr_1168
          exact hp_lretM hx hb hr hlocks hh (⟨hI_1168, hf_1168, hkp_1168⟩) dX12_at_76
      · refine lv_aload_n hx hb dX12_at_44 rfl (lv_at hl 0 rfl) ?_
        refine hp_get hx hb hts ix12 hown hK hh (q := 0) rfl (hI.1 _ (by decide)) es1156_1157 rfl 7 (by decide) (hts _ tw_886) (fun _ h9 => h9) rfl dX12_at_45 ?_
        refine lv_iload_n hx hb dX12_at_48 rfl (lv_at hl 1 rfl) ?_
        refine hp_iald hx hb hK hh (q := 3) rfl (hI.1 _ (by decide)) es1160 (vp_in_nI (n := N_1158) (by omega) (by decide)) dX12_at_49 ?_
        rw [nI_clamp (n := N_1158) (by omega)]
        refine lv_iload_n hx hb dX12_at_50 rfl (lv_at hl 3 rfl) ?_
        refine lv_icmp_eq (tgt := 60) hx hb dX12_at_51 (by decide) (fun c_1169 => ?_) (fun c_1169 => ?_)
        · refine lv_aload_n hx hb dX12_at_60 rfl (lv_at hl 0 rfl) ?_
          refine hp_get hx hb hts ix12 hown hK hh (q := 0) rfl (hI.1 _ (by decide)) es1156_1157 rfl 7 (by decide) (hts _ tw_886) (fun _ h9 => h9) rfl dX12_at_61 ?_
          refine lv_iload_n hx hb dX12_at_64 rfl (lv_at hl 1 rfl) ?_
          refine hp_iald hx hb hK hh (q := 3) rfl (hI.1 _ (by decide)) es1160 (vp_in_nI (n := N_1158) (by omega) (by decide)) dX12_at_65 ?_
          rw [nI_clamp (n := N_1158) (by omega)]
          refine lv_bipush (v := (-9)) hx hb dX12_at_66 (by decide) ?_
          refine lv_icmp_ne (tgt := 77) hx hb dX12_at_68 (by decide) (fun c_1170 => ?_) (fun c_1170 => ?_)
          · refine lv_iload_n hx hb dX12_at_77 rfl (lv_at hl 2 rfl) ?_
            refine lv_i2l hx hb dX12_at_78 rfl ?_
            refine lv_lconst (v := 0) hx hb dX12_at_79 (by decide) ?_
            refine lv_aload_n hx hb dX12_at_80 rfl (lv_at hl 0 rfl) ?_
            refine hp_get hx hb hts ix12 hown hK hh (q := 0) rfl (hI.1 _ (by decide)) es1156_1157 rfl 8 (by decide) (hts _ tw_887) (fun _ h9 => h9) rfl dX12_at_81 ?_
            refine lv_iload_n hx hb dX12_at_84 rfl (lv_at hl 1 rfl) ?_
            obtain ⟨f_1171, es1171, p0_1171⟩ := getr_sl hI_1157
            refine hp_iald hx hb hK hh (q := 4) rfl (hI.1 _ (by decide)) es1171 (vp_in_nI (n := N_1158) (by omega) (by decide)) dX12_at_85 ?_
            rw [nI_clamp (n := N_1158) (by omega)]
            obtain ⟨v_1172, hv_1172, hfv_1172⟩ := p0_1171 N_1158 (by omega)
            rw [hfv_1172]
            refine lv_i2l hx hb dX12_at_86 rfl ?_
            refine lv_lconst (v := 1) hx hb dX12_at_87 (by decide) ?_
            refine lv_lsub hx hb dX12_at_88 ?_
            refine hp_callRi (va_runS (As := [.long i9.toInt64, .long 0, .long ((nI v_1172).toInt64 - 1)]) (rest := []) ⟨hx, hb, hml, hown, hts⟩ (c_X12_within l D cy _ cs ad en_1157 i9.toInt64 0 ((nI v_1172).toInt64 - 1)) (kw_X12_within hts tw_985 ⟨by decide, by decide⟩) (preS_of hh hK) rfl rfl hl.1 rfl (lv_room (Nat.le_of_ble_eq_true rfl)) dX12_at_89 ⟨Nat.le_of_ble_eq_true rfl, Nat.le_of_ble_eq_true rfl⟩) hh hA (fun r_1173 H locs hw_1173 hh => ?_)
            rcases Decidable.em (0 ≤ i9.toInt ∧ i9.toInt < (v_1172 : Int)) with hp_1173 | hp_1173
            · obtain rfl : r_1173 = 1 := Eq.trans hw_1173 (if_pos ((wj_m1 (by omega)).mpr hp_1173))
              obtain ⟨N_1173, rfl, hB_1173⟩ := has_nat hp_1173
              refine lv_if_ne (tgt := 101) hx hb dX12_at_92 (by decide) (fun _ => ?_) (fun c_0 => absurd c_0 (by decide))
              refine lv_aload_n hx hb dX12_at_101 rfl (lv_at hl 0 rfl) ?_
              refine hp_get hx hb hts ix12 hown hK hh (q := 0) rfl (hI.1 _ (by decide)) es1156_1157 rfl 9 (by decide) (hts _ tw_888) (fun _ h9 => h9) rfl dX12_at_102 ?_
              refine lv_bipush (v := 40) hx hb dX12_at_105 (by decide) ?_
              refine lv_iload_n hx hb dX12_at_107 rfl (lv_at hl 1 rfl) ?_
              refine lv_imul hx hb dX12_at_108 ?_
              rw [show (40 : Int32) = nI 40 from rfl, pk_mul 40 N_1158]
              refine lv_iload_n hx hb dX12_at_109 rfl (lv_at hl 2 rfl) ?_
              refine lv_iadd hx hb dX12_at_110 ?_
              rw [nI_add (40 * N_1158) N_1173]
              obtain ⟨f_1174, es1174⟩ := getr_ce hI_1157
              refine hp_iald hx hb hK hh (q := 5) rfl (hI.1 _ (by decide)) es1174 (vp_in_nI (n := ((40 * N_1158) + N_1173)) (by omega) (by decide)) dX12_at_111 ?_
              rw [nI_clamp (n := ((40 * N_1158) + N_1173)) (by omega)]
              refine lv_i2l hx hb dX12_at_112 rfl ?_
              exact hp_lretM hx hb hr hlocks hh (⟨hI_1157, hf_1157, hkp_1157⟩) dX12_at_113
            · obtain rfl : r_1173 = 0 := Eq.trans hw_1173 (if_neg (fun q => hp_1173 ((wj_m1 (by omega)).mp q)))
              refine lv_if_ne (tgt := 101) hx hb dX12_at_92 (by decide) (fun c_0 => absurd c_0 (by decide)) (fun _ => ?_)
              refine lv_aload_n hx hb dX12_at_95 rfl (lv_at hl 0 rfl) ?_
              refine lv_iconst (v := 3) hx hb dX12_at_96 (by decide) ?_
              refine hp_callMl (va_runV (As := [.int 3]) (rest := []) ⟨hx, hb, hml, hown, hts⟩ (c_X12_lost l D cy _ cs ad en_1157 (hI.1 _ (by decide)) 0 hi wd mo tb dp many grt lst nou rm rb pr wo 3 es1156_1157) (kw_X12_lost hts tw_1215 ⟨by decide, by decide⟩) (preV_of hh hK (hI.1 _ (by decide)) es1156_1157 rfl) rfl rfl hl.1 rfl (lv_room (Nat.le_of_ble_eq_true rfl)) dX12_at_97 ⟨Nat.le_of_ble_eq_true rfl, Nat.le_of_ble_eq_true rfl⟩) hh hA (fun r_1175 H locs en_1175 hw_1175 hh => ?_)
              obtain ⟨hr_1175, hen_1175⟩ := hw_1175
              have es1160_1175 : en_1175 3 = .inl (cy 0, 4, .inl f_1160) := by rw [hen_1175, va_up_ne _ _ (by decide)]; exact es1160
              have es1171_1175 : en_1175 4 = .inl (cy 0, 4, .inl f_1171) := by rw [hen_1175, va_up_ne _ _ (by decide)]; exact es1171
              have es1156_1175 : en_1175 0 = .inr (11, [.int 3, .int hi, .int (nI wd), .int (nI mo), .int (nI tb), .ref (ad 1), .ref (ad 2), .ref (ad 3), .ref (ad 4), .ref (ad 5), .ref (ad 6), .ref (ad 7), .ref (ad 8), .ref (ad 9), .int dp, .long many, .long grt, .long lst, .long nou, .ref (ad 10), .ref (ad 11), .ref (ad 12), .int rm, .long rb, .ref (ad 13), .int pr, .ref (ad 14), .ref (ad 15), .ref (ad 16), .ref (ad 17), .int (nI wo), .ref (ad 18), .ref (ad 19)]) := by rw [hen_1175]; exact va_up_self _ _ _
              have hI_1175 : RX cy cs ad en_1175 := by rw [hen_1175]; exact upr_M hI_1157 ⟨3, hi, wd, mo, tb, dp, many, grt, lst, nou, rm, rb, pr, wo, rfl, hwd2, hwd3, hmo, htb, hwo⟩
              have hf_1175 : ∀ c, (c ≠ 0) → en_1175 c = en c := fun c hc => Eq.trans (show en_1175 c = en_1157 c from by rw [hen_1175, va_up_ne _ _ (by omega)]) (hf_1157 c hc)
              have hkp_1175 : KP en en_1175 := KP_fv hkp_1157 es1156_1157 es1156_1175 hi (nI wd) (nI mo) (nI tb) pr (nI wo) rfl rfl rfl rfl rfl rfl rfl rfl rfl rfl rfl rfl
              obtain rfl : r_1175 = (-9223372036854775808) := hr_1175
              exact hp_lretM hx hb hr hlocks hh (⟨hI_1175, hf_1175, hkp_1175⟩) dX12_at_100
          · refine lv_aload_n hx hb dX12_at_71 rfl (lv_at hl 0 rfl) ?_
            refine lv_iconst (v := 1) hx hb dX12_at_72 (by decide) ?_
            refine hp_callMl (va_runV (As := [.int 1]) (rest := []) ⟨hx, hb, hml, hown, hts⟩ (c_X12_lost l D cy _ cs ad en_1157 (hI.1 _ (by decide)) 0 hi wd mo tb dp many grt lst nou rm rb pr wo 1 es1156_1157) (kw_X12_lost hts tw_1215 ⟨by decide, by decide⟩) (preV_of hh hK (hI.1 _ (by decide)) es1156_1157 rfl) rfl rfl hl.1 rfl (lv_room (Nat.le_of_ble_eq_true rfl)) dX12_at_73 ⟨Nat.le_of_ble_eq_true rfl, Nat.le_of_ble_eq_true rfl⟩) hh hA (fun r_1176 H locs en_1176 hw_1176 hh => ?_)
            obtain ⟨hr_1176, hen_1176⟩ := hw_1176
            have es1160_1176 : en_1176 3 = .inl (cy 0, 4, .inl f_1160) := by rw [hen_1176, va_up_ne _ _ (by decide)]; exact es1160
            have es1156_1176 : en_1176 0 = .inr (11, [.int 1, .int hi, .int (nI wd), .int (nI mo), .int (nI tb), .ref (ad 1), .ref (ad 2), .ref (ad 3), .ref (ad 4), .ref (ad 5), .ref (ad 6), .ref (ad 7), .ref (ad 8), .ref (ad 9), .int dp, .long many, .long grt, .long lst, .long nou, .ref (ad 10), .ref (ad 11), .ref (ad 12), .int rm, .long rb, .ref (ad 13), .int pr, .ref (ad 14), .ref (ad 15), .ref (ad 16), .ref (ad 17), .int (nI wo), .ref (ad 18), .ref (ad 19)]) := by rw [hen_1176]; exact va_up_self _ _ _
            have hI_1176 : RX cy cs ad en_1176 := by rw [hen_1176]; exact upr_M hI_1157 ⟨1, hi, wd, mo, tb, dp, many, grt, lst, nou, rm, rb, pr, wo, rfl, hwd2, hwd3, hmo, htb, hwo⟩
            have hf_1176 : ∀ c, (c ≠ 0) → en_1176 c = en c := fun c hc => Eq.trans (show en_1176 c = en_1157 c from by rw [hen_1176, va_up_ne _ _ (by omega)]) (hf_1157 c hc)
            have hkp_1176 : KP en en_1176 := KP_fv hkp_1157 es1156_1157 es1156_1176 hi (nI wd) (nI mo) (nI tb) pr (nI wo) rfl rfl rfl rfl rfl rfl rfl rfl rfl rfl rfl rfl
            obtain rfl : r_1176 = (-9223372036854775808) := hr_1176
            exact hp_lretM hx hb hr hlocks hh (⟨hI_1176, hf_1176, hkp_1176⟩) dX12_at_76
        · refine lv_aload_n hx hb dX12_at_54 rfl (lv_at hl 0 rfl) ?_
          refine lv_iconst (v := 2) hx hb dX12_at_55 (by decide) ?_
          refine hp_callMl (va_runV (As := [.int 2]) (rest := []) ⟨hx, hb, hml, hown, hts⟩ (c_X12_lost l D cy _ cs ad en_1157 (hI.1 _ (by decide)) 0 hi wd mo tb dp many grt lst nou rm rb pr wo 2 es1156_1157) (kw_X12_lost hts tw_1215 ⟨by decide, by decide⟩) (preV_of hh hK (hI.1 _ (by decide)) es1156_1157 rfl) rfl rfl hl.1 rfl (lv_room (Nat.le_of_ble_eq_true rfl)) dX12_at_56 ⟨Nat.le_of_ble_eq_true rfl, Nat.le_of_ble_eq_true rfl⟩) hh hA (fun r_1177 H locs en_1177 hw_1177 hh => ?_)
          obtain ⟨hr_1177, hen_1177⟩ := hw_1177
          have es1160_1177 : en_1177 3 = .inl (cy 0, 4, .inl f_1160) := by rw [hen_1177, va_up_ne _ _ (by decide)]; exact es1160
          have es1156_1177 : en_1177 0 = .inr (11, [.int 2, .int hi, .int (nI wd), .int (nI mo), .int (nI tb), .ref (ad 1), .ref (ad 2), .ref (ad 3), .ref (ad 4), .ref (ad 5), .ref (ad 6), .ref (ad 7), .ref (ad 8), .ref (ad 9), .int dp, .long many, .long grt, .long lst, .long nou, .ref (ad 10), .ref (ad 11), .ref (ad 12), .int rm, .long rb, .ref (ad 13), .int pr, .ref (ad 14), .ref (ad 15), .ref (ad 16), .ref (ad 17), .int (nI wo), .ref (ad 18), .ref (ad 19)]) := by rw [hen_1177]; exact va_up_self _ _ _
          have hI_1177 : RX cy cs ad en_1177 := by rw [hen_1177]; exact upr_M hI_1157 ⟨2, hi, wd, mo, tb, dp, many, grt, lst, nou, rm, rb, pr, wo, rfl, hwd2, hwd3, hmo, htb, hwo⟩
          have hf_1177 : ∀ c, (c ≠ 0) → en_1177 c = en c := fun c hc => Eq.trans (show en_1177 c = en_1157 c from by rw [hen_1177, va_up_ne _ _ (by omega)]) (hf_1157 c hc)
          have hkp_1177 : KP en en_1177 := KP_fv hkp_1157 es1156_1157 es1156_1177 hi (nI wd) (nI mo) (nI tb) pr (nI wo) rfl rfl rfl rfl rfl rfl rfl rfl rfl rfl rfl rfl
          obtain rfl : r_1177 = (-9223372036854775808) := hr_1177
          exact hp_lretM hx hb hr hlocks hh (⟨hI_1177, hf_1177, hkp_1177⟩) dX12_at_59
    · obtain rfl : r_1159 = 0 := Eq.trans hw_1159 (if_neg (fun q => hp_1159 ((wj_32 (by decide) (by decide)).mp q)))
      refine lv_if_ne (tgt := 33) hx hb dX12_at_26 (by decide) (fun c_0 => absurd c_0 (by decide)) (fun _ => ?_)
      refine lv_ldc2 hx hb hown (hts _ tw_1015) dX12_at_29 ?_
      exact hp_lretM hx hb hr hlocks hh (⟨hI_1157, hf_1157, hkp_1157⟩) dX12_at_32
  · obtain rfl : r_1158 = 0 := Eq.trans hw_1158 (if_neg (fun q => hp_1158 ((wj_32 (by decide) (by decide)).mp q)))
    refine lv_if_eq (tgt := 29) hx hb dX12_at_14 (by decide) (fun _ => ?_) (fun c_0 => absurd c_0 (by decide))
    refine lv_ldc2 hx hb hown (hts _ tw_1015) dX12_at_29 ?_
    exact hp_lretM hx hb hr hlocks hh (⟨hI_1157, hf_1157, hkp_1157⟩) dX12_at_32
theorem kw_X12_at {R : Room} {s : State} {args : Array Value} {own : String} {idx : Nat} (hts : ∀ w ∈ TB, w.before args s = true) (hl : Cond.methodLink own idx yX12_at ∈ TB) (hR : 1 + 1 ≤ R.frames ∧ 8 + (4 + 11) + 40 * 1 ≤ R.locals) : CallW R s args own RX12 idx yX12_at cX12_at 4 (some .long) (Cond.code yX12_at cX12_at 4 (some .long) :: TB) (rmN 1) 0 0 3 := cwV 3 hts (TB_V hl tw_1212 tw_1213 tw_9 tw_1214) rfl rfl rfl (by decide +kernel) hR
set_option maxHeartbeats 4000000 in
set_option maxRecDepth 100000 in
/-- kindOf -/
theorem c_X12_kindOf (l : Launch) (D : va_G) (cy : Nat → ClassId) (sz : Nat) (cs : List Nat) (ad : Nat → Nat) (en : Nat → va_E) (hI : RX cy cs ad en) (t : Nat) (ht6 : t < 6)   : Met l yX12_kindOf (Cond.code yX12_kindOf cX12_kindOf 9 (some .int) :: TB) (rmN 0) (va_Pc [.ref (ad 0), .int (nI t)] (Pre D cy cs ad en sz)) (va_Qi (S := Unit) (fun r _ => r = 0 ∨ r = 1 ∨ r = 2) (fun _ _ => True) (Nf sz)) 0 0 (Nf sz) := by
  refine Met.ofW (cc := cX12_kindOf) (maxL := 9) (ret := (some .int)) (by decide) rfl ?_
  intro p e s m args below meth c s₁ B hml hv
  obtain ⟨rfl, hsz, hP, hK, hD0⟩ := hv
  have hx := B.exec
  have hb := B.bytes
  have hr := B.returns
  have hts : ∀ w ∈ TB, w.before _ s = true := fun w h => atoms_spec (ws := _ :: TB) B.pre w (List.mem_cons_of_mem _ h)
  have hown : s.vm.findClass RX12 = some m.cls := findClass_of_methodNamed B.named
  have hlocks := B.notSynchronized
  have hh : Hp D (Nf sz) (fun _ => True) s.heap s.heap [] cs ad en := ⟨hP, hD0, va_S.rf⟩
  have hA : ∀ q : Nat, s.heap.size ≤ q → Nf sz q := fun q h => by rw [hsz] at h; exact h
  have hl := lv_entry ([.ref (ad 0), .int (nI t)]) (n := 9) (Nat.le_of_ble_eq_true rfl)
  rw [lg_entry_eq]
  generalize (lg_sl ([.ref (ad 0), .int (nI t)]) ++ List.replicate (9 - (lg_sl ([.ref (ad 0), .int (nI t)])).length) Slot.unset).toArray = ls at hl ⊢
  have hl : lv_has ls 9 [(0, .ref (ad 0)), (1, .int (nI t))] := hl
  obtain ⟨fa, hi, wd, mo, tb, dp, many, grt, lst, nou, rm, rb, pr, wo, es1178, hwd2, hwd3, hmo, htb, hwo⟩ := getr_M hI
  obtain ⟨f_1179, es1179⟩ := getr_E hI
  refine lv_iconst (v := 1) hx hb dX12_kindOf_0 (by decide) ?_
  refine lv_istore_n (lv' := [(2, .int 1), (0, .ref (ad 0)), (1, .int (nI t))]) hx hb dX12_kindOf_1 rfl hl (by decide) rfl (fun ls hl => ?_)
  refine lv_iconst (v := 1) hx hb dX12_kindOf_2 (by decide) ?_
  refine lv_istore_n (lv' := [(3, .int 1), (2, .int 1), (0, .ref (ad 0)), (1, .int (nI t))]) hx hb dX12_kindOf_3 rfl hl (by decide) rfl (fun ls hl => ?_)
  refine lv_iconst (v := 0) hx hb dX12_kindOf_4 (by decide) ?_
  refine lv_istore (lv' := [(4, .int 0), (3, .int 1), (2, .int 1), (0, .ref (ad 0)), (1, .int (nI t))]) hx hb dX12_kindOf_5 hl (by decide) rfl (fun ls hl => ?_)
  have loop_1180 : ∀ (fu j1180 : Nat) (ev1180 : Int32) (sh1180 : Int32)  (ls : Array Slot) (H : Heap) (locs : List Loc), 0 ≤ j1180 → j1180 ≤ wd → wd < j1180 + fu →   lv_has ls 9 [(4, .int (nI j1180)), (3, .int sh1180), (2, .int ev1180), (0, .ref (ad 0)), (1, .int (nI t))] → Hp D (Nf sz) (fun _ => True) s.heap H locs cs ad en → W p l e (headSpec (Cond.code yX12_kindOf cX12_kindOf 9 (some .int) :: TB) (rmN 0)).room s m ([.ref (ad 0), .int (nI t)] : List Value).toArray below meth c H locs 0 0 (MQ below (va_Qi (S := Unit) (fun r _ => r = 0 ∨ r = 1 ∨ r = 2) (fun _ _ => True) (Nf sz)) ([.ref (ad 0), .int (nI t)] : List Value).toArray s 0 0 (Nf sz)) (F0 m 7 ls []) := by
    intro fu
    induction fu with
    | zero => intro j1180 ev1180 sh1180 ls H locs h0 h1 h2; exact absurd h2 (by omega)
    | succ fu ih_1180 =>
      intro j1180 ev1180 sh1180 ls H locs hj0_1180 hj_1180 hfu_1180  hl hh
      refine lv_iload hx hb dX12_kindOf_7 (lv_at hl 0 rfl) ?_
      refine lv_aload_n hx hb dX12_kindOf_9 rfl (lv_at hl 3 rfl) ?_
      refine hp_get hx hb hts ix12 hown hK hh (q := 0) rfl (hI.1 _ (by decide)) es1178 rfl 2 (by decide) (hts _ tw_881) (fun _ h9 => h9) rfl dX12_kindOf_10 ?_
      refine lv_icmp_ge (tgt := 152) hx hb dX12_kindOf_13 (by decide) (fun c_1181 => ?_) (fun c_1181 => ?_)
      · have n_1181 : wd ≤ j1180 := n_le (a := wd) (b := j1180) c_1181 (by omega) (by omega)
        refine lv_iload_n hx hb dX12_kindOf_152 rfl (lv_at hl 1 rfl) ?_
        refine lv_if_eq (tgt := 160) hx hb dX12_kindOf_153 (by decide) (fun c_1182 => ?_) (fun c_1182 => ?_)
        · refine lv_iload_n hx hb dX12_kindOf_160 rfl (lv_at hl 2 rfl) ?_
          refine lv_if_eq (tgt := 168) hx hb dX12_kindOf_161 (by decide) (fun c_1183 => ?_) (fun c_1183 => ?_)
          · refine lv_iconst (v := 0) hx hb dX12_kindOf_168 (by decide) ?_
            exact hp_iretR hx hb hr rfl hlocks hsz hh (Or.inl rfl) dX12_kindOf_169
          · refine lv_iconst (v := 1) hx hb dX12_kindOf_164 (by decide) ?_
            refine lv_goto (tgt := 169) hx hb dX12_kindOf_165 (by decide) ?_
            exact hp_iretR hx hb hr rfl hlocks hsz hh (Or.inr (Or.inl rfl)) dX12_kindOf_169
        · refine lv_iconst (v := 2) hx hb dX12_kindOf_156 (by decide) ?_
          refine lv_goto (tgt := 169) hx hb dX12_kindOf_157 (by decide) ?_
          exact hp_iretR hx hb hr rfl hlocks hsz hh (Or.inr (Or.inr rfl)) dX12_kindOf_169
      · have n_1181 : j1180 < wd := n_nle (a := wd) (b := j1180) c_1181 (by omega) (by omega)
        refine lv_iconst (v := 0) hx hb dX12_kindOf_16 (by decide) ?_
        refine lv_istore (lv' := [(5, .int 0), (4, .int (nI j1180)), (3, .int sh1180), (2, .int ev1180), (0, .ref (ad 0)), (1, .int (nI t))]) hx hb dX12_kindOf_17 hl (by decide) rfl (fun ls hl => ?_)
        refine lv_iconst (v := 0) hx hb dX12_kindOf_19 (by decide) ?_
        refine lv_istore (lv' := [(6, .int 0), (5, .int 0), (4, .int (nI j1180)), (3, .int sh1180), (2, .int ev1180), (0, .ref (ad 0)), (1, .int (nI t))]) hx hb dX12_kindOf_20 hl (by decide) rfl (fun ls hl => ?_)
        refine lv_iconst (v := 0) hx hb dX12_kindOf_22 (by decide) ?_
        refine lv_istore (lv' := [(7, .int 0), (6, .int 0), (5, .int 0), (4, .int (nI j1180)), (3, .int sh1180), (2, .int ev1180), (0, .ref (ad 0)), (1, .int (nI t))]) hx hb dX12_kindOf_23 hl (by decide) rfl (fun ls hl => ?_)
        have loop_1184 : ∀ (fu j1184 : Nat) (ev1184 : Int32) (sh1184 : Int32) (ir1184 : Int32) (ic1184 : Int32)  (ls : Array Slot) (H : Heap) (locs : List Loc), 0 ≤ j1184 → j1184 ≤ wd → wd < j1184 + fu →   lv_has ls 9 [(7, .int (nI j1184)), (6, .int ic1184), (5, .int ir1184), (4, .int (nI j1180)), (3, .int sh1184), (2, .int ev1184), (0, .ref (ad 0)), (1, .int (nI t))] → Hp D (Nf sz) (fun _ => True) s.heap H locs cs ad en → W p l e (headSpec (Cond.code yX12_kindOf cX12_kindOf 9 (some .int) :: TB) (rmN 0)).room s m ([.ref (ad 0), .int (nI t)] : List Value).toArray below meth c H locs 0 0 (MQ below (va_Qi (S := Unit) (fun r _ => r = 0 ∨ r = 1 ∨ r = 2) (fun _ _ => True) (Nf sz)) ([.ref (ad 0), .int (nI t)] : List Value).toArray s 0 0 (Nf sz)) (F0 m 25 ls []) := by
          intro fu
          induction fu with
          | zero => intro j1184 ev1184 sh1184 ir1184 ic1184 ls H locs h0 h1 h2; exact absurd h2 (by omega)
          | succ fu ih_1184 =>
            intro j1184 ev1184 sh1184 ir1184 ic1184 ls H locs hj0_1184 hj_1184 hfu_1184  hl hh
            refine lv_iload hx hb dX12_kindOf_25 (lv_at hl 0 rfl) ?_
            refine lv_aload_n hx hb dX12_kindOf_27 rfl (lv_at hl 6 rfl) ?_
            refine hp_get hx hb hts ix12 hown hK hh (q := 0) rfl (hI.1 _ (by decide)) es1178 rfl 2 (by decide) (hts _ tw_881) (fun _ h9 => h9) rfl dX12_kindOf_28 ?_
            refine lv_icmp_ge (tgt := 126) hx hb dX12_kindOf_31 (by decide) (fun c_1185 => ?_) (fun c_1185 => ?_)
            · have n_1185 : wd ≤ j1184 := n_le (a := wd) (b := j1184) c_1185 (by omega) (by omega)
              refine lv_iload_n hx hb dX12_kindOf_126 rfl (lv_at hl 4 rfl) ?_
              refine lv_iload hx hb dX12_kindOf_127 (lv_at hl 2 rfl) ?_
              refine lv_iconst (v := 1) hx hb dX12_kindOf_129 (by decide) ?_
              refine lv_icmp_ne (tgt := 143) hx hb dX12_kindOf_130 (by decide) (fun c_1186 => ?_) (fun c_1186 => ?_)
              · refine lv_iconst (v := 0) hx hb dX12_kindOf_143 (by decide) ?_
                refine lv_iand hx hb dX12_kindOf_144 ?_
                refine lv_istore_n (lv' := [(3, .int (sh1184 &&& 0)), (7, .int (nI j1184)), (6, .int ic1184), (5, .int ir1184), (4, .int (nI j1180)), (2, .int ev1184), (0, .ref (ad 0)), (1, .int (nI t))]) hx hb dX12_kindOf_145 rfl hl (by decide) rfl (fun ls hl => ?_)
                refine lv_iinc (v := (nI (j1180 + 1))) (lv' := [(4, .int (nI (j1180 + 1))), (3, .int (sh1184 &&& 0)), (7, .int (nI j1184)), (6, .int ic1184), (5, .int ir1184), (2, .int ev1184), (0, .ref (ad 0)), (1, .int (nI t))]) hx hb dX12_kindOf_146 hl (k := 4) rfl (nI_1 _) (by decide) rfl (fun ls hl => ?_)
                refine lv_goto (tgt := 7) hx hb dX12_kindOf_149 (by decide) ?_
                exact ih_1180 ((j1180 + 1)) ev1184 (sh1184 &&& 0) ls H locs (by omega) (by omega) (by omega)  (lv_sub hl [0, 1, 5, 6, 7] rfl) hh
              · refine lv_iload hx hb dX12_kindOf_133 (lv_at hl 1 rfl) ?_
                refine lv_iconst (v := 1) hx hb dX12_kindOf_135 (by decide) ?_
                refine lv_icmp_ne (tgt := 143) hx hb dX12_kindOf_136 (by decide) (fun c_1187 => ?_) (fun c_1187 => ?_)
                · refine lv_iconst (v := 0) hx hb dX12_kindOf_143 (by decide) ?_
                  refine lv_iand hx hb dX12_kindOf_144 ?_
                  refine lv_istore_n (lv' := [(3, .int (sh1184 &&& 0)), (7, .int (nI j1184)), (6, .int ic1184), (5, .int ir1184), (4, .int (nI j1180)), (2, .int ev1184), (0, .ref (ad 0)), (1, .int (nI t))]) hx hb dX12_kindOf_145 rfl hl (by decide) rfl (fun ls hl => ?_)
                  refine lv_iinc (v := (nI (j1180 + 1))) (lv' := [(4, .int (nI (j1180 + 1))), (3, .int (sh1184 &&& 0)), (7, .int (nI j1184)), (6, .int ic1184), (5, .int ir1184), (2, .int ev1184), (0, .ref (ad 0)), (1, .int (nI t))]) hx hb dX12_kindOf_146 hl (k := 4) rfl (nI_1 _) (by decide) rfl (fun ls hl => ?_)
                  refine lv_goto (tgt := 7) hx hb dX12_kindOf_149 (by decide) ?_
                  exact ih_1180 ((j1180 + 1)) ev1184 (sh1184 &&& 0) ls H locs (by omega) (by omega) (by omega)  (lv_sub hl [0, 1, 5, 6, 7] rfl) hh
                · refine lv_iconst (v := 1) hx hb dX12_kindOf_139 (by decide) ?_
                  refine lv_goto (tgt := 144) hx hb dX12_kindOf_140 (by decide) ?_
                  refine lv_iand hx hb dX12_kindOf_144 ?_
                  refine lv_istore_n (lv' := [(3, .int (sh1184 &&& 1)), (7, .int (nI j1184)), (6, .int ic1184), (5, .int ir1184), (4, .int (nI j1180)), (2, .int ev1184), (0, .ref (ad 0)), (1, .int (nI t))]) hx hb dX12_kindOf_145 rfl hl (by decide) rfl (fun ls hl => ?_)
                  refine lv_iinc (v := (nI (j1180 + 1))) (lv' := [(4, .int (nI (j1180 + 1))), (3, .int (sh1184 &&& 1)), (7, .int (nI j1184)), (6, .int ic1184), (5, .int ir1184), (2, .int ev1184), (0, .ref (ad 0)), (1, .int (nI t))]) hx hb dX12_kindOf_146 hl (k := 4) rfl (nI_1 _) (by decide) rfl (fun ls hl => ?_)
                  refine lv_goto (tgt := 7) hx hb dX12_kindOf_149 (by decide) ?_
                  exact ih_1180 ((j1180 + 1)) ev1184 (sh1184 &&& 1) ls H locs (by omega) (by omega) (by omega)  (lv_sub hl [0, 1, 5, 6, 7] rfl) hh
            · have n_1185 : j1184 < wd := n_nle (a := wd) (b := j1184) c_1185 (by omega) (by omega)
              refine lv_aload_n hx hb dX12_kindOf_34 rfl (lv_at hl 6 rfl) ?_
              refine hp_get hx hb hts ix12 hown hK hh (q := 0) rfl (hI.1 _ (by decide)) es1178 rfl 5 (by decide) (hts _ tw_884) (fun _ h9 => h9) rfl dX12_kindOf_35 ?_
              refine lv_bipush (v := 9) hx hb dX12_kindOf_38 (by decide) ?_
              refine lv_iload_n hx hb dX12_kindOf_40 rfl (lv_at hl 7 rfl) ?_
              refine lv_imul hx hb dX12_kindOf_41 ?_
              rw [show (9 : Int32) = nI 9 from rfl, pk_mul 9 t]
              refine lv_aload_n hx hb dX12_kindOf_42 rfl (lv_at hl 6 rfl) ?_
              refine hp_get hx hb hts ix12 hown hK hh (q := 0) rfl (hI.1 _ (by decide)) es1178 rfl 2 (by decide) (hts _ tw_881) (fun _ h9 => h9) rfl dX12_kindOf_43 ?_
              refine lv_iload hx hb dX12_kindOf_46 (lv_at hl 3 rfl) ?_
              refine lv_imul hx hb dX12_kindOf_48 ?_
              rw [pk_mul wd j1180]
              refine lv_iadd hx hb dX12_kindOf_49 ?_
              rw [nI_add (9 * t) (wd * j1180)]
              refine lv_iload hx hb dX12_kindOf_50 (lv_at hl 0 rfl) ?_
              refine lv_iadd hx hb dX12_kindOf_52 ?_
              rw [nI_add ((9 * t) + (wd * j1180)) j1184]
              have hi_1188 : wd * j1180 + j1184 < 9 := mdr (by omega) (by omega) (by omega)
              refine hp_iald hx hb hK hh (q := 1) rfl (hI.1 _ (by decide)) es1179 (vp_in_nI (n := (((9 * t) + (wd * j1180)) + j1184)) (by omega) (by decide)) dX12_kindOf_53 ?_
              rw [nI_clamp (n := (((9 * t) + (wd * j1180)) + j1184)) (by omega)]
              refine lv_istore (lv' := [(8, .int (f_1179 (((9 * t) + (wd * j1180)) + j1184))), (7, .int (nI j1184)), (6, .int ic1184), (5, .int ir1184), (4, .int (nI j1180)), (3, .int sh1184), (2, .int ev1184), (0, .ref (ad 0)), (1, .int (nI t))]) hx hb dX12_kindOf_54 hl (by decide) rfl (fun ls hl => ?_)
              refine lv_iload_n hx hb dX12_kindOf_56 rfl (lv_at hl 6 rfl) ?_
              refine lv_iload hx hb dX12_kindOf_57 (lv_at hl 0 rfl) ?_
              refine lv_if_lt (tgt := 66) hx hb dX12_kindOf_59 (by decide) (fun c_1189 => ?_) (fun c_1189 => ?_)
              · refine lv_iconst (v := 0) hx hb dX12_kindOf_66 (by decide) ?_
                refine lv_iand hx hb dX12_kindOf_67 ?_
                refine lv_istore_n (lv' := [(2, .int (ev1184 &&& 0)), (8, .int (f_1179 (((9 * t) + (wd * j1180)) + j1184))), (7, .int (nI j1184)), (6, .int ic1184), (5, .int ir1184), (4, .int (nI j1180)), (3, .int sh1184), (0, .ref (ad 0)), (1, .int (nI t))]) hx hb dX12_kindOf_68 rfl hl (by decide) rfl (fun ls hl => ?_)
                refine lv_iload_n hx hb dX12_kindOf_69 rfl (lv_at hl 6 rfl) ?_
                refine lv_iload hx hb dX12_kindOf_70 (lv_at hl 1 rfl) ?_
                refine lv_if_eq (tgt := 81) hx hb dX12_kindOf_72 (by decide) (fun c_1190 => ?_) (fun c_1190 => ?_)
                · refine lv_iconst (v := 1) hx hb dX12_kindOf_81 (by decide) ?_
                  refine lv_goto (tgt := 86) hx hb dX12_kindOf_82 (by decide) ?_
                  refine lv_iand hx hb dX12_kindOf_86 ?_
                  refine lv_istore_n (lv' := [(3, .int (sh1184 &&& 1)), (2, .int (ev1184 &&& 0)), (8, .int (f_1179 (((9 * t) + (wd * j1180)) + j1184))), (7, .int (nI j1184)), (6, .int ic1184), (5, .int ir1184), (4, .int (nI j1180)), (0, .ref (ad 0)), (1, .int (nI t))]) hx hb dX12_kindOf_87 rfl hl (by decide) rfl (fun ls hl => ?_)
                  refine lv_iload hx hb dX12_kindOf_88 (lv_at hl 5 rfl) ?_
                  refine lv_iload hx hb dX12_kindOf_90 (lv_at hl 2 rfl) ?_
                  refine lv_iadd hx hb dX12_kindOf_92 ?_
                  refine lv_istore (lv' := [(5, .int (ir1184 + (f_1179 (((9 * t) + (wd * j1180)) + j1184)))), (3, .int (sh1184 &&& 1)), (2, .int (ev1184 &&& 0)), (8, .int (f_1179 (((9 * t) + (wd * j1180)) + j1184))), (7, .int (nI j1184)), (6, .int ic1184), (4, .int (nI j1180)), (0, .ref (ad 0)), (1, .int (nI t))]) hx hb dX12_kindOf_93 hl (by decide) rfl (fun ls hl => ?_)
                  refine lv_iload hx hb dX12_kindOf_95 (lv_at hl 5 rfl) ?_
                  refine lv_aload_n hx hb dX12_kindOf_97 rfl (lv_at hl 7 rfl) ?_
                  refine hp_get hx hb hts ix12 hown hK hh (q := 0) rfl (hI.1 _ (by decide)) es1178 rfl 5 (by decide) (hts _ tw_884) (fun _ h9 => h9) rfl dX12_kindOf_98 ?_
                  refine lv_bipush (v := 9) hx hb dX12_kindOf_101 (by decide) ?_
                  refine lv_iload_n hx hb dX12_kindOf_103 rfl (lv_at hl 8 rfl) ?_
                  refine lv_imul hx hb dX12_kindOf_104 ?_
                  rw [show (9 : Int32) = nI 9 from rfl, pk_mul 9 t]
                  refine lv_aload_n hx hb dX12_kindOf_105 rfl (lv_at hl 7 rfl) ?_
                  refine hp_get hx hb hts ix12 hown hK hh (q := 0) rfl (hI.1 _ (by decide)) es1178 rfl 2 (by decide) (hts _ tw_881) (fun _ h9 => h9) rfl dX12_kindOf_106 ?_
                  refine lv_iload hx hb dX12_kindOf_109 (lv_at hl 4 rfl) ?_
                  refine lv_imul hx hb dX12_kindOf_111 ?_
                  rw [pk_mul wd j1184]
                  refine lv_iadd hx hb dX12_kindOf_112 ?_
                  rw [nI_add (9 * t) (wd * j1184)]
                  refine lv_iload hx hb dX12_kindOf_113 (lv_at hl 6 rfl) ?_
                  refine lv_iadd hx hb dX12_kindOf_115 ?_
                  rw [nI_add ((9 * t) + (wd * j1184)) j1180]
                  have hi_1191 : wd * j1184 + j1180 < 9 := mdr (by omega) (by omega) (by omega)
                  refine hp_iald hx hb hK hh (q := 1) rfl (hI.1 _ (by decide)) es1179 (vp_in_nI (n := (((9 * t) + (wd * j1184)) + j1180)) (by omega) (by decide)) dX12_kindOf_116 ?_
                  rw [nI_clamp (n := (((9 * t) + (wd * j1184)) + j1180)) (by omega)]
                  refine lv_iadd hx hb dX12_kindOf_117 ?_
                  refine lv_istore (lv' := [(6, .int (ic1184 + (f_1179 (((9 * t) + (wd * j1184)) + j1180)))), (5, .int (ir1184 + (f_1179 (((9 * t) + (wd * j1180)) + j1184)))), (3, .int (sh1184 &&& 1)), (2, .int (ev1184 &&& 0)), (8, .int (f_1179 (((9 * t) + (wd * j1180)) + j1184))), (7, .int (nI j1184)), (4, .int (nI j1180)), (0, .ref (ad 0)), (1, .int (nI t))]) hx hb dX12_kindOf_118 hl (by decide) rfl (fun ls hl => ?_)
                  refine lv_iinc (v := (nI (j1184 + 1))) (lv' := [(7, .int (nI (j1184 + 1))), (6, .int (ic1184 + (f_1179 (((9 * t) + (wd * j1184)) + j1180)))), (5, .int (ir1184 + (f_1179 (((9 * t) + (wd * j1180)) + j1184)))), (3, .int (sh1184 &&& 1)), (2, .int (ev1184 &&& 0)), (8, .int (f_1179 (((9 * t) + (wd * j1180)) + j1184))), (4, .int (nI j1180)), (0, .ref (ad 0)), (1, .int (nI t))]) hx hb dX12_kindOf_120 hl (k := 5) rfl (nI_1 _) (by decide) rfl (fun ls hl => ?_)
                  refine lv_goto (tgt := 25) hx hb dX12_kindOf_123 (by decide) ?_
                  exact ih_1184 ((j1184 + 1)) (ev1184 &&& 0) (sh1184 &&& 1) (ir1184 + (f_1179 (((9 * t) + (wd * j1180)) + j1184))) (ic1184 + (f_1179 (((9 * t) + (wd * j1184)) + j1180))) ls H locs (by omega) (by omega) (by omega)  (lv_sub hl [0, 1, 2, 6, 3, 4, 7, 8] rfl) hh
                · refine lv_iload hx hb dX12_kindOf_75 (lv_at hl 1 rfl) ?_
                  refine lv_iconst (v := 1) hx hb dX12_kindOf_77 (by decide) ?_
                  refine lv_icmp_ne (tgt := 85) hx hb dX12_kindOf_78 (by decide) (fun c_1192 => ?_) (fun c_1192 => ?_)
                  · refine lv_iconst (v := 0) hx hb dX12_kindOf_85 (by decide) ?_
                    refine lv_iand hx hb dX12_kindOf_86 ?_
                    refine lv_istore_n (lv' := [(3, .int (sh1184 &&& 0)), (2, .int (ev1184 &&& 0)), (8, .int (f_1179 (((9 * t) + (wd * j1180)) + j1184))), (7, .int (nI j1184)), (6, .int ic1184), (5, .int ir1184), (4, .int (nI j1180)), (0, .ref (ad 0)), (1, .int (nI t))]) hx hb dX12_kindOf_87 rfl hl (by decide) rfl (fun ls hl => ?_)
                    refine lv_iload hx hb dX12_kindOf_88 (lv_at hl 5 rfl) ?_
                    refine lv_iload hx hb dX12_kindOf_90 (lv_at hl 2 rfl) ?_
                    refine lv_iadd hx hb dX12_kindOf_92 ?_
                    refine lv_istore (lv' := [(5, .int (ir1184 + (f_1179 (((9 * t) + (wd * j1180)) + j1184)))), (3, .int (sh1184 &&& 0)), (2, .int (ev1184 &&& 0)), (8, .int (f_1179 (((9 * t) + (wd * j1180)) + j1184))), (7, .int (nI j1184)), (6, .int ic1184), (4, .int (nI j1180)), (0, .ref (ad 0)), (1, .int (nI t))]) hx hb dX12_kindOf_93 hl (by decide) rfl (fun ls hl => ?_)
                    refine lv_iload hx hb dX12_kindOf_95 (lv_at hl 5 rfl) ?_
                    refine lv_aload_n hx hb dX12_kindOf_97 rfl (lv_at hl 7 rfl) ?_
                    refine hp_get hx hb hts ix12 hown hK hh (q := 0) rfl (hI.1 _ (by decide)) es1178 rfl 5 (by decide) (hts _ tw_884) (fun _ h9 => h9) rfl dX12_kindOf_98 ?_
                    refine lv_bipush (v := 9) hx hb dX12_kindOf_101 (by decide) ?_
                    refine lv_iload_n hx hb dX12_kindOf_103 rfl (lv_at hl 8 rfl) ?_
                    refine lv_imul hx hb dX12_kindOf_104 ?_
                    rw [show (9 : Int32) = nI 9 from rfl, pk_mul 9 t]
                    refine lv_aload_n hx hb dX12_kindOf_105 rfl (lv_at hl 7 rfl) ?_
                    refine hp_get hx hb hts ix12 hown hK hh (q := 0) rfl (hI.1 _ (by decide)) es1178 rfl 2 (by decide) (hts _ tw_881) (fun _ h9 => h9) rfl dX12_kindOf_106 ?_
                    refine lv_iload hx hb dX12_kindOf_109 (lv_at hl 4 rfl) ?_
                    refine lv_imul hx hb dX12_kindOf_111 ?_
                    rw [pk_mul wd j1184]
                    refine lv_iadd hx hb dX12_kindOf_112 ?_
                    rw [nI_add (9 * t) (wd * j1184)]
                    refine lv_iload hx hb dX12_kindOf_113 (lv_at hl 6 rfl) ?_
                    refine lv_iadd hx hb dX12_kindOf_115 ?_
                    rw [nI_add ((9 * t) + (wd * j1184)) j1180]
                    have hi_1193 : wd * j1184 + j1180 < 9 := mdr (by omega) (by omega) (by omega)
                    refine hp_iald hx hb hK hh (q := 1) rfl (hI.1 _ (by decide)) es1179 (vp_in_nI (n := (((9 * t) + (wd * j1184)) + j1180)) (by omega) (by decide)) dX12_kindOf_116 ?_
                    rw [nI_clamp (n := (((9 * t) + (wd * j1184)) + j1180)) (by omega)]
                    refine lv_iadd hx hb dX12_kindOf_117 ?_
                    refine lv_istore (lv' := [(6, .int (ic1184 + (f_1179 (((9 * t) + (wd * j1184)) + j1180)))), (5, .int (ir1184 + (f_1179 (((9 * t) + (wd * j1180)) + j1184)))), (3, .int (sh1184 &&& 0)), (2, .int (ev1184 &&& 0)), (8, .int (f_1179 (((9 * t) + (wd * j1180)) + j1184))), (7, .int (nI j1184)), (4, .int (nI j1180)), (0, .ref (ad 0)), (1, .int (nI t))]) hx hb dX12_kindOf_118 hl (by decide) rfl (fun ls hl => ?_)
                    refine lv_iinc (v := (nI (j1184 + 1))) (lv' := [(7, .int (nI (j1184 + 1))), (6, .int (ic1184 + (f_1179 (((9 * t) + (wd * j1184)) + j1180)))), (5, .int (ir1184 + (f_1179 (((9 * t) + (wd * j1180)) + j1184)))), (3, .int (sh1184 &&& 0)), (2, .int (ev1184 &&& 0)), (8, .int (f_1179 (((9 * t) + (wd * j1180)) + j1184))), (4, .int (nI j1180)), (0, .ref (ad 0)), (1, .int (nI t))]) hx hb dX12_kindOf_120 hl (k := 5) rfl (nI_1 _) (by decide) rfl (fun ls hl => ?_)
                    refine lv_goto (tgt := 25) hx hb dX12_kindOf_123 (by decide) ?_
                    exact ih_1184 ((j1184 + 1)) (ev1184 &&& 0) (sh1184 &&& 0) (ir1184 + (f_1179 (((9 * t) + (wd * j1180)) + j1184))) (ic1184 + (f_1179 (((9 * t) + (wd * j1184)) + j1180))) ls H locs (by omega) (by omega) (by omega)  (lv_sub hl [0, 1, 2, 6, 3, 4, 7, 8] rfl) hh
                  · refine lv_iconst (v := 1) hx hb dX12_kindOf_81 (by decide) ?_
                    refine lv_goto (tgt := 86) hx hb dX12_kindOf_82 (by decide) ?_
                    refine lv_iand hx hb dX12_kindOf_86 ?_
                    refine lv_istore_n (lv' := [(3, .int (sh1184 &&& 1)), (2, .int (ev1184 &&& 0)), (8, .int (f_1179 (((9 * t) + (wd * j1180)) + j1184))), (7, .int (nI j1184)), (6, .int ic1184), (5, .int ir1184), (4, .int (nI j1180)), (0, .ref (ad 0)), (1, .int (nI t))]) hx hb dX12_kindOf_87 rfl hl (by decide) rfl (fun ls hl => ?_)
                    refine lv_iload hx hb dX12_kindOf_88 (lv_at hl 5 rfl) ?_
                    refine lv_iload hx hb dX12_kindOf_90 (lv_at hl 2 rfl) ?_
                    refine lv_iadd hx hb dX12_kindOf_92 ?_
                    refine lv_istore (lv' := [(5, .int (ir1184 + (f_1179 (((9 * t) + (wd * j1180)) + j1184)))), (3, .int (sh1184 &&& 1)), (2, .int (ev1184 &&& 0)), (8, .int (f_1179 (((9 * t) + (wd * j1180)) + j1184))), (7, .int (nI j1184)), (6, .int ic1184), (4, .int (nI j1180)), (0, .ref (ad 0)), (1, .int (nI t))]) hx hb dX12_kindOf_93 hl (by decide) rfl (fun ls hl => ?_)
                    refine lv_iload hx hb dX12_kindOf_95 (lv_at hl 5 rfl) ?_
                    refine lv_aload_n hx hb dX12_kindOf_97 rfl (lv_at hl 7 rfl) ?_
                    refine hp_get hx hb hts ix12 hown hK hh (q := 0) rfl (hI.1 _ (by decide)) es1178 rfl 5 (by decide) (hts _ tw_884) (fun _ h9 => h9) rfl dX12_kindOf_98 ?_
                    refine lv_bipush (v := 9) hx hb dX12_kindOf_101 (by decide) ?_
                    refine lv_iload_n hx hb dX12_kindOf_103 rfl (lv_at hl 8 rfl) ?_
                    refine lv_imul hx hb dX12_kindOf_104 ?_
                    rw [show (9 : Int32) = nI 9 from rfl, pk_mul 9 t]
                    refine lv_aload_n hx hb dX12_kindOf_105 rfl (lv_at hl 7 rfl) ?_
                    refine hp_get hx hb hts ix12 hown hK hh (q := 0) rfl (hI.1 _ (by decide)) es1178 rfl 2 (by decide) (hts _ tw_881) (fun _ h9 => h9) rfl dX12_kindOf_106 ?_
                    refine lv_iload hx hb dX12_kindOf_109 (lv_at hl 4 rfl) ?_
                    refine lv_imul hx hb dX12_kindOf_111 ?_
                    rw [pk_mul wd j1184]
                    refine lv_iadd hx hb dX12_kindOf_112 ?_
                    rw [nI_add (9 * t) (wd * j1184)]
                    refine lv_iload hx hb dX12_kindOf_113 (lv_at hl 6 rfl) ?_
                    refine lv_iadd hx hb dX12_kindOf_115 ?_
                    rw [nI_add ((9 * t) + (wd * j1184)) j1180]
                    have hi_1194 : wd * j1184 + j1180 < 9 := mdr (by omega) (by omega) (by omega)
                    refine hp_iald hx hb hK hh (q := 1) rfl (hI.1 _ (by decide)) es1179 (vp_in_nI (n := (((9 * t) + (wd * j1184)) + j1180)) (by omega) (by decide)) dX12_kindOf_116 ?_
                    rw [nI_clamp (n := (((9 * t) + (wd * j1184)) + j1180)) (by omega)]
                    refine lv_iadd hx hb dX12_kindOf_117 ?_
                    refine lv_istore (lv' := [(6, .int (ic1184 + (f_1179 (((9 * t) + (wd * j1184)) + j1180)))), (5, .int (ir1184 + (f_1179 (((9 * t) + (wd * j1180)) + j1184)))), (3, .int (sh1184 &&& 1)), (2, .int (ev1184 &&& 0)), (8, .int (f_1179 (((9 * t) + (wd * j1180)) + j1184))), (7, .int (nI j1184)), (4, .int (nI j1180)), (0, .ref (ad 0)), (1, .int (nI t))]) hx hb dX12_kindOf_118 hl (by decide) rfl (fun ls hl => ?_)
                    refine lv_iinc (v := (nI (j1184 + 1))) (lv' := [(7, .int (nI (j1184 + 1))), (6, .int (ic1184 + (f_1179 (((9 * t) + (wd * j1184)) + j1180)))), (5, .int (ir1184 + (f_1179 (((9 * t) + (wd * j1180)) + j1184)))), (3, .int (sh1184 &&& 1)), (2, .int (ev1184 &&& 0)), (8, .int (f_1179 (((9 * t) + (wd * j1180)) + j1184))), (4, .int (nI j1180)), (0, .ref (ad 0)), (1, .int (nI t))]) hx hb dX12_kindOf_120 hl (k := 5) rfl (nI_1 _) (by decide) rfl (fun ls hl => ?_)
                    refine lv_goto (tgt := 25) hx hb dX12_kindOf_123 (by decide) ?_
                    exact ih_1184 ((j1184 + 1)) (ev1184 &&& 0) (sh1184 &&& 1) (ir1184 + (f_1179 (((9 * t) + (wd * j1180)) + j1184))) (ic1184 + (f_1179 (((9 * t) + (wd * j1184)) + j1180))) ls H locs (by omega) (by omega) (by omega)  (lv_sub hl [0, 1, 2, 6, 3, 4, 7, 8] rfl) hh
              · refine lv_iconst (v := 1) hx hb dX12_kindOf_62 (by decide) ?_
                refine lv_goto (tgt := 67) hx hb dX12_kindOf_63 (by decide) ?_
                refine lv_iand hx hb dX12_kindOf_67 ?_
                refine lv_istore_n (lv' := [(2, .int (ev1184 &&& 1)), (8, .int (f_1179 (((9 * t) + (wd * j1180)) + j1184))), (7, .int (nI j1184)), (6, .int ic1184), (5, .int ir1184), (4, .int (nI j1180)), (3, .int sh1184), (0, .ref (ad 0)), (1, .int (nI t))]) hx hb dX12_kindOf_68 rfl hl (by decide) rfl (fun ls hl => ?_)
                refine lv_iload_n hx hb dX12_kindOf_69 rfl (lv_at hl 6 rfl) ?_
                refine lv_iload hx hb dX12_kindOf_70 (lv_at hl 1 rfl) ?_
                refine lv_if_eq (tgt := 81) hx hb dX12_kindOf_72 (by decide) (fun c_1195 => ?_) (fun c_1195 => ?_)
                · refine lv_iconst (v := 1) hx hb dX12_kindOf_81 (by decide) ?_
                  refine lv_goto (tgt := 86) hx hb dX12_kindOf_82 (by decide) ?_
                  refine lv_iand hx hb dX12_kindOf_86 ?_
                  refine lv_istore_n (lv' := [(3, .int (sh1184 &&& 1)), (2, .int (ev1184 &&& 1)), (8, .int (f_1179 (((9 * t) + (wd * j1180)) + j1184))), (7, .int (nI j1184)), (6, .int ic1184), (5, .int ir1184), (4, .int (nI j1180)), (0, .ref (ad 0)), (1, .int (nI t))]) hx hb dX12_kindOf_87 rfl hl (by decide) rfl (fun ls hl => ?_)
                  refine lv_iload hx hb dX12_kindOf_88 (lv_at hl 5 rfl) ?_
                  refine lv_iload hx hb dX12_kindOf_90 (lv_at hl 2 rfl) ?_
                  refine lv_iadd hx hb dX12_kindOf_92 ?_
                  refine lv_istore (lv' := [(5, .int (ir1184 + (f_1179 (((9 * t) + (wd * j1180)) + j1184)))), (3, .int (sh1184 &&& 1)), (2, .int (ev1184 &&& 1)), (8, .int (f_1179 (((9 * t) + (wd * j1180)) + j1184))), (7, .int (nI j1184)), (6, .int ic1184), (4, .int (nI j1180)), (0, .ref (ad 0)), (1, .int (nI t))]) hx hb dX12_kindOf_93 hl (by decide) rfl (fun ls hl => ?_)
                  refine lv_iload hx hb dX12_kindOf_95 (lv_at hl 5 rfl) ?_
                  refine lv_aload_n hx hb dX12_kindOf_97 rfl (lv_at hl 7 rfl) ?_
                  refine hp_get hx hb hts ix12 hown hK hh (q := 0) rfl (hI.1 _ (by decide)) es1178 rfl 5 (by decide) (hts _ tw_884) (fun _ h9 => h9) rfl dX12_kindOf_98 ?_
                  refine lv_bipush (v := 9) hx hb dX12_kindOf_101 (by decide) ?_
                  refine lv_iload_n hx hb dX12_kindOf_103 rfl (lv_at hl 8 rfl) ?_
                  refine lv_imul hx hb dX12_kindOf_104 ?_
                  rw [show (9 : Int32) = nI 9 from rfl, pk_mul 9 t]
                  refine lv_aload_n hx hb dX12_kindOf_105 rfl (lv_at hl 7 rfl) ?_
                  refine hp_get hx hb hts ix12 hown hK hh (q := 0) rfl (hI.1 _ (by decide)) es1178 rfl 2 (by decide) (hts _ tw_881) (fun _ h9 => h9) rfl dX12_kindOf_106 ?_
                  refine lv_iload hx hb dX12_kindOf_109 (lv_at hl 4 rfl) ?_
                  refine lv_imul hx hb dX12_kindOf_111 ?_
                  rw [pk_mul wd j1184]
                  refine lv_iadd hx hb dX12_kindOf_112 ?_
                  rw [nI_add (9 * t) (wd * j1184)]
                  refine lv_iload hx hb dX12_kindOf_113 (lv_at hl 6 rfl) ?_
                  refine lv_iadd hx hb dX12_kindOf_115 ?_
                  rw [nI_add ((9 * t) + (wd * j1184)) j1180]
                  have hi_1196 : wd * j1184 + j1180 < 9 := mdr (by omega) (by omega) (by omega)
                  refine hp_iald hx hb hK hh (q := 1) rfl (hI.1 _ (by decide)) es1179 (vp_in_nI (n := (((9 * t) + (wd * j1184)) + j1180)) (by omega) (by decide)) dX12_kindOf_116 ?_
                  rw [nI_clamp (n := (((9 * t) + (wd * j1184)) + j1180)) (by omega)]
                  refine lv_iadd hx hb dX12_kindOf_117 ?_
                  refine lv_istore (lv' := [(6, .int (ic1184 + (f_1179 (((9 * t) + (wd * j1184)) + j1180)))), (5, .int (ir1184 + (f_1179 (((9 * t) + (wd * j1180)) + j1184)))), (3, .int (sh1184 &&& 1)), (2, .int (ev1184 &&& 1)), (8, .int (f_1179 (((9 * t) + (wd * j1180)) + j1184))), (7, .int (nI j1184)), (4, .int (nI j1180)), (0, .ref (ad 0)), (1, .int (nI t))]) hx hb dX12_kindOf_118 hl (by decide) rfl (fun ls hl => ?_)
                  refine lv_iinc (v := (nI (j1184 + 1))) (lv' := [(7, .int (nI (j1184 + 1))), (6, .int (ic1184 + (f_1179 (((9 * t) + (wd * j1184)) + j1180)))), (5, .int (ir1184 + (f_1179 (((9 * t) + (wd * j1180)) + j1184)))), (3, .int (sh1184 &&& 1)), (2, .int (ev1184 &&& 1)), (8, .int (f_1179 (((9 * t) + (wd * j1180)) + j1184))), (4, .int (nI j1180)), (0, .ref (ad 0)), (1, .int (nI t))]) hx hb dX12_kindOf_120 hl (k := 5) rfl (nI_1 _) (by decide) rfl (fun ls hl => ?_)
                  refine lv_goto (tgt := 25) hx hb dX12_kindOf_123 (by decide) ?_
                  exact ih_1184 ((j1184 + 1)) (ev1184 &&& 1) (sh1184 &&& 1) (ir1184 + (f_1179 (((9 * t) + (wd * j1180)) + j1184))) (ic1184 + (f_1179 (((9 * t) + (wd * j1184)) + j1180))) ls H locs (by omega) (by omega) (by omega)  (lv_sub hl [0, 1, 2, 6, 3, 4, 7, 8] rfl) hh
                · refine lv_iload hx hb dX12_kindOf_75 (lv_at hl 1 rfl) ?_
                  refine lv_iconst (v := 1) hx hb dX12_kindOf_77 (by decide) ?_
                  refine lv_icmp_ne (tgt := 85) hx hb dX12_kindOf_78 (by decide) (fun c_1197 => ?_) (fun c_1197 => ?_)
                  · refine lv_iconst (v := 0) hx hb dX12_kindOf_85 (by decide) ?_
                    refine lv_iand hx hb dX12_kindOf_86 ?_
                    refine lv_istore_n (lv' := [(3, .int (sh1184 &&& 0)), (2, .int (ev1184 &&& 1)), (8, .int (f_1179 (((9 * t) + (wd * j1180)) + j1184))), (7, .int (nI j1184)), (6, .int ic1184), (5, .int ir1184), (4, .int (nI j1180)), (0, .ref (ad 0)), (1, .int (nI t))]) hx hb dX12_kindOf_87 rfl hl (by decide) rfl (fun ls hl => ?_)
                    refine lv_iload hx hb dX12_kindOf_88 (lv_at hl 5 rfl) ?_
                    refine lv_iload hx hb dX12_kindOf_90 (lv_at hl 2 rfl) ?_
                    refine lv_iadd hx hb dX12_kindOf_92 ?_
                    refine lv_istore (lv' := [(5, .int (ir1184 + (f_1179 (((9 * t) + (wd * j1180)) + j1184)))), (3, .int (sh1184 &&& 0)), (2, .int (ev1184 &&& 1)), (8, .int (f_1179 (((9 * t) + (wd * j1180)) + j1184))), (7, .int (nI j1184)), (6, .int ic1184), (4, .int (nI j1180)), (0, .ref (ad 0)), (1, .int (nI t))]) hx hb dX12_kindOf_93 hl (by decide) rfl (fun ls hl => ?_)
                    refine lv_iload hx hb dX12_kindOf_95 (lv_at hl 5 rfl) ?_
                    refine lv_aload_n hx hb dX12_kindOf_97 rfl (lv_at hl 7 rfl) ?_
                    refine hp_get hx hb hts ix12 hown hK hh (q := 0) rfl (hI.1 _ (by decide)) es1178 rfl 5 (by decide) (hts _ tw_884) (fun _ h9 => h9) rfl dX12_kindOf_98 ?_
                    refine lv_bipush (v := 9) hx hb dX12_kindOf_101 (by decide) ?_
                    refine lv_iload_n hx hb dX12_kindOf_103 rfl (lv_at hl 8 rfl) ?_
                    refine lv_imul hx hb dX12_kindOf_104 ?_
                    rw [show (9 : Int32) = nI 9 from rfl, pk_mul 9 t]
                    refine lv_aload_n hx hb dX12_kindOf_105 rfl (lv_at hl 7 rfl) ?_
                    refine hp_get hx hb hts ix12 hown hK hh (q := 0) rfl (hI.1 _ (by decide)) es1178 rfl 2 (by decide) (hts _ tw_881) (fun _ h9 => h9) rfl dX12_kindOf_106 ?_
                    refine lv_iload hx hb dX12_kindOf_109 (lv_at hl 4 rfl) ?_
                    refine lv_imul hx hb dX12_kindOf_111 ?_
                    rw [pk_mul wd j1184]
                    refine lv_iadd hx hb dX12_kindOf_112 ?_
                    rw [nI_add (9 * t) (wd * j1184)]
                    refine lv_iload hx hb dX12_kindOf_113 (lv_at hl 6 rfl) ?_
                    refine lv_iadd hx hb dX12_kindOf_115 ?_
                    rw [nI_add ((9 * t) + (wd * j1184)) j1180]
                    have hi_1198 : wd * j1184 + j1180 < 9 := mdr (by omega) (by omega) (by omega)
                    refine hp_iald hx hb hK hh (q := 1) rfl (hI.1 _ (by decide)) es1179 (vp_in_nI (n := (((9 * t) + (wd * j1184)) + j1180)) (by omega) (by decide)) dX12_kindOf_116 ?_
                    rw [nI_clamp (n := (((9 * t) + (wd * j1184)) + j1180)) (by omega)]
                    refine lv_iadd hx hb dX12_kindOf_117 ?_
                    refine lv_istore (lv' := [(6, .int (ic1184 + (f_1179 (((9 * t) + (wd * j1184)) + j1180)))), (5, .int (ir1184 + (f_1179 (((9 * t) + (wd * j1180)) + j1184)))), (3, .int (sh1184 &&& 0)), (2, .int (ev1184 &&& 1)), (8, .int (f_1179 (((9 * t) + (wd * j1180)) + j1184))), (7, .int (nI j1184)), (4, .int (nI j1180)), (0, .ref (ad 0)), (1, .int (nI t))]) hx hb dX12_kindOf_118 hl (by decide) rfl (fun ls hl => ?_)
                    refine lv_iinc (v := (nI (j1184 + 1))) (lv' := [(7, .int (nI (j1184 + 1))), (6, .int (ic1184 + (f_1179 (((9 * t) + (wd * j1184)) + j1180)))), (5, .int (ir1184 + (f_1179 (((9 * t) + (wd * j1180)) + j1184)))), (3, .int (sh1184 &&& 0)), (2, .int (ev1184 &&& 1)), (8, .int (f_1179 (((9 * t) + (wd * j1180)) + j1184))), (4, .int (nI j1180)), (0, .ref (ad 0)), (1, .int (nI t))]) hx hb dX12_kindOf_120 hl (k := 5) rfl (nI_1 _) (by decide) rfl (fun ls hl => ?_)
                    refine lv_goto (tgt := 25) hx hb dX12_kindOf_123 (by decide) ?_
                    exact ih_1184 ((j1184 + 1)) (ev1184 &&& 1) (sh1184 &&& 0) (ir1184 + (f_1179 (((9 * t) + (wd * j1180)) + j1184))) (ic1184 + (f_1179 (((9 * t) + (wd * j1184)) + j1180))) ls H locs (by omega) (by omega) (by omega)  (lv_sub hl [0, 1, 2, 6, 3, 4, 7, 8] rfl) hh
                  · refine lv_iconst (v := 1) hx hb dX12_kindOf_81 (by decide) ?_
                    refine lv_goto (tgt := 86) hx hb dX12_kindOf_82 (by decide) ?_
                    refine lv_iand hx hb dX12_kindOf_86 ?_
                    refine lv_istore_n (lv' := [(3, .int (sh1184 &&& 1)), (2, .int (ev1184 &&& 1)), (8, .int (f_1179 (((9 * t) + (wd * j1180)) + j1184))), (7, .int (nI j1184)), (6, .int ic1184), (5, .int ir1184), (4, .int (nI j1180)), (0, .ref (ad 0)), (1, .int (nI t))]) hx hb dX12_kindOf_87 rfl hl (by decide) rfl (fun ls hl => ?_)
                    refine lv_iload hx hb dX12_kindOf_88 (lv_at hl 5 rfl) ?_
                    refine lv_iload hx hb dX12_kindOf_90 (lv_at hl 2 rfl) ?_
                    refine lv_iadd hx hb dX12_kindOf_92 ?_
                    refine lv_istore (lv' := [(5, .int (ir1184 + (f_1179 (((9 * t) + (wd * j1180)) + j1184)))), (3, .int (sh1184 &&& 1)), (2, .int (ev1184 &&& 1)), (8, .int (f_1179 (((9 * t) + (wd * j1180)) + j1184))), (7, .int (nI j1184)), (6, .int ic1184), (4, .int (nI j1180)), (0, .ref (ad 0)), (1, .int (nI t))]) hx hb dX12_kindOf_93 hl (by decide) rfl (fun ls hl => ?_)
                    refine lv_iload hx hb dX12_kindOf_95 (lv_at hl 5 rfl) ?_
                    refine lv_aload_n hx hb dX12_kindOf_97 rfl (lv_at hl 7 rfl) ?_
                    refine hp_get hx hb hts ix12 hown hK hh (q := 0) rfl (hI.1 _ (by decide)) es1178 rfl 5 (by decide) (hts _ tw_884) (fun _ h9 => h9) rfl dX12_kindOf_98 ?_
                    refine lv_bipush (v := 9) hx hb dX12_kindOf_101 (by decide) ?_
                    refine lv_iload_n hx hb dX12_kindOf_103 rfl (lv_at hl 8 rfl) ?_
                    refine lv_imul hx hb dX12_kindOf_104 ?_
                    rw [show (9 : Int32) = nI 9 from rfl, pk_mul 9 t]
                    refine lv_aload_n hx hb dX12_kindOf_105 rfl (lv_at hl 7 rfl) ?_
                    refine hp_get hx hb hts ix12 hown hK hh (q := 0) rfl (hI.1 _ (by decide)) es1178 rfl 2 (by decide) (hts _ tw_881) (fun _ h9 => h9) rfl dX12_kindOf_106 ?_
                    refine lv_iload hx hb dX12_kindOf_109 (lv_at hl 4 rfl) ?_
                    refine lv_imul hx hb dX12_kindOf_111 ?_
                    rw [pk_mul wd j1184]
                    refine lv_iadd hx hb dX12_kindOf_112 ?_
                    rw [nI_add (9 * t) (wd * j1184)]
                    refine lv_iload hx hb dX12_kindOf_113 (lv_at hl 6 rfl) ?_
                    refine lv_iadd hx hb dX12_kindOf_115 ?_
                    rw [nI_add ((9 * t) + (wd * j1184)) j1180]
                    have hi_1199 : wd * j1184 + j1180 < 9 := mdr (by omega) (by omega) (by omega)
                    refine hp_iald hx hb hK hh (q := 1) rfl (hI.1 _ (by decide)) es1179 (vp_in_nI (n := (((9 * t) + (wd * j1184)) + j1180)) (by omega) (by decide)) dX12_kindOf_116 ?_
                    rw [nI_clamp (n := (((9 * t) + (wd * j1184)) + j1180)) (by omega)]
                    refine lv_iadd hx hb dX12_kindOf_117 ?_
                    refine lv_istore (lv' := [(6, .int (ic1184 + (f_1179 (((9 * t) + (wd * j1184)) + j1180)))), (5, .int (ir1184 + (f_1179 (((9 * t) + (wd * j1180)) + j1184)))), (3, .int (sh1184 &&& 1)), (2, .int (ev1184 &&& 1)), (8, .int (f_1179 (((9 * t) + (wd * j1180)) + j1184))), (7, .int (nI j1184)), (4, .int (nI j1180)), (0, .ref (ad 0)), (1, .int (nI t))]) hx hb dX12_kindOf_118 hl (by decide) rfl (fun ls hl => ?_)
                    refine lv_iinc (v := (nI (j1184 + 1))) (lv' := [(7, .int (nI (j1184 + 1))), (6, .int (ic1184 + (f_1179 (((9 * t) + (wd * j1184)) + j1180)))), (5, .int (ir1184 + (f_1179 (((9 * t) + (wd * j1180)) + j1184)))), (3, .int (sh1184 &&& 1)), (2, .int (ev1184 &&& 1)), (8, .int (f_1179 (((9 * t) + (wd * j1180)) + j1184))), (4, .int (nI j1180)), (0, .ref (ad 0)), (1, .int (nI t))]) hx hb dX12_kindOf_120 hl (k := 5) rfl (nI_1 _) (by decide) rfl (fun ls hl => ?_)
                    refine lv_goto (tgt := 25) hx hb dX12_kindOf_123 (by decide) ?_
                    exact ih_1184 ((j1184 + 1)) (ev1184 &&& 1) (sh1184 &&& 1) (ir1184 + (f_1179 (((9 * t) + (wd * j1180)) + j1184))) (ic1184 + (f_1179 (((9 * t) + (wd * j1184)) + j1180))) ls H locs (by omega) (by omega) (by omega)  (lv_sub hl [0, 1, 2, 6, 3, 4, 7, 8] rfl) hh
        exact loop_1184 (wd + 1) 0 ev1180 sh1180 0 0 ls _ _ (Nat.le_refl _) (by omega) (by omega)  (lv_sub hl [0, 1, 2, 3, 4, 5, 6, 7] rfl) hh
  exact loop_1180 (wd + 1) 0 1 1 ls _ _ (Nat.le_refl _) (by omega) (by omega)  (lv_sub hl [0, 1, 2, 3, 4] rfl) hh
theorem kw_X12_kindOf {R : Room} {s : State} {args : Array Value} {own : String} {idx : Nat} (hts : ∀ w ∈ TB, w.before args s = true) (hl : Cond.methodLink own idx yX12_kindOf ∈ TB) (hR : 0 + 1 ≤ R.frames ∧ 8 + (9 + 11) + 40 * 0 ≤ R.locals) : CallW R s args own RX12 idx yX12_kindOf cX12_kindOf 9 (some .int) (Cond.code yX12_kindOf cX12_kindOf 9 (some .int) :: TB) (rmN 0) 0 0 1 := cwV 1 hts (TB_V hl tw_1225 ts_61 tw_9 tw_1226) rfl rfl rfl (by decide +kernel) hR
set_option maxHeartbeats 4000000 in
set_option maxRecDepth 100000 in
/-- trackOf -/
theorem c_X12_trackOf (l : Launch) (D : va_G) (cy : Nat → ClassId) (sz : Nat) (cs : List Nat) (ad : Nat → Nat) (en : Nat → va_E) (hI : RX cy cs ad en) (t : Nat) (ht6 : t < 6)   : Met l yX12_trackOf (Cond.code yX12_trackOf cX12_trackOf 4 (some .int) :: TB) (rmN 0) (va_Pc [.ref (ad 0), .int (nI t)] (Pre D cy cs ad en sz)) (va_Qi (S := Unit) (fun _ _ => True) (fun _ _ => True) (Nf sz)) 0 0 (Nf sz) := by
  refine Met.ofW (cc := cX12_trackOf) (maxL := 4) (ret := (some .int)) (by decide) rfl ?_
  intro p e s m args below meth c s₁ B hml hv
  obtain ⟨rfl, hsz, hP, hK, hD0⟩ := hv
  have hx := B.exec
  have hb := B.bytes
  have hr := B.returns
  have hts : ∀ w ∈ TB, w.before _ s = true := fun w h => atoms_spec (ws := _ :: TB) B.pre w (List.mem_cons_of_mem _ h)
  have hown : s.vm.findClass RX12 = some m.cls := findClass_of_methodNamed B.named
  have hlocks := B.notSynchronized
  have hh : Hp D (Nf sz) (fun _ => True) s.heap s.heap [] cs ad en := ⟨hP, hD0, va_S.rf⟩
  have hA : ∀ q : Nat, s.heap.size ≤ q → Nf sz q := fun q h => by rw [hsz] at h; exact h
  have hl := lv_entry ([.ref (ad 0), .int (nI t)]) (n := 4) (Nat.le_of_ble_eq_true rfl)
  rw [lg_entry_eq]
  generalize (lg_sl ([.ref (ad 0), .int (nI t)]) ++ List.replicate (4 - (lg_sl ([.ref (ad 0), .int (nI t)])).length) Slot.unset).toArray = ls at hl ⊢
  have hl : lv_has ls 4 [(0, .ref (ad 0)), (1, .int (nI t))] := hl
  obtain ⟨fa, hi, wd, mo, tb, dp, many, grt, lst, nou, rm, rb, pr, wo, es1200, hwd2, hwd3, hmo, htb, hwo⟩ := getr_M hI
  obtain ⟨f_1201, es1201⟩ := getr_E hI
  refine lv_iconst (v := 0) hx hb dX12_trackOf_0 (by decide) ?_
  refine lv_istore_n (lv' := [(2, .int 0), (0, .ref (ad 0)), (1, .int (nI t))]) hx hb dX12_trackOf_1 rfl hl (by decide) rfl (fun ls hl => ?_)
  refine lv_iconst (v := 0) hx hb dX12_trackOf_2 (by decide) ?_
  refine lv_istore_n (lv' := [(3, .int 0), (2, .int 0), (0, .ref (ad 0)), (1, .int (nI t))]) hx hb dX12_trackOf_3 rfl hl (by decide) rfl (fun ls hl => ?_)
  have loop_1202 : ∀ (fu j1202 : Nat) (ac1202 : Int32)  (ls : Array Slot) (H : Heap) (locs : List Loc), 0 ≤ j1202 → j1202 ≤ wd → wd < j1202 + fu →   lv_has ls 4 [(3, .int (nI j1202)), (2, .int ac1202), (0, .ref (ad 0)), (1, .int (nI t))] → Hp D (Nf sz) (fun _ => True) s.heap H locs cs ad en → W p l e (headSpec (Cond.code yX12_trackOf cX12_trackOf 4 (some .int) :: TB) (rmN 0)).room s m ([.ref (ad 0), .int (nI t)] : List Value).toArray below meth c H locs 0 0 (MQ below (va_Qi (S := Unit) (fun _ _ => True) (fun _ _ => True) (Nf sz)) ([.ref (ad 0), .int (nI t)] : List Value).toArray s 0 0 (Nf sz)) (F0 m 4 ls []) := by
    intro fu
    induction fu with
    | zero => intro j1202 ac1202 ls H locs h0 h1 h2; exact absurd h2 (by omega)
    | succ fu ih_1202 =>
      intro j1202 ac1202 ls H locs hj0_1202 hj_1202 hfu_1202  hl hh
      refine lv_iload_n hx hb dX12_trackOf_4 rfl (lv_at hl 0 rfl) ?_
      refine lv_aload_n hx hb dX12_trackOf_5 rfl (lv_at hl 2 rfl) ?_
      refine hp_get hx hb hts ix12 hown hK hh (q := 0) rfl (hI.1 _ (by decide)) es1200 rfl 2 (by decide) (hts _ tw_881) (fun _ h9 => h9) rfl dX12_trackOf_6 ?_
      refine lv_icmp_ge (tgt := 39) hx hb dX12_trackOf_9 (by decide) (fun c_1203 => ?_) (fun c_1203 => ?_)
      · have n_1203 : wd ≤ j1202 := n_le (a := wd) (b := j1202) c_1203 (by omega) (by omega)
        refine lv_iload_n hx hb dX12_trackOf_39 rfl (lv_at hl 1 rfl) ?_
        exact hp_iretR hx hb hr rfl hlocks hsz hh (trivial) dX12_trackOf_40
      · have n_1203 : j1202 < wd := n_nle (a := wd) (b := j1202) c_1203 (by omega) (by omega)
        refine lv_iload_n hx hb dX12_trackOf_12 rfl (lv_at hl 1 rfl) ?_
        refine lv_aload_n hx hb dX12_trackOf_13 rfl (lv_at hl 2 rfl) ?_
        refine hp_get hx hb hts ix12 hown hK hh (q := 0) rfl (hI.1 _ (by decide)) es1200 rfl 5 (by decide) (hts _ tw_884) (fun _ h9 => h9) rfl dX12_trackOf_14 ?_
        refine lv_bipush (v := 9) hx hb dX12_trackOf_17 (by decide) ?_
        refine lv_iload_n hx hb dX12_trackOf_19 rfl (lv_at hl 3 rfl) ?_
        refine lv_imul hx hb dX12_trackOf_20 ?_
        rw [show (9 : Int32) = nI 9 from rfl, pk_mul 9 t]
        refine lv_aload_n hx hb dX12_trackOf_21 rfl (lv_at hl 2 rfl) ?_
        refine hp_get hx hb hts ix12 hown hK hh (q := 0) rfl (hI.1 _ (by decide)) es1200 rfl 2 (by decide) (hts _ tw_881) (fun _ h9 => h9) rfl dX12_trackOf_22 ?_
        refine lv_iload_n hx hb dX12_trackOf_25 rfl (lv_at hl 0 rfl) ?_
        refine lv_imul hx hb dX12_trackOf_26 ?_
        rw [pk_mul wd j1202]
        refine lv_iadd hx hb dX12_trackOf_27 ?_
        rw [nI_add (9 * t) (wd * j1202)]
        refine lv_iload_n hx hb dX12_trackOf_28 rfl (lv_at hl 0 rfl) ?_
        refine lv_iadd hx hb dX12_trackOf_29 ?_
        rw [nI_add ((9 * t) + (wd * j1202)) j1202]
        have hi_1204 : wd * j1202 + j1202 < 9 := mdr (by omega) (by omega) (by omega)
        refine hp_iald hx hb hK hh (q := 1) rfl (hI.1 _ (by decide)) es1201 (vp_in_nI (n := (((9 * t) + (wd * j1202)) + j1202)) (by omega) (by decide)) dX12_trackOf_30 ?_
        rw [nI_clamp (n := (((9 * t) + (wd * j1202)) + j1202)) (by omega)]
        refine lv_iadd hx hb dX12_trackOf_31 ?_
        refine lv_istore_n (lv' := [(2, .int (ac1202 + (f_1201 (((9 * t) + (wd * j1202)) + j1202)))), (3, .int (nI j1202)), (0, .ref (ad 0)), (1, .int (nI t))]) hx hb dX12_trackOf_32 rfl hl (by decide) rfl (fun ls hl => ?_)
        refine lv_iinc (v := (nI (j1202 + 1))) (lv' := [(3, .int (nI (j1202 + 1))), (2, .int (ac1202 + (f_1201 (((9 * t) + (wd * j1202)) + j1202)))), (0, .ref (ad 0)), (1, .int (nI t))]) hx hb dX12_trackOf_33 hl (k := 1) rfl (nI_1 _) (by decide) rfl (fun ls hl => ?_)
        refine lv_goto (tgt := 4) hx hb dX12_trackOf_36 (by decide) ?_
        exact ih_1202 ((j1202 + 1)) (ac1202 + (f_1201 (((9 * t) + (wd * j1202)) + j1202))) ls H locs (by omega) (by omega) (by omega)  (lv_sub hl [0, 1, 2, 3] rfl) hh
  exact loop_1202 (wd + 1) 0 0 ls _ _ (Nat.le_refl _) (by omega) (by omega)  (lv_sub hl [0, 1, 2, 3] rfl) hh
theorem kw_X12_trackOf {R : Room} {s : State} {args : Array Value} {own : String} {idx : Nat} (hts : ∀ w ∈ TB, w.before args s = true) (hl : Cond.methodLink own idx yX12_trackOf ∈ TB) (hR : 0 + 1 ≤ R.frames ∧ 8 + (4 + 11) + 40 * 0 ≤ R.locals) : CallW R s args own RX12 idx yX12_trackOf cX12_trackOf 4 (some .int) (Cond.code yX12_trackOf cX12_trackOf 4 (some .int) :: TB) (rmN 0) 0 0 1 := cwV 1 hts (TB_V hl tw_1233 ts_63 tw_9 tw_1234) rfl rfl rfl (by decide +kernel) hR
set_option maxHeartbeats 4000000 in
set_option maxRecDepth 100000 in
/-- greatestOf -/
theorem c_X12_greatestOf (l : Launch) (D : va_G) (cy : Nat → ClassId) (sz : Nat) (cs : List Nat) (ad : Nat → Nat) (en : Nat → va_E) (hI : RX cy cs ad en) (t : Nat) (ht6 : t < 6)   : Met l yX12_greatestOf (Cond.code yX12_greatestOf cX12_greatestOf 4 (some .int) :: TB) (rmN 0) (va_Pc [.ref (ad 0), .int (nI t)] (Pre D cy cs ad en sz)) (va_Qi (S := Unit) (fun _ _ => True) (fun _ _ => True) (Nf sz)) 0 0 (Nf sz) := by
  refine Met.ofW (cc := cX12_greatestOf) (maxL := 4) (ret := (some .int)) (by decide) rfl ?_
  intro p e s m args below meth c s₁ B hml hv
  obtain ⟨rfl, hsz, hP, hK, hD0⟩ := hv
  have hx := B.exec
  have hb := B.bytes
  have hr := B.returns
  have hts : ∀ w ∈ TB, w.before _ s = true := fun w h => atoms_spec (ws := _ :: TB) B.pre w (List.mem_cons_of_mem _ h)
  have hown : s.vm.findClass RX12 = some m.cls := findClass_of_methodNamed B.named
  have hlocks := B.notSynchronized
  have hh : Hp D (Nf sz) (fun _ => True) s.heap s.heap [] cs ad en := ⟨hP, hD0, va_S.rf⟩
  have hA : ∀ q : Nat, s.heap.size ≤ q → Nf sz q := fun q h => by rw [hsz] at h; exact h
  have hl := lv_entry ([.ref (ad 0), .int (nI t)]) (n := 4) (Nat.le_of_ble_eq_true rfl)
  rw [lg_entry_eq]
  generalize (lg_sl ([.ref (ad 0), .int (nI t)]) ++ List.replicate (4 - (lg_sl ([.ref (ad 0), .int (nI t)])).length) Slot.unset).toArray = ls at hl ⊢
  have hl : lv_has ls 4 [(0, .ref (ad 0)), (1, .int (nI t))] := hl
  obtain ⟨fa, hi, wd, mo, tb, dp, many, grt, lst, nou, rm, rb, pr, wo, es1205, hwd2, hwd3, hmo, htb, hwo⟩ := getr_M hI
  obtain ⟨f_1206, es1206⟩ := getr_E hI
  have hww : wd * wd ≤ 9 := mww (by omega)
  refine lv_aload_n hx hb dX12_greatestOf_0 rfl (lv_at hl 0 rfl) ?_
  refine hp_get hx hb hts ix12 hown hK hh (q := 0) rfl (hI.1 _ (by decide)) es1205 rfl 5 (by decide) (hts _ tw_884) (fun _ h9 => h9) rfl dX12_greatestOf_1 ?_
  refine lv_bipush (v := 9) hx hb dX12_greatestOf_4 (by decide) ?_
  refine lv_iload_n hx hb dX12_greatestOf_6 rfl (lv_at hl 1 rfl) ?_
  refine lv_imul hx hb dX12_greatestOf_7 ?_
  rw [show (9 : Int32) = nI 9 from rfl, pk_mul 9 t]
  refine hp_iald hx hb hK hh (q := 1) rfl (hI.1 _ (by decide)) es1206 (vp_in_nI (n := (9 * t)) (by omega) (by decide)) dX12_greatestOf_8 ?_
  rw [nI_clamp (n := (9 * t)) (by omega)]
  refine lv_istore_n (lv' := [(2, .int (f_1206 (9 * t))), (0, .ref (ad 0)), (1, .int (nI t))]) hx hb dX12_greatestOf_9 rfl hl (by decide) rfl (fun ls hl => ?_)
  refine lv_iconst (v := 0) hx hb dX12_greatestOf_10 (by decide) ?_
  refine lv_istore_n (lv' := [(3, .int 0), (2, .int (f_1206 (9 * t))), (0, .ref (ad 0)), (1, .int (nI t))]) hx hb dX12_greatestOf_11 rfl hl (by decide) rfl (fun ls hl => ?_)
  have loop_1207 : ∀ (fu j1207 : Nat) (mx1207 : Int32)  (ls : Array Slot) (H : Heap) (locs : List Loc), 0 ≤ j1207 → j1207 ≤ (wd * wd) → (wd * wd) < j1207 + fu →   lv_has ls 4 [(3, .int (nI j1207)), (2, .int mx1207), (0, .ref (ad 0)), (1, .int (nI t))] → Hp D (Nf sz) (fun _ => True) s.heap H locs cs ad en → W p l e (headSpec (Cond.code yX12_greatestOf cX12_greatestOf 4 (some .int) :: TB) (rmN 0)).room s m ([.ref (ad 0), .int (nI t)] : List Value).toArray below meth c H locs 0 0 (MQ below (va_Qi (S := Unit) (fun _ _ => True) (fun _ _ => True) (Nf sz)) ([.ref (ad 0), .int (nI t)] : List Value).toArray s 0 0 (Nf sz)) (F0 m 12 ls []) := by
    intro fu
    induction fu with
    | zero => intro j1207 mx1207 ls H locs h0 h1 h2; exact absurd h2 (by omega)
    | succ fu ih_1207 =>
      intro j1207 mx1207 ls H locs hj0_1207 hj_1207 hfu_1207  hl hh
      refine lv_iload_n hx hb dX12_greatestOf_12 rfl (lv_at hl 0 rfl) ?_
      refine lv_aload_n hx hb dX12_greatestOf_13 rfl (lv_at hl 2 rfl) ?_
      refine hp_get hx hb hts ix12 hown hK hh (q := 0) rfl (hI.1 _ (by decide)) es1205 rfl 2 (by decide) (hts _ tw_881) (fun _ h9 => h9) rfl dX12_greatestOf_14 ?_
      refine lv_aload_n hx hb dX12_greatestOf_17 rfl (lv_at hl 2 rfl) ?_
      refine hp_get hx hb hts ix12 hown hK hh (q := 0) rfl (hI.1 _ (by decide)) es1205 rfl 2 (by decide) (hts _ tw_881) (fun _ h9 => h9) rfl dX12_greatestOf_18 ?_
      refine lv_imul hx hb dX12_greatestOf_21 ?_
      rw [pk_mul wd wd]
      have hw2_1208 : wd * wd ≤ 9 := mww (by omega)
      refine lv_icmp_ge (tgt := 62) hx hb dX12_greatestOf_22 (by decide) (fun c_1209 => ?_) (fun c_1209 => ?_)
      · have n_1209 : (wd * wd) ≤ j1207 := n_le (a := (wd * wd)) (b := j1207) c_1209 (by omega) (by omega)
        refine lv_iload_n hx hb dX12_greatestOf_62 rfl (lv_at hl 1 rfl) ?_
        exact hp_iretR hx hb hr rfl hlocks hsz hh (trivial) dX12_greatestOf_63
      · have n_1209 : j1207 < (wd * wd) := n_nle (a := (wd * wd)) (b := j1207) c_1209 (by omega) (by omega)
        refine lv_aload_n hx hb dX12_greatestOf_25 rfl (lv_at hl 2 rfl) ?_
        refine hp_get hx hb hts ix12 hown hK hh (q := 0) rfl (hI.1 _ (by decide)) es1205 rfl 5 (by decide) (hts _ tw_884) (fun _ h9 => h9) rfl dX12_greatestOf_26 ?_
        refine lv_bipush (v := 9) hx hb dX12_greatestOf_29 (by decide) ?_
        refine lv_iload_n hx hb dX12_greatestOf_31 rfl (lv_at hl 3 rfl) ?_
        refine lv_imul hx hb dX12_greatestOf_32 ?_
        rw [show (9 : Int32) = nI 9 from rfl, pk_mul 9 t]
        refine lv_iload_n hx hb dX12_greatestOf_33 rfl (lv_at hl 0 rfl) ?_
        refine lv_iadd hx hb dX12_greatestOf_34 ?_
        rw [nI_add (9 * t) j1207]
        refine hp_iald hx hb hK hh (q := 1) rfl (hI.1 _ (by decide)) es1206 (vp_in_nI (n := ((9 * t) + j1207)) (by omega) (by decide)) dX12_greatestOf_35 ?_
        rw [nI_clamp (n := ((9 * t) + j1207)) (by omega)]
        refine lv_iload_n hx hb dX12_greatestOf_36 rfl (lv_at hl 1 rfl) ?_
        refine lv_icmp_le (tgt := 54) hx hb dX12_greatestOf_37 (by decide) (fun c_1210 => ?_) (fun c_1210 => ?_)
        · refine lv_iload_n hx hb dX12_greatestOf_54 rfl (lv_at hl 1 rfl) ?_
          refine lv_istore_n (lv' := [(2, .int mx1207), (3, .int (nI j1207)), (0, .ref (ad 0)), (1, .int (nI t))]) hx hb dX12_greatestOf_55 rfl hl (by decide) rfl (fun ls hl => ?_)
          refine lv_iinc (v := (nI (j1207 + 1))) (lv' := [(3, .int (nI (j1207 + 1))), (2, .int mx1207), (0, .ref (ad 0)), (1, .int (nI t))]) hx hb dX12_greatestOf_56 hl (k := 1) rfl (nI_1 _) (by decide) rfl (fun ls hl => ?_)
          refine lv_goto (tgt := 12) hx hb dX12_greatestOf_59 (by decide) ?_
          exact ih_1207 ((j1207 + 1)) mx1207 ls H locs (by omega) (by omega) (by omega)  (lv_sub hl [0, 1, 2, 3] rfl) hh
        · refine lv_aload_n hx hb dX12_greatestOf_40 rfl (lv_at hl 2 rfl) ?_
          refine hp_get hx hb hts ix12 hown hK hh (q := 0) rfl (hI.1 _ (by decide)) es1205 rfl 5 (by decide) (hts _ tw_884) (fun _ h9 => h9) rfl dX12_greatestOf_41 ?_
          refine lv_bipush (v := 9) hx hb dX12_greatestOf_44 (by decide) ?_
          refine lv_iload_n hx hb dX12_greatestOf_46 rfl (lv_at hl 3 rfl) ?_
          refine lv_imul hx hb dX12_greatestOf_47 ?_
          rw [show (9 : Int32) = nI 9 from rfl, pk_mul 9 t]
          refine lv_iload_n hx hb dX12_greatestOf_48 rfl (lv_at hl 0 rfl) ?_
          refine lv_iadd hx hb dX12_greatestOf_49 ?_
          rw [nI_add (9 * t) j1207]
          refine hp_iald hx hb hK hh (q := 1) rfl (hI.1 _ (by decide)) es1206 (vp_in_nI (n := ((9 * t) + j1207)) (by omega) (by decide)) dX12_greatestOf_50 ?_
          rw [nI_clamp (n := ((9 * t) + j1207)) (by omega)]
          refine lv_goto (tgt := 55) hx hb dX12_greatestOf_51 (by decide) ?_
          refine lv_istore_n (lv' := [(2, .int (f_1206 ((9 * t) + j1207))), (3, .int (nI j1207)), (0, .ref (ad 0)), (1, .int (nI t))]) hx hb dX12_greatestOf_55 rfl hl (by decide) rfl (fun ls hl => ?_)
          refine lv_iinc (v := (nI (j1207 + 1))) (lv' := [(3, .int (nI (j1207 + 1))), (2, .int (f_1206 ((9 * t) + j1207))), (0, .ref (ad 0)), (1, .int (nI t))]) hx hb dX12_greatestOf_56 hl (k := 1) rfl (nI_1 _) (by decide) rfl (fun ls hl => ?_)
          refine lv_goto (tgt := 12) hx hb dX12_greatestOf_59 (by decide) ?_
          exact ih_1207 ((j1207 + 1)) (f_1206 ((9 * t) + j1207)) ls H locs (by omega) (by omega) (by omega)  (lv_sub hl [0, 1, 2, 3] rfl) hh
  exact loop_1207 ((wd * wd) + 1) 0 (f_1206 (9 * t)) ls _ _ (Nat.le_refl _) (by omega) (by omega)  (lv_sub hl [0, 1, 2, 3] rfl) hh
theorem kw_X12_greatestOf {R : Room} {s : State} {args : Array Value} {own : String} {idx : Nat} (hts : ∀ w ∈ TB, w.before args s = true) (hl : Cond.methodLink own idx yX12_greatestOf ∈ TB) (hR : 0 + 1 ≤ R.frames ∧ 8 + (4 + 11) + 40 * 0 ≤ R.locals) : CallW R s args own RX12 idx yX12_greatestOf cX12_greatestOf 4 (some .int) (Cond.code yX12_greatestOf cX12_greatestOf 4 (some .int) :: TB) (rmN 0) 0 0 1 := cwV 1 hts (TB_V hl tw_1237 ts_64 tw_9 tw_1238) rfl rfl rfl (by decide +kernel) hR
set_option maxHeartbeats 4000000 in
set_option maxRecDepth 100000 in
/-- tell -/
theorem c_X12_tell (l : Launch) (D : va_G) (cy : Nat → ClassId) (sz : Nat) (cs : List Nat) (ad : Nat → Nat) (en : Nat → va_E) (hI : RX cy cs ad en) (t : Int32)   : Met l yX12_tell (Cond.code yX12_tell cX12_tell 3 (some .int) :: TB) (rmN 1) (va_Pc [.ref (ad 0), .int t] (Pre D cy cs ad en sz)) (va_Qi (S := Nat → va_E) (fun r en1 => RX cy cs ad en1 ∧ (∀ c, (c ≠ 0) → en1 c = en c) ∧ KPx en en1) (PostM D cs ad) (Af cs ad sz)) 0 0 (Af cs ad sz) := by
  refine Met.ofW (cc := cX12_tell) (maxL := 3) (ret := (some .int)) (by decide) rfl ?_
  intro p e s m args below meth c s₁ B hml hv
  obtain ⟨rfl, hsz, hP, hK, hD0⟩ := hv
  have hx := B.exec
  have hb := B.bytes
  have hr := B.returns
  have hts : ∀ w ∈ TB, w.before _ s = true := fun w h => atoms_spec (ws := _ :: TB) B.pre w (List.mem_cons_of_mem _ h)
  have hown : s.vm.findClass RX12 = some m.cls := findClass_of_methodNamed B.named
  have hlocks := B.notSynchronized
  have hh : Hp D (Af cs ad sz) (Af cs ad sz) s.heap s.heap [] cs ad en := ⟨hP, Af_self hD0, va_S.rf⟩
  have hA : ∀ q : Nat, s.heap.size ≤ q → Af cs ad sz q := fun q h => Or.inr (by rw [hsz] at h; exact h)
  have hl := lv_entry ([.ref (ad 0), .int t]) (n := 3) (Nat.le_of_ble_eq_true rfl)
  rw [lg_entry_eq]
  generalize (lg_sl ([.ref (ad 0), .int t]) ++ List.replicate (3 - (lg_sl ([.ref (ad 0), .int t])).length) Slot.unset).toArray = ls at hl ⊢
  have hl : lv_has ls 3 [(0, .ref (ad 0)), (1, .int t)] := hl
  have hf0 : ∀ c, (c ≠ 0) → en c = en c := fun _ _ => rfl
  obtain ⟨fa, hi, wd, mo, tb, dp, many, grt, lst, nou, rm, rb, pr, wo, es1211, hwd2, hwd3, hmo, htb, hwo⟩ := getr_M hI
  refine lv_aload_n hx hb dX12_tell_0 rfl (lv_at hl 0 rfl) ?_
  refine lv_iload_n hx hb dX12_tell_1 rfl (lv_at hl 1 rfl) ?_
  refine hp_callRi (va_runV (As := [.int t]) (rest := []) ⟨hx, hb, hml, hown, hts⟩ (c_X12_isTable l D cy _ cs ad en hI t ) (kw_X12_isTable hts tw_1007 ⟨by decide, by decide⟩) (preV_of hh hK (hI.1 _ (by decide)) es1211 rfl) rfl rfl hl.1 rfl (lv_room (Nat.le_of_ble_eq_true rfl)) dX12_tell_2 ⟨Nat.le_of_ble_eq_true rfl, Nat.le_of_ble_eq_true rfl⟩) hh hA (fun r_1212 H locs hw_1212 hh => ?_)
  rw [show rdI (en 0) 4 = (nI tb) from by rw [es1211]; rfl, nI_toInt (n := tb) (by omega)] at hw_1212
  rcases Decidable.em (0 ≤ t.toInt ∧ t.toInt < (tb : Int)) with hp_1212 | hp_1212
  · obtain rfl : r_1212 = 1 := Eq.trans hw_1212 (if_pos hp_1212)
    obtain ⟨T_1212, rfl, hT_1212⟩ := has_nat hp_1212
    refine lv_if_ne (tgt := 10) hx hb dX12_tell_5 (by decide) (fun _ => ?_) (fun c_0 => absurd c_0 (by decide))
    refine lv_aload_n hx hb dX12_tell_10 rfl (lv_at hl 0 rfl) ?_
    refine lv_iload_n hx hb dX12_tell_11 rfl (lv_at hl 1 rfl) ?_
    refine hp_callRi (va_runV (As := [.int (nI T_1212)]) (rest := []) ⟨hx, hb, hml, hown, hts⟩ (c_X12_kindOf l D cy _ cs ad en hI T_1212 (by omega)) (kw_X12_kindOf hts tw_1223 ⟨by decide, by decide⟩) (preV_of hh hK (hI.1 _ (by decide)) es1211 rfl) rfl rfl hl.1 rfl (lv_room (Nat.le_of_ble_eq_true rfl)) dX12_tell_12 ⟨Nat.le_of_ble_eq_true rfl, Nat.le_of_ble_eq_true rfl⟩) hh hA (fun r_1213 H locs hw_1213 hh => ?_)
    rcases hw_1213 with hb_1213 | hb_1213 | hb_1213
    · obtain rfl : r_1213 = 0 := hb_1213
      refine lv_istore_n (lv' := [(2, .int 0), (0, .ref (ad 0)), (1, .int (nI T_1212))]) hx hb dX12_tell_15 rfl hl (by decide) rfl (fun ls hl => ?_)
      refine lv_iload_n hx hb dX12_tell_16 rfl (lv_at hl 0 rfl) ?_
      refine lv_iconst (v := 2) hx hb dX12_tell_17 (by decide) ?_
      refine lv_icmp_ne (tgt := 26) hx hb dX12_tell_18 (by decide) (fun _ => ?_) (fun c_0 => absurd c_0 (by decide))
      refine lv_iload_n hx hb dX12_tell_26 rfl (lv_at hl 0 rfl) ?_
      refine lv_if_le (tgt := 35) hx hb dX12_tell_27 (by decide) (fun _ => ?_) (fun c_0 => absurd c_0 (by decide))
      refine lv_aload_n hx hb dX12_tell_35 rfl (lv_at hl 1 rfl) ?_
      refine lv_iconst (v := 1) hx hb dX12_tell_36 (by decide) ?_
      refine hp_callMv (va_runV (As := [.int 1]) (rest := []) ⟨hx, hb, hml, hown, hts⟩ (c_X12_begins l D cy _ cs ad en (hI.1 _ (by decide)) fa hi wd mo tb dp many grt lst nou rm rb pr wo 1 es1211) (kw_X12_begins hts tw_1227 ⟨by decide, by decide⟩) (preV_of hh hK (hI.1 _ (by decide)) es1211 rfl) rfl rfl hl.1 rfl (lv_room (Nat.le_of_ble_eq_true rfl)) dX12_tell_37 ⟨Nat.le_of_ble_eq_true rfl, Nat.le_of_ble_eq_true rfl⟩) hh hA (fun H locs en_1214 hw_1214 hh => ?_)
      have hen_1214 := hw_1214
      have es1211_1214 : en_1214 0 = .inr (11, [.int fa, .int (31 * hi + 1), .int (nI wd), .int (nI mo), .int (nI tb), .ref (ad 1), .ref (ad 2), .ref (ad 3), .ref (ad 4), .ref (ad 5), .ref (ad 6), .ref (ad 7), .ref (ad 8), .ref (ad 9), .int dp, .long many, .long grt, .long lst, .long nou, .ref (ad 10), .ref (ad 11), .ref (ad 12), .int rm, .long rb, .ref (ad 13), .int pr, .ref (ad 14), .ref (ad 15), .ref (ad 16), .ref (ad 17), .int (nI wo), .ref (ad 18), .ref (ad 19)]) := by rw [hen_1214]; exact va_up_self _ _ _
      have hI_1214 : RX cy cs ad en_1214 := by rw [hen_1214]; exact upr_M hI ⟨fa, (31 * hi + 1), wd, mo, tb, dp, many, grt, lst, nou, rm, rb, pr, wo, rfl, hwd2, hwd3, hmo, htb, hwo⟩
      have hf_1214 : ∀ c, (c ≠ 0) → en_1214 c = en c := fun c hc => Eq.trans (show en_1214 c = en c from by rw [hen_1214, va_up_ne _ _ (by omega)]) (hf0 c hc)
      have hkp_1214 : KPx en en_1214 := KPx_fv (KPx_rf en) es1211 es1211_1214 (nI wd) (nI mo) (nI tb) pr (nI wo) rfl rfl rfl rfl rfl rfl rfl rfl rfl rfl
      refine lv_iload_n hx hb dX12_tell_40 rfl (lv_at hl 0 rfl) ?_
      refine lv_iconst (v := 2) hx hb dX12_tell_41 (by decide) ?_
      refine lv_icmp_ne (tgt := 50) hx hb dX12_tell_42 (by decide) (fun _ => ?_) (fun c_0 => absurd c_0 (by decide))
      refine lv_iload_n hx hb dX12_tell_50 rfl (lv_at hl 0 rfl) ?_
      refine lv_if_ne (tgt := 62) hx hb dX12_tell_51 (by decide) (fun c_0 => absurd c_0 (by decide)) (fun _ => ?_)
      refine lv_aload_n hx hb dX12_tell_54 rfl (lv_at hl 1 rfl) ?_
      refine lv_iload_n hx hb dX12_tell_55 rfl (lv_at hl 2 rfl) ?_
      refine hp_callRi (va_runV (As := [.int (nI T_1212)]) (rest := []) ⟨hx, hb, hml, hown, hts⟩ (c_X12_trackOf l D cy _ cs ad en_1214 hI_1214 T_1212 (by omega)) (kw_X12_trackOf hts tw_1231 ⟨by decide, by decide⟩) (preV_of hh hK (hI.1 _ (by decide)) es1211_1214 rfl) rfl rfl hl.1 rfl (lv_room (Nat.le_of_ble_eq_true rfl)) dX12_tell_56 ⟨Nat.le_of_ble_eq_true rfl, Nat.le_of_ble_eq_true rfl⟩) hh hA (fun r_1215 H locs hw_1215 hh => ?_)
      refine lv_goto (tgt := 94) hx hb dX12_tell_59 (by decide) ?_
      exact hp_iretM hx hb hr rfl hlocks hh (⟨hI_1214, hf_1214, hkp_1214⟩) dX12_tell_94
    · obtain rfl : r_1213 = 1 := hb_1213
      refine lv_istore_n (lv' := [(2, .int 1), (0, .ref (ad 0)), (1, .int (nI T_1212))]) hx hb dX12_tell_15 rfl hl (by decide) rfl (fun ls hl => ?_)
      refine lv_iload_n hx hb dX12_tell_16 rfl (lv_at hl 0 rfl) ?_
      refine lv_iconst (v := 2) hx hb dX12_tell_17 (by decide) ?_
      refine lv_icmp_ne (tgt := 26) hx hb dX12_tell_18 (by decide) (fun _ => ?_) (fun c_0 => absurd c_0 (by decide))
      refine lv_iload_n hx hb dX12_tell_26 rfl (lv_at hl 0 rfl) ?_
      refine lv_if_le (tgt := 35) hx hb dX12_tell_27 (by decide) (fun c_0 => absurd c_0 (by decide)) (fun _ => ?_)
      refine lv_aload_n hx hb dX12_tell_30 rfl (lv_at hl 1 rfl) ?_
      refine lv_iconst (v := 2) hx hb dX12_tell_31 (by decide) ?_
      refine hp_callMv (va_runV (As := [.int 2]) (rest := []) ⟨hx, hb, hml, hown, hts⟩ (c_X12_begins l D cy _ cs ad en (hI.1 _ (by decide)) fa hi wd mo tb dp many grt lst nou rm rb pr wo 2 es1211) (kw_X12_begins hts tw_1227 ⟨by decide, by decide⟩) (preV_of hh hK (hI.1 _ (by decide)) es1211 rfl) rfl rfl hl.1 rfl (lv_room (Nat.le_of_ble_eq_true rfl)) dX12_tell_32 ⟨Nat.le_of_ble_eq_true rfl, Nat.le_of_ble_eq_true rfl⟩) hh hA (fun H locs en_1216 hw_1216 hh => ?_)
      have hen_1216 := hw_1216
      have es1211_1216 : en_1216 0 = .inr (11, [.int fa, .int (31 * hi + 2), .int (nI wd), .int (nI mo), .int (nI tb), .ref (ad 1), .ref (ad 2), .ref (ad 3), .ref (ad 4), .ref (ad 5), .ref (ad 6), .ref (ad 7), .ref (ad 8), .ref (ad 9), .int dp, .long many, .long grt, .long lst, .long nou, .ref (ad 10), .ref (ad 11), .ref (ad 12), .int rm, .long rb, .ref (ad 13), .int pr, .ref (ad 14), .ref (ad 15), .ref (ad 16), .ref (ad 17), .int (nI wo), .ref (ad 18), .ref (ad 19)]) := by rw [hen_1216]; exact va_up_self _ _ _
      have hI_1216 : RX cy cs ad en_1216 := by rw [hen_1216]; exact upr_M hI ⟨fa, (31 * hi + 2), wd, mo, tb, dp, many, grt, lst, nou, rm, rb, pr, wo, rfl, hwd2, hwd3, hmo, htb, hwo⟩
      have hf_1216 : ∀ c, (c ≠ 0) → en_1216 c = en c := fun c hc => Eq.trans (show en_1216 c = en c from by rw [hen_1216, va_up_ne _ _ (by omega)]) (hf0 c hc)
      have hkp_1216 : KPx en en_1216 := KPx_fv (KPx_rf en) es1211 es1211_1216 (nI wd) (nI mo) (nI tb) pr (nI wo) rfl rfl rfl rfl rfl rfl rfl rfl rfl rfl
      refine lv_aload_n hx hb dX12_tell_35 rfl (lv_at hl 1 rfl) ?_
      refine lv_iconst (v := 1) hx hb dX12_tell_36 (by decide) ?_
      refine hp_callMv (va_runV (As := [.int 1]) (rest := []) ⟨hx, hb, hml, hown, hts⟩ (c_X12_begins l D cy _ cs ad en_1216 (hI.1 _ (by decide)) fa (31 * hi + 2) wd mo tb dp many grt lst nou rm rb pr wo 1 es1211_1216) (kw_X12_begins hts tw_1227 ⟨by decide, by decide⟩) (preV_of hh hK (hI.1 _ (by decide)) es1211_1216 rfl) rfl rfl hl.1 rfl (lv_room (Nat.le_of_ble_eq_true rfl)) dX12_tell_37 ⟨Nat.le_of_ble_eq_true rfl, Nat.le_of_ble_eq_true rfl⟩) hh hA (fun H locs en_1217 hw_1217 hh => ?_)
      have hen_1217 := hw_1217
      have es1211_1217 : en_1217 0 = .inr (11, [.int fa, .int (31 * (31 * hi + 2) + 1), .int (nI wd), .int (nI mo), .int (nI tb), .ref (ad 1), .ref (ad 2), .ref (ad 3), .ref (ad 4), .ref (ad 5), .ref (ad 6), .ref (ad 7), .ref (ad 8), .ref (ad 9), .int dp, .long many, .long grt, .long lst, .long nou, .ref (ad 10), .ref (ad 11), .ref (ad 12), .int rm, .long rb, .ref (ad 13), .int pr, .ref (ad 14), .ref (ad 15), .ref (ad 16), .ref (ad 17), .int (nI wo), .ref (ad 18), .ref (ad 19)]) := by rw [hen_1217]; exact va_up_self _ _ _
      have hI_1217 : RX cy cs ad en_1217 := by rw [hen_1217]; exact upr_M hI_1216 ⟨fa, (31 * (31 * hi + 2) + 1), wd, mo, tb, dp, many, grt, lst, nou, rm, rb, pr, wo, rfl, hwd2, hwd3, hmo, htb, hwo⟩
      have hf_1217 : ∀ c, (c ≠ 0) → en_1217 c = en c := fun c hc => Eq.trans (show en_1217 c = en_1216 c from by rw [hen_1217, va_up_ne _ _ (by omega)]) (hf_1216 c hc)
      have hkp_1217 : KPx en en_1217 := KPx_fv hkp_1216 es1211_1216 es1211_1217 (nI wd) (nI mo) (nI tb) pr (nI wo) rfl rfl rfl rfl rfl rfl rfl rfl rfl rfl
      refine lv_iload_n hx hb dX12_tell_40 rfl (lv_at hl 0 rfl) ?_
      refine lv_iconst (v := 2) hx hb dX12_tell_41 (by decide) ?_
      refine lv_icmp_ne (tgt := 50) hx hb dX12_tell_42 (by decide) (fun _ => ?_) (fun c_0 => absurd c_0 (by decide))
      refine lv_iload_n hx hb dX12_tell_50 rfl (lv_at hl 0 rfl) ?_
      refine lv_if_ne (tgt := 62) hx hb dX12_tell_51 (by decide) (fun _ => ?_) (fun c_0 => absurd c_0 (by decide))
      refine lv_iload_n hx hb dX12_tell_62 rfl (lv_at hl 0 rfl) ?_
      refine lv_iconst (v := 1) hx hb dX12_tell_63 (by decide) ?_
      refine lv_icmp_ne (tgt := 81) hx hb dX12_tell_64 (by decide) (fun c_0 => absurd c_0 (by decide)) (fun _ => ?_)
      refine lv_aload_n hx hb dX12_tell_67 rfl (lv_at hl 1 rfl) ?_
      refine lv_iload_n hx hb dX12_tell_68 rfl (lv_at hl 2 rfl) ?_
      refine hp_callRi (va_runV (As := [.int (nI T_1212)]) (rest := []) ⟨hx, hb, hml, hown, hts⟩ (c_X12_trackOf l D cy _ cs ad en_1217 hI_1217 T_1212 (by omega)) (kw_X12_trackOf hts tw_1231 ⟨by decide, by decide⟩) (preV_of hh hK (hI.1 _ (by decide)) es1211_1217 rfl) rfl rfl hl.1 rfl (lv_room (Nat.le_of_ble_eq_true rfl)) dX12_tell_69 ⟨Nat.le_of_ble_eq_true rfl, Nat.le_of_ble_eq_true rfl⟩) hh hA (fun r_1218 H locs hw_1218 hh => ?_)
      refine lv_aload_n hx hb dX12_tell_72 rfl (lv_at hl 1 rfl) ?_
      refine lv_iload_n hx hb dX12_tell_73 rfl (lv_at hl 2 rfl) ?_
      refine hp_callRi (va_runV (As := [.int (nI T_1212)]) (rest := [.int r_1218]) ⟨hx, hb, hml, hown, hts⟩ (c_X12_greatestOf l D cy _ cs ad en_1217 hI_1217 T_1212 (by omega)) (kw_X12_greatestOf hts tw_1235 ⟨by decide, by decide⟩) (preV_of hh hK (hI.1 _ (by decide)) es1211_1217 rfl) rfl rfl hl.1 rfl (lv_room (Nat.le_of_ble_eq_true rfl)) dX12_tell_74 ⟨Nat.le_of_ble_eq_true rfl, Nat.le_of_ble_eq_true rfl⟩) hh hA (fun r_1219 H locs hw_1219 hh => ?_)
      refine lv_iadd hx hb dX12_tell_77 ?_
      refine lv_goto (tgt := 94) hx hb dX12_tell_78 (by decide) ?_
      exact hp_iretM hx hb hr rfl hlocks hh (⟨hI_1217, hf_1217, hkp_1217⟩) dX12_tell_94
    · obtain rfl : r_1213 = 2 := hb_1213
      refine lv_istore_n (lv' := [(2, .int 2), (0, .ref (ad 0)), (1, .int (nI T_1212))]) hx hb dX12_tell_15 rfl hl (by decide) rfl (fun ls hl => ?_)
      refine lv_iload_n hx hb dX12_tell_16 rfl (lv_at hl 0 rfl) ?_
      refine lv_iconst (v := 2) hx hb dX12_tell_17 (by decide) ?_
      refine lv_icmp_ne (tgt := 26) hx hb dX12_tell_18 (by decide) (fun c_0 => absurd c_0 (by decide)) (fun _ => ?_)
      refine lv_aload_n hx hb dX12_tell_21 rfl (lv_at hl 1 rfl) ?_
      refine lv_iconst (v := 3) hx hb dX12_tell_22 (by decide) ?_
      refine hp_callMv (va_runV (As := [.int 3]) (rest := []) ⟨hx, hb, hml, hown, hts⟩ (c_X12_begins l D cy _ cs ad en (hI.1 _ (by decide)) fa hi wd mo tb dp many grt lst nou rm rb pr wo 3 es1211) (kw_X12_begins hts tw_1227 ⟨by decide, by decide⟩) (preV_of hh hK (hI.1 _ (by decide)) es1211 rfl) rfl rfl hl.1 rfl (lv_room (Nat.le_of_ble_eq_true rfl)) dX12_tell_23 ⟨Nat.le_of_ble_eq_true rfl, Nat.le_of_ble_eq_true rfl⟩) hh hA (fun H locs en_1220 hw_1220 hh => ?_)
      have hen_1220 := hw_1220
      have es1211_1220 : en_1220 0 = .inr (11, [.int fa, .int (31 * hi + 3), .int (nI wd), .int (nI mo), .int (nI tb), .ref (ad 1), .ref (ad 2), .ref (ad 3), .ref (ad 4), .ref (ad 5), .ref (ad 6), .ref (ad 7), .ref (ad 8), .ref (ad 9), .int dp, .long many, .long grt, .long lst, .long nou, .ref (ad 10), .ref (ad 11), .ref (ad 12), .int rm, .long rb, .ref (ad 13), .int pr, .ref (ad 14), .ref (ad 15), .ref (ad 16), .ref (ad 17), .int (nI wo), .ref (ad 18), .ref (ad 19)]) := by rw [hen_1220]; exact va_up_self _ _ _
      have hI_1220 : RX cy cs ad en_1220 := by rw [hen_1220]; exact upr_M hI ⟨fa, (31 * hi + 3), wd, mo, tb, dp, many, grt, lst, nou, rm, rb, pr, wo, rfl, hwd2, hwd3, hmo, htb, hwo⟩
      have hf_1220 : ∀ c, (c ≠ 0) → en_1220 c = en c := fun c hc => Eq.trans (show en_1220 c = en c from by rw [hen_1220, va_up_ne _ _ (by omega)]) (hf0 c hc)
      have hkp_1220 : KPx en en_1220 := KPx_fv (KPx_rf en) es1211 es1211_1220 (nI wd) (nI mo) (nI tb) pr (nI wo) rfl rfl rfl rfl rfl rfl rfl rfl rfl rfl
      refine lv_iload_n hx hb dX12_tell_26 rfl (lv_at hl 0 rfl) ?_
      refine lv_if_le (tgt := 35) hx hb dX12_tell_27 (by decide) (fun c_0 => absurd c_0 (by decide)) (fun _ => ?_)
      refine lv_aload_n hx hb dX12_tell_30 rfl (lv_at hl 1 rfl) ?_
      refine lv_iconst (v := 2) hx hb dX12_tell_31 (by decide) ?_
      refine hp_callMv (va_runV (As := [.int 2]) (rest := []) ⟨hx, hb, hml, hown, hts⟩ (c_X12_begins l D cy _ cs ad en_1220 (hI.1 _ (by decide)) fa (31 * hi + 3) wd mo tb dp many grt lst nou rm rb pr wo 2 es1211_1220) (kw_X12_begins hts tw_1227 ⟨by decide, by decide⟩) (preV_of hh hK (hI.1 _ (by decide)) es1211_1220 rfl) rfl rfl hl.1 rfl (lv_room (Nat.le_of_ble_eq_true rfl)) dX12_tell_32 ⟨Nat.le_of_ble_eq_true rfl, Nat.le_of_ble_eq_true rfl⟩) hh hA (fun H locs en_1221 hw_1221 hh => ?_)
      have hen_1221 := hw_1221
      have es1211_1221 : en_1221 0 = .inr (11, [.int fa, .int (31 * (31 * hi + 3) + 2), .int (nI wd), .int (nI mo), .int (nI tb), .ref (ad 1), .ref (ad 2), .ref (ad 3), .ref (ad 4), .ref (ad 5), .ref (ad 6), .ref (ad 7), .ref (ad 8), .ref (ad 9), .int dp, .long many, .long grt, .long lst, .long nou, .ref (ad 10), .ref (ad 11), .ref (ad 12), .int rm, .long rb, .ref (ad 13), .int pr, .ref (ad 14), .ref (ad 15), .ref (ad 16), .ref (ad 17), .int (nI wo), .ref (ad 18), .ref (ad 19)]) := by rw [hen_1221]; exact va_up_self _ _ _
      have hI_1221 : RX cy cs ad en_1221 := by rw [hen_1221]; exact upr_M hI_1220 ⟨fa, (31 * (31 * hi + 3) + 2), wd, mo, tb, dp, many, grt, lst, nou, rm, rb, pr, wo, rfl, hwd2, hwd3, hmo, htb, hwo⟩
      have hf_1221 : ∀ c, (c ≠ 0) → en_1221 c = en c := fun c hc => Eq.trans (show en_1221 c = en_1220 c from by rw [hen_1221, va_up_ne _ _ (by omega)]) (hf_1220 c hc)
      have hkp_1221 : KPx en en_1221 := KPx_fv hkp_1220 es1211_1220 es1211_1221 (nI wd) (nI mo) (nI tb) pr (nI wo) rfl rfl rfl rfl rfl rfl rfl rfl rfl rfl
      refine lv_aload_n hx hb dX12_tell_35 rfl (lv_at hl 1 rfl) ?_
      refine lv_iconst (v := 1) hx hb dX12_tell_36 (by decide) ?_
      refine hp_callMv (va_runV (As := [.int 1]) (rest := []) ⟨hx, hb, hml, hown, hts⟩ (c_X12_begins l D cy _ cs ad en_1221 (hI.1 _ (by decide)) fa (31 * (31 * hi + 3) + 2) wd mo tb dp many grt lst nou rm rb pr wo 1 es1211_1221) (kw_X12_begins hts tw_1227 ⟨by decide, by decide⟩) (preV_of hh hK (hI.1 _ (by decide)) es1211_1221 rfl) rfl rfl hl.1 rfl (lv_room (Nat.le_of_ble_eq_true rfl)) dX12_tell_37 ⟨Nat.le_of_ble_eq_true rfl, Nat.le_of_ble_eq_true rfl⟩) hh hA (fun H locs en_1222 hw_1222 hh => ?_)
      have hen_1222 := hw_1222
      have es1211_1222 : en_1222 0 = .inr (11, [.int fa, .int (31 * (31 * (31 * hi + 3) + 2) + 1), .int (nI wd), .int (nI mo), .int (nI tb), .ref (ad 1), .ref (ad 2), .ref (ad 3), .ref (ad 4), .ref (ad 5), .ref (ad 6), .ref (ad 7), .ref (ad 8), .ref (ad 9), .int dp, .long many, .long grt, .long lst, .long nou, .ref (ad 10), .ref (ad 11), .ref (ad 12), .int rm, .long rb, .ref (ad 13), .int pr, .ref (ad 14), .ref (ad 15), .ref (ad 16), .ref (ad 17), .int (nI wo), .ref (ad 18), .ref (ad 19)]) := by rw [hen_1222]; exact va_up_self _ _ _
      have hI_1222 : RX cy cs ad en_1222 := by rw [hen_1222]; exact upr_M hI_1221 ⟨fa, (31 * (31 * (31 * hi + 3) + 2) + 1), wd, mo, tb, dp, many, grt, lst, nou, rm, rb, pr, wo, rfl, hwd2, hwd3, hmo, htb, hwo⟩
      have hf_1222 : ∀ c, (c ≠ 0) → en_1222 c = en c := fun c hc => Eq.trans (show en_1222 c = en_1221 c from by rw [hen_1222, va_up_ne _ _ (by omega)]) (hf_1221 c hc)
      have hkp_1222 : KPx en en_1222 := KPx_fv hkp_1221 es1211_1221 es1211_1222 (nI wd) (nI mo) (nI tb) pr (nI wo) rfl rfl rfl rfl rfl rfl rfl rfl rfl rfl
      refine lv_iload_n hx hb dX12_tell_40 rfl (lv_at hl 0 rfl) ?_
      refine lv_iconst (v := 2) hx hb dX12_tell_41 (by decide) ?_
      refine lv_icmp_ne (tgt := 50) hx hb dX12_tell_42 (by decide) (fun c_0 => absurd c_0 (by decide)) (fun _ => ?_)
      refine lv_aload_n hx hb dX12_tell_45 rfl (lv_at hl 1 rfl) ?_
      refine lv_iconst (v := 1) hx hb dX12_tell_46 (by decide) ?_
      refine hp_callMv (va_runV (As := [.int 1]) (rest := []) ⟨hx, hb, hml, hown, hts⟩ (c_X12_begins l D cy _ cs ad en_1222 (hI.1 _ (by decide)) fa (31 * (31 * (31 * hi + 3) + 2) + 1) wd mo tb dp many grt lst nou rm rb pr wo 1 es1211_1222) (kw_X12_begins hts tw_1227 ⟨by decide, by decide⟩) (preV_of hh hK (hI.1 _ (by decide)) es1211_1222 rfl) rfl rfl hl.1 rfl (lv_room (Nat.le_of_ble_eq_true rfl)) dX12_tell_47 ⟨Nat.le_of_ble_eq_true rfl, Nat.le_of_ble_eq_true rfl⟩) hh hA (fun H locs en_1223 hw_1223 hh => ?_)
      have hen_1223 := hw_1223
      have es1211_1223 : en_1223 0 = .inr (11, [.int fa, .int (31 * (31 * (31 * (31 * hi + 3) + 2) + 1) + 1), .int (nI wd), .int (nI mo), .int (nI tb), .ref (ad 1), .ref (ad 2), .ref (ad 3), .ref (ad 4), .ref (ad 5), .ref (ad 6), .ref (ad 7), .ref (ad 8), .ref (ad 9), .int dp, .long many, .long grt, .long lst, .long nou, .ref (ad 10), .ref (ad 11), .ref (ad 12), .int rm, .long rb, .ref (ad 13), .int pr, .ref (ad 14), .ref (ad 15), .ref (ad 16), .ref (ad 17), .int (nI wo), .ref (ad 18), .ref (ad 19)]) := by rw [hen_1223]; exact va_up_self _ _ _
      have hI_1223 : RX cy cs ad en_1223 := by rw [hen_1223]; exact upr_M hI_1222 ⟨fa, (31 * (31 * (31 * (31 * hi + 3) + 2) + 1) + 1), wd, mo, tb, dp, many, grt, lst, nou, rm, rb, pr, wo, rfl, hwd2, hwd3, hmo, htb, hwo⟩
      have hf_1223 : ∀ c, (c ≠ 0) → en_1223 c = en c := fun c hc => Eq.trans (show en_1223 c = en_1222 c from by rw [hen_1223, va_up_ne _ _ (by omega)]) (hf_1222 c hc)
      have hkp_1223 : KPx en en_1223 := KPx_fv hkp_1222 es1211_1222 es1211_1223 (nI wd) (nI mo) (nI tb) pr (nI wo) rfl rfl rfl rfl rfl rfl rfl rfl rfl rfl
      refine lv_iload_n hx hb dX12_tell_50 rfl (lv_at hl 0 rfl) ?_
      refine lv_if_ne (tgt := 62) hx hb dX12_tell_51 (by decide) (fun _ => ?_) (fun c_0 => absurd c_0 (by decide))
      refine lv_iload_n hx hb dX12_tell_62 rfl (lv_at hl 0 rfl) ?_
      refine lv_iconst (v := 1) hx hb dX12_tell_63 (by decide) ?_
      refine lv_icmp_ne (tgt := 81) hx hb dX12_tell_64 (by decide) (fun _ => ?_) (fun c_0 => absurd c_0 (by decide))
      refine lv_iconst (v := 2) hx hb dX12_tell_81 (by decide) ?_
      refine lv_aload_n hx hb dX12_tell_82 rfl (lv_at hl 1 rfl) ?_
      refine lv_iload_n hx hb dX12_tell_83 rfl (lv_at hl 2 rfl) ?_
      refine hp_callRi (va_runV (As := [.int (nI T_1212)]) (rest := [.int 2]) ⟨hx, hb, hml, hown, hts⟩ (c_X12_trackOf l D cy _ cs ad en_1223 hI_1223 T_1212 (by omega)) (kw_X12_trackOf hts tw_1231 ⟨by decide, by decide⟩) (preV_of hh hK (hI.1 _ (by decide)) es1211_1223 rfl) rfl rfl hl.1 rfl (lv_room (Nat.le_of_ble_eq_true rfl)) dX12_tell_84 ⟨Nat.le_of_ble_eq_true rfl, Nat.le_of_ble_eq_true rfl⟩) hh hA (fun r_1224 H locs hw_1224 hh => ?_)
      refine lv_imul hx hb dX12_tell_87 ?_
      refine lv_aload_n hx hb dX12_tell_88 rfl (lv_at hl 1 rfl) ?_
      refine lv_iload_n hx hb dX12_tell_89 rfl (lv_at hl 2 rfl) ?_
      refine hp_callRi (va_runV (As := [.int (nI T_1212)]) (rest := [.int (2 * r_1224)]) ⟨hx, hb, hml, hown, hts⟩ (c_X12_greatestOf l D cy _ cs ad en_1223 hI_1223 T_1212 (by omega)) (kw_X12_greatestOf hts tw_1235 ⟨by decide, by decide⟩) (preV_of hh hK (hI.1 _ (by decide)) es1211_1223 rfl) rfl rfl hl.1 rfl (lv_room (Nat.le_of_ble_eq_true rfl)) dX12_tell_90 ⟨Nat.le_of_ble_eq_true rfl, Nat.le_of_ble_eq_true rfl⟩) hh hA (fun r_1225 H locs hw_1225 hh => ?_)
      refine lv_iadd hx hb dX12_tell_93 ?_
      exact hp_iretM hx hb hr rfl hlocks hh (⟨hI_1223, hf_1223, hkp_1223⟩) dX12_tell_94
  · obtain rfl : r_1212 = 0 := Eq.trans hw_1212 (if_neg hp_1212)
    refine lv_if_ne (tgt := 10) hx hb dX12_tell_5 (by decide) (fun c_0 => absurd c_0 (by decide)) (fun _ => ?_)
    refine lv_iconst (v := (-1)) hx hb dX12_tell_8 (by decide) ?_
    exact hp_iretM hx hb hr rfl hlocks hh (⟨hI, hf0, (KPx_rf en)⟩) dX12_tell_9
theorem kw_X12_tell {R : Room} {s : State} {args : Array Value} {own : String} {idx : Nat} (hts : ∀ w ∈ TB, w.before args s = true) (hl : Cond.methodLink own idx yX12_tell ∈ TB) (hR : 1 + 1 ≤ R.frames ∧ 8 + (3 + 11) + 40 * 1 ≤ R.locals) : CallW R s args own RX12 idx yX12_tell cX12_tell 3 (some .int) (Cond.code yX12_tell cX12_tell 3 (some .int) :: TB) (rmN 1) 0 0 1 := cwV 1 hts (TB_V hl tw_1220 tw_1221 tw_9 tw_1222) rfl rfl rfl (by decide +kernel) hR
set_option maxHeartbeats 4000000 in
set_option maxRecDepth 100000 in
/-- weigh -/
theorem c_X12_weigh (l : Launch) (D : va_G) (cy : Nat → ClassId) (sz : Nat) (cs : List Nat) (ad : Nat → Nat) (en : Nat → va_E) (hI : RX cy cs ad en) (t : Int32)   : Met l yX12_weigh (Cond.code yX12_weigh cX12_weigh 3 (some .int) :: TB) (rmN 1) (va_Pc [.ref (ad 0), .int t] (Pre D cy cs ad en sz)) (va_Qi (S := Nat → va_E) (fun r en1 => RX cy cs ad en1 ∧ (∀ c, (c ≠ 0) → en1 c = en c) ∧ KPx en en1) (PostM D cs ad) (Af cs ad sz)) 0 0 (Af cs ad sz) := by
  refine Met.ofW (cc := cX12_weigh) (maxL := 3) (ret := (some .int)) (by decide) rfl ?_
  intro p e s m args below meth c s₁ B hml hv
  obtain ⟨rfl, hsz, hP, hK, hD0⟩ := hv
  have hx := B.exec
  have hb := B.bytes
  have hr := B.returns
  have hts : ∀ w ∈ TB, w.before _ s = true := fun w h => atoms_spec (ws := _ :: TB) B.pre w (List.mem_cons_of_mem _ h)
  have hown : s.vm.findClass RX12 = some m.cls := findClass_of_methodNamed B.named
  have hlocks := B.notSynchronized
  have hh : Hp D (Af cs ad sz) (Af cs ad sz) s.heap s.heap [] cs ad en := ⟨hP, Af_self hD0, va_S.rf⟩
  have hA : ∀ q : Nat, s.heap.size ≤ q → Af cs ad sz q := fun q h => Or.inr (by rw [hsz] at h; exact h)
  have hl := lv_entry ([.ref (ad 0), .int t]) (n := 3) (Nat.le_of_ble_eq_true rfl)
  rw [lg_entry_eq]
  generalize (lg_sl ([.ref (ad 0), .int t]) ++ List.replicate (3 - (lg_sl ([.ref (ad 0), .int t])).length) Slot.unset).toArray = ls at hl ⊢
  have hl : lv_has ls 3 [(0, .ref (ad 0)), (1, .int t)] := hl
  have hf0 : ∀ c, (c ≠ 0) → en c = en c := fun _ _ => rfl
  obtain ⟨fa, hi, wd, mo, tb, dp, many, grt, lst, nou, rm, rb, pr, wo, es1226, hwd2, hwd3, hmo, htb, hwo⟩ := getr_M hI
  refine lv_aload_n hx hb dX12_weigh_0 rfl (lv_at hl 0 rfl) ?_
  refine lv_iload_n hx hb dX12_weigh_1 rfl (lv_at hl 1 rfl) ?_
  refine hp_callRi (va_runV (As := [.int t]) (rest := []) ⟨hx, hb, hml, hown, hts⟩ (c_X12_isTable l D cy _ cs ad en hI t ) (kw_X12_isTable hts tw_1007 ⟨by decide, by decide⟩) (preV_of hh hK (hI.1 _ (by decide)) es1226 rfl) rfl rfl hl.1 rfl (lv_room (Nat.le_of_ble_eq_true rfl)) dX12_weigh_2 ⟨Nat.le_of_ble_eq_true rfl, Nat.le_of_ble_eq_true rfl⟩) hh hA (fun r_1227 H locs hw_1227 hh => ?_)
  rw [show rdI (en 0) 4 = (nI tb) from by rw [es1226]; rfl, nI_toInt (n := tb) (by omega)] at hw_1227
  rcases Decidable.em (0 ≤ t.toInt ∧ t.toInt < (tb : Int)) with hp_1227 | hp_1227
  · obtain rfl : r_1227 = 1 := Eq.trans hw_1227 (if_pos hp_1227)
    obtain ⟨T_1227, rfl, hT_1227⟩ := has_nat hp_1227
    refine lv_if_ne (tgt := 10) hx hb dX12_weigh_5 (by decide) (fun _ => ?_) (fun c_0 => absurd c_0 (by decide))
    refine lv_aload_n hx hb dX12_weigh_10 rfl (lv_at hl 0 rfl) ?_
    refine lv_iload_n hx hb dX12_weigh_11 rfl (lv_at hl 1 rfl) ?_
    refine hp_callRi (va_runV (As := [.int (nI T_1227)]) (rest := []) ⟨hx, hb, hml, hown, hts⟩ (c_X12_kindOf l D cy _ cs ad en hI T_1227 (by omega)) (kw_X12_kindOf hts tw_1223 ⟨by decide, by decide⟩) (preV_of hh hK (hI.1 _ (by decide)) es1226 rfl) rfl rfl hl.1 rfl (lv_room (Nat.le_of_ble_eq_true rfl)) dX12_weigh_12 ⟨Nat.le_of_ble_eq_true rfl, Nat.le_of_ble_eq_true rfl⟩) hh hA (fun r_1228 H locs hw_1228 hh => ?_)
    rcases hw_1228 with hb_1228 | hb_1228 | hb_1228
    · obtain rfl : r_1228 = 0 := hb_1228
      refine lv_iconst (v := 2) hx hb dX12_weigh_15 (by decide) ?_
      refine lv_icmp_ne (tgt := 23) hx hb dX12_weigh_16 (by decide) (fun _ => ?_) (fun c_0 => absurd c_0 (by decide))
      refine lv_iconst (v := 0) hx hb dX12_weigh_23 (by decide) ?_
      refine lv_istore_n (lv' := [(2, .int 0), (0, .ref (ad 0)), (1, .int (nI T_1227))]) hx hb dX12_weigh_24 rfl hl (by decide) rfl (fun ls hl => ?_)
      refine lv_aload_n hx hb dX12_weigh_25 rfl (lv_at hl 1 rfl) ?_
      refine lv_iload_n hx hb dX12_weigh_26 rfl (lv_at hl 0 rfl) ?_
      refine lv_if_eq (tgt := 34) hx hb dX12_weigh_27 (by decide) (fun _ => ?_) (fun c_0 => absurd c_0 (by decide))
      refine lv_iconst (v := 4) hx hb dX12_weigh_34 (by decide) ?_
      refine hp_callMv (va_runV (As := [.int 4]) (rest := []) ⟨hx, hb, hml, hown, hts⟩ (c_X12_begins l D cy _ cs ad en (hI.1 _ (by decide)) fa hi wd mo tb dp many grt lst nou rm rb pr wo 4 es1226) (kw_X12_begins hts tw_1227 ⟨by decide, by decide⟩) (preV_of hh hK (hI.1 _ (by decide)) es1226 rfl) rfl rfl hl.1 rfl (lv_room (Nat.le_of_ble_eq_true rfl)) dX12_weigh_35 ⟨Nat.le_of_ble_eq_true rfl, Nat.le_of_ble_eq_true rfl⟩) hh hA (fun H locs en_1229 hw_1229 hh => ?_)
      have hen_1229 := hw_1229
      have es1226_1229 : en_1229 0 = .inr (11, [.int fa, .int (31 * hi + 4), .int (nI wd), .int (nI mo), .int (nI tb), .ref (ad 1), .ref (ad 2), .ref (ad 3), .ref (ad 4), .ref (ad 5), .ref (ad 6), .ref (ad 7), .ref (ad 8), .ref (ad 9), .int dp, .long many, .long grt, .long lst, .long nou, .ref (ad 10), .ref (ad 11), .ref (ad 12), .int rm, .long rb, .ref (ad 13), .int pr, .ref (ad 14), .ref (ad 15), .ref (ad 16), .ref (ad 17), .int (nI wo), .ref (ad 18), .ref (ad 19)]) := by rw [hen_1229]; exact va_up_self _ _ _
      have hI_1229 : RX cy cs ad en_1229 := by rw [hen_1229]; exact upr_M hI ⟨fa, (31 * hi + 4), wd, mo, tb, dp, many, grt, lst, nou, rm, rb, pr, wo, rfl, hwd2, hwd3, hmo, htb, hwo⟩
      have hf_1229 : ∀ c, (c ≠ 0) → en_1229 c = en c := fun c hc => Eq.trans (show en_1229 c = en c from by rw [hen_1229, va_up_ne _ _ (by omega)]) (hf0 c hc)
      have hkp_1229 : KPx en en_1229 := KPx_fv (KPx_rf en) es1226 es1226_1229 (nI wd) (nI mo) (nI tb) pr (nI wo) rfl rfl rfl rfl rfl rfl rfl rfl rfl rfl
      refine lv_iload_n hx hb dX12_weigh_38 rfl (lv_at hl 0 rfl) ?_
      refine lv_if_eq (tgt := 47) hx hb dX12_weigh_39 (by decide) (fun _ => ?_) (fun c_0 => absurd c_0 (by decide))
      refine lv_iload_n hx hb dX12_weigh_47 rfl (lv_at hl 2 rfl) ?_
      exact hp_iretM hx hb hr rfl hlocks hh (⟨hI_1229, hf_1229, hkp_1229⟩) dX12_weigh_48
    · obtain rfl : r_1228 = 1 := hb_1228
      refine lv_iconst (v := 2) hx hb dX12_weigh_15 (by decide) ?_
      refine lv_icmp_ne (tgt := 23) hx hb dX12_weigh_16 (by decide) (fun _ => ?_) (fun c_0 => absurd c_0 (by decide))
      refine lv_iconst (v := 0) hx hb dX12_weigh_23 (by decide) ?_
      refine lv_istore_n (lv' := [(2, .int 0), (0, .ref (ad 0)), (1, .int (nI T_1227))]) hx hb dX12_weigh_24 rfl hl (by decide) rfl (fun ls hl => ?_)
      refine lv_aload_n hx hb dX12_weigh_25 rfl (lv_at hl 1 rfl) ?_
      refine lv_iload_n hx hb dX12_weigh_26 rfl (lv_at hl 0 rfl) ?_
      refine lv_if_eq (tgt := 34) hx hb dX12_weigh_27 (by decide) (fun _ => ?_) (fun c_0 => absurd c_0 (by decide))
      refine lv_iconst (v := 4) hx hb dX12_weigh_34 (by decide) ?_
      refine hp_callMv (va_runV (As := [.int 4]) (rest := []) ⟨hx, hb, hml, hown, hts⟩ (c_X12_begins l D cy _ cs ad en (hI.1 _ (by decide)) fa hi wd mo tb dp many grt lst nou rm rb pr wo 4 es1226) (kw_X12_begins hts tw_1227 ⟨by decide, by decide⟩) (preV_of hh hK (hI.1 _ (by decide)) es1226 rfl) rfl rfl hl.1 rfl (lv_room (Nat.le_of_ble_eq_true rfl)) dX12_weigh_35 ⟨Nat.le_of_ble_eq_true rfl, Nat.le_of_ble_eq_true rfl⟩) hh hA (fun H locs en_1230 hw_1230 hh => ?_)
      have hen_1230 := hw_1230
      have es1226_1230 : en_1230 0 = .inr (11, [.int fa, .int (31 * hi + 4), .int (nI wd), .int (nI mo), .int (nI tb), .ref (ad 1), .ref (ad 2), .ref (ad 3), .ref (ad 4), .ref (ad 5), .ref (ad 6), .ref (ad 7), .ref (ad 8), .ref (ad 9), .int dp, .long many, .long grt, .long lst, .long nou, .ref (ad 10), .ref (ad 11), .ref (ad 12), .int rm, .long rb, .ref (ad 13), .int pr, .ref (ad 14), .ref (ad 15), .ref (ad 16), .ref (ad 17), .int (nI wo), .ref (ad 18), .ref (ad 19)]) := by rw [hen_1230]; exact va_up_self _ _ _
      have hI_1230 : RX cy cs ad en_1230 := by rw [hen_1230]; exact upr_M hI ⟨fa, (31 * hi + 4), wd, mo, tb, dp, many, grt, lst, nou, rm, rb, pr, wo, rfl, hwd2, hwd3, hmo, htb, hwo⟩
      have hf_1230 : ∀ c, (c ≠ 0) → en_1230 c = en c := fun c hc => Eq.trans (show en_1230 c = en c from by rw [hen_1230, va_up_ne _ _ (by omega)]) (hf0 c hc)
      have hkp_1230 : KPx en en_1230 := KPx_fv (KPx_rf en) es1226 es1226_1230 (nI wd) (nI mo) (nI tb) pr (nI wo) rfl rfl rfl rfl rfl rfl rfl rfl rfl rfl
      refine lv_iload_n hx hb dX12_weigh_38 rfl (lv_at hl 0 rfl) ?_
      refine lv_if_eq (tgt := 47) hx hb dX12_weigh_39 (by decide) (fun _ => ?_) (fun c_0 => absurd c_0 (by decide))
      refine lv_iload_n hx hb dX12_weigh_47 rfl (lv_at hl 2 rfl) ?_
      exact hp_iretM hx hb hr rfl hlocks hh (⟨hI_1230, hf_1230, hkp_1230⟩) dX12_weigh_48
    · obtain rfl : r_1228 = 2 := hb_1228
      refine lv_iconst (v := 2) hx hb dX12_weigh_15 (by decide) ?_
      refine lv_icmp_ne (tgt := 23) hx hb dX12_weigh_16 (by decide) (fun c_0 => absurd c_0 (by decide)) (fun _ => ?_)
      refine lv_iconst (v := 1) hx hb dX12_weigh_19 (by decide) ?_
      refine lv_goto (tgt := 24) hx hb dX12_weigh_20 (by decide) ?_
      refine lv_istore_n (lv' := [(2, .int 1), (0, .ref (ad 0)), (1, .int (nI T_1227))]) hx hb dX12_weigh_24 rfl hl (by decide) rfl (fun ls hl => ?_)
      refine lv_aload_n hx hb dX12_weigh_25 rfl (lv_at hl 1 rfl) ?_
      refine lv_iload_n hx hb dX12_weigh_26 rfl (lv_at hl 0 rfl) ?_
      refine lv_if_eq (tgt := 34) hx hb dX12_weigh_27 (by decide) (fun c_0 => absurd c_0 (by decide)) (fun _ => ?_)
      refine lv_iconst (v := 5) hx hb dX12_weigh_30 (by decide) ?_
      refine lv_goto (tgt := 35) hx hb dX12_weigh_31 (by decide) ?_
      refine hp_callMv (va_runV (As := [.int 5]) (rest := []) ⟨hx, hb, hml, hown, hts⟩ (c_X12_begins l D cy _ cs ad en (hI.1 _ (by decide)) fa hi wd mo tb dp many grt lst nou rm rb pr wo 5 es1226) (kw_X12_begins hts tw_1227 ⟨by decide, by decide⟩) (preV_of hh hK (hI.1 _ (by decide)) es1226 rfl) rfl rfl hl.1 rfl (lv_room (Nat.le_of_ble_eq_true rfl)) dX12_weigh_35 ⟨Nat.le_of_ble_eq_true rfl, Nat.le_of_ble_eq_true rfl⟩) hh hA (fun H locs en_1231 hw_1231 hh => ?_)
      have hen_1231 := hw_1231
      have es1226_1231 : en_1231 0 = .inr (11, [.int fa, .int (31 * hi + 5), .int (nI wd), .int (nI mo), .int (nI tb), .ref (ad 1), .ref (ad 2), .ref (ad 3), .ref (ad 4), .ref (ad 5), .ref (ad 6), .ref (ad 7), .ref (ad 8), .ref (ad 9), .int dp, .long many, .long grt, .long lst, .long nou, .ref (ad 10), .ref (ad 11), .ref (ad 12), .int rm, .long rb, .ref (ad 13), .int pr, .ref (ad 14), .ref (ad 15), .ref (ad 16), .ref (ad 17), .int (nI wo), .ref (ad 18), .ref (ad 19)]) := by rw [hen_1231]; exact va_up_self _ _ _
      have hI_1231 : RX cy cs ad en_1231 := by rw [hen_1231]; exact upr_M hI ⟨fa, (31 * hi + 5), wd, mo, tb, dp, many, grt, lst, nou, rm, rb, pr, wo, rfl, hwd2, hwd3, hmo, htb, hwo⟩
      have hf_1231 : ∀ c, (c ≠ 0) → en_1231 c = en c := fun c hc => Eq.trans (show en_1231 c = en c from by rw [hen_1231, va_up_ne _ _ (by omega)]) (hf0 c hc)
      have hkp_1231 : KPx en en_1231 := KPx_fv (KPx_rf en) es1226 es1226_1231 (nI wd) (nI mo) (nI tb) pr (nI wo) rfl rfl rfl rfl rfl rfl rfl rfl rfl rfl
      refine lv_iload_n hx hb dX12_weigh_38 rfl (lv_at hl 0 rfl) ?_
      refine lv_if_eq (tgt := 47) hx hb dX12_weigh_39 (by decide) (fun c_0 => absurd c_0 (by decide)) (fun _ => ?_)
      refine lv_bipush (v := 60) hx hb dX12_weigh_42 (by decide) ?_
      refine lv_goto (tgt := 48) hx hb dX12_weigh_44 (by decide) ?_
      exact hp_iretM hx hb hr rfl hlocks hh (⟨hI_1231, hf_1231, hkp_1231⟩) dX12_weigh_48
  · obtain rfl : r_1227 = 0 := Eq.trans hw_1227 (if_neg hp_1227)
    refine lv_if_ne (tgt := 10) hx hb dX12_weigh_5 (by decide) (fun c_0 => absurd c_0 (by decide)) (fun _ => ?_)
    refine lv_iconst (v := (-1)) hx hb dX12_weigh_8 (by decide) ?_
    exact hp_iretM hx hb hr rfl hlocks hh (⟨hI, hf0, (KPx_rf en)⟩) dX12_weigh_9
theorem kw_X12_weigh {R : Room} {s : State} {args : Array Value} {own : String} {idx : Nat} (hts : ∀ w ∈ TB, w.before args s = true) (hl : Cond.methodLink own idx yX12_weigh ∈ TB) (hR : 1 + 1 ≤ R.frames ∧ 8 + (3 + 11) + 40 * 1 ≤ R.locals) : CallW R s args own RX12 idx yX12_weigh cX12_weigh 3 (some .int) (Cond.code yX12_weigh cX12_weigh 3 (some .int) :: TB) (rmN 1) 0 0 1 := cwV 1 hts (TB_V hl tw_1240 tw_1241 tw_9 tw_1242) rfl rfl rfl (by decide +kernel) hR
set_option maxHeartbeats 4000000 in
set_option maxRecDepth 100000 in
/-- as -/
theorem c_X12_as (l : Launch) (D : va_G) (cy : Nat → ClassId) (sz : Nat) (cs : List Nat) (ad : Nat → Nat) (en : Nat → va_E) (hI : RX cy cs ad en) (t z : Int32)   : Met l yX12_as (Cond.code yX12_as cX12_as 3 (some .int) :: TB) (rmN 1) (va_Pc [.ref (ad 0), .int t, .int z] (Pre D cy cs ad en sz)) (va_Qi (S := Nat → va_E) (fun r en1 => RX cy cs ad en1 ∧ (∀ c, (c ≠ 0) → en1 c = en c) ∧ KP en en1) (PostM D cs ad) (Af cs ad sz)) 0 0 (Af cs ad sz) := by
  refine Met.ofW (cc := cX12_as) (maxL := 3) (ret := (some .int)) (by decide) rfl ?_
  intro p e s m args below meth c s₁ B hml hv
  obtain ⟨rfl, hsz, hP, hK, hD0⟩ := hv
  have hx := B.exec
  have hb := B.bytes
  have hr := B.returns
  have hts : ∀ w ∈ TB, w.before _ s = true := fun w h => atoms_spec (ws := _ :: TB) B.pre w (List.mem_cons_of_mem _ h)
  have hown : s.vm.findClass RX12 = some m.cls := findClass_of_methodNamed B.named
  have hlocks := B.notSynchronized
  have hh : Hp D (Af cs ad sz) (Af cs ad sz) s.heap s.heap [] cs ad en := ⟨hP, Af_self hD0, va_S.rf⟩
  have hA : ∀ q : Nat, s.heap.size ≤ q → Af cs ad sz q := fun q h => Or.inr (by rw [hsz] at h; exact h)
  have hl := lv_entry ([.ref (ad 0), .int t, .int z]) (n := 3) (Nat.le_of_ble_eq_true rfl)
  rw [lg_entry_eq]
  generalize (lg_sl ([.ref (ad 0), .int t, .int z]) ++ List.replicate (3 - (lg_sl ([.ref (ad 0), .int t, .int z])).length) Slot.unset).toArray = ls at hl ⊢
  have hl : lv_has ls 3 [(0, .ref (ad 0)), (1, .int t), (2, .int z)] := hl
  have hf0 : ∀ c, (c ≠ 0) → en c = en c := fun _ _ => rfl
  obtain ⟨fa, hi, wd, mo, tb, dp, many, grt, lst, nou, rm, rb, pr, wo, es1232, hwd2, hwd3, hmo, htb, hwo⟩ := getr_M hI
  refine lv_aload_n hx hb dX12_as_0 rfl (lv_at hl 0 rfl) ?_
  refine lv_iconst (v := 0) hx hb dX12_as_1 (by decide) ?_
  refine hp_put hx hb hts ix12 tyX12 tyX12_ok nmX12 hown hK hh (q := 0) rfl (hI.1 _ (by decide)) es1232 rfl 0 (by decide) (hts _ tw_879) (fun _ h9 => h9) rfl (ty := .int) (by decide +kernel) rfl rfl (Nat.le_of_ble_eq_true rfl) dX12_as_2 (fun H locs en_1233 hen_1233 hh => ?_)
  have es1232_1233 : en_1233 0 = .inr (11, [.int 0, .int hi, .int (nI wd), .int (nI mo), .int (nI tb), .ref (ad 1), .ref (ad 2), .ref (ad 3), .ref (ad 4), .ref (ad 5), .ref (ad 6), .ref (ad 7), .ref (ad 8), .ref (ad 9), .int dp, .long many, .long grt, .long lst, .long nou, .ref (ad 10), .ref (ad 11), .ref (ad 12), .int rm, .long rb, .ref (ad 13), .int pr, .ref (ad 14), .ref (ad 15), .ref (ad 16), .ref (ad 17), .int (nI wo), .ref (ad 18), .ref (ad 19)]) := by rw [hen_1233]; exact va_up_self _ _ _
  have hI_1233 : RX cy cs ad en_1233 := by rw [hen_1233]; exact upr_M hI ⟨0, hi, wd, mo, tb, dp, many, grt, lst, nou, rm, rb, pr, wo, rfl, hwd2, hwd3, hmo, htb, hwo⟩
  have hf_1233 : ∀ c, (c ≠ 0) → en_1233 c = en c := fun c hc => Eq.trans (show en_1233 c = en c from by rw [hen_1233, va_up_ne _ _ (by omega)]) (hf0 c hc)
  have hkp_1233 : KP en en_1233 := KP_fv (KP_rf en) es1232 es1232_1233 hi (nI wd) (nI mo) (nI tb) pr (nI wo) rfl rfl rfl rfl rfl rfl rfl rfl rfl rfl rfl rfl
  refine lv_aload_n hx hb dX12_as_5 rfl (lv_at hl 0 rfl) ?_
  refine lv_iload_n hx hb dX12_as_6 rfl (lv_at hl 1 rfl) ?_
  refine hp_callRi (va_runV (As := [.int t]) (rest := []) ⟨hx, hb, hml, hown, hts⟩ (c_X12_isTable l D cy _ cs ad en_1233 hI_1233 t ) (kw_X12_isTable hts tw_1007 ⟨by decide, by decide⟩) (preV_of hh hK (hI.1 _ (by decide)) es1232_1233 rfl) rfl rfl hl.1 rfl (lv_room (Nat.le_of_ble_eq_true rfl)) dX12_as_7 ⟨Nat.le_of_ble_eq_true rfl, Nat.le_of_ble_eq_true rfl⟩) hh hA (fun r_1234 H locs hw_1234 hh => ?_)
  rw [show rdI (en_1233 0) 4 = (nI tb) from by rw [es1232_1233]; rfl, nI_toInt (n := tb) (by omega)] at hw_1234
  rcases Decidable.em (0 ≤ t.toInt ∧ t.toInt < (tb : Int)) with hp_1234 | hp_1234
  · obtain rfl : r_1234 = 1 := Eq.trans hw_1234 (if_pos hp_1234)
    obtain ⟨T_1234, rfl, hT_1234⟩ := has_nat hp_1234
    refine lv_if_ne (tgt := 15) hx hb dX12_as_10 (by decide) (fun _ => ?_) (fun c_0 => absurd c_0 (by decide))
    refine lv_iload_n hx hb dX12_as_15 rfl (lv_at hl 2 rfl) ?_
    refine lv_i2l hx hb dX12_as_16 rfl ?_
    refine lv_lconst (v := 0) hx hb dX12_as_17 (by decide) ?_
    refine lv_ldc2 hx hb hown (hts _ tw_983) dX12_as_18 ?_
    refine hp_callRi (va_runS (As := [.long z.toInt64, .long 0, .long 2]) (rest := []) ⟨hx, hb, hml, hown, hts⟩ (c_X12_within l D cy _ cs ad en_1233 z.toInt64 0 2) (kw_X12_within hts tw_985 ⟨by decide, by decide⟩) (preS_of hh hK) rfl rfl hl.1 rfl (lv_room (Nat.le_of_ble_eq_true rfl)) dX12_as_21 ⟨Nat.le_of_ble_eq_true rfl, Nat.le_of_ble_eq_true rfl⟩) hh hA (fun r_1235 H locs hw_1235 hh => ?_)
    rcases Decidable.em (wi z 0 2) with hp_1235 | hp_1235
    · obtain rfl : r_1235 = 1 := Eq.trans hw_1235 (if_pos ((wj_32 (by decide) (by decide)).mpr hp_1235))
      obtain ⟨N_1235, rfl, hA_1235, hB_1235⟩ := wi_natB hp_1235 0 2 (by decide) (by decide)
      refine lv_if_ne (tgt := 30) hx hb dX12_as_24 (by decide) (fun _ => ?_) (fun c_0 => absurd c_0 (by decide))
      refine lv_aload_n hx hb dX12_as_30 rfl (lv_at hl 0 rfl) ?_
      refine lv_iload_n hx hb dX12_as_31 rfl (lv_at hl 1 rfl) ?_
      refine hp_callRi (va_runV (As := [.int (nI T_1234)]) (rest := []) ⟨hx, hb, hml, hown, hts⟩ (c_X12_kindOf l D cy _ cs ad en_1233 hI_1233 T_1234 (by omega)) (kw_X12_kindOf hts tw_1223 ⟨by decide, by decide⟩) (preV_of hh hK (hI.1 _ (by decide)) es1232_1233 rfl) rfl rfl hl.1 rfl (lv_room (Nat.le_of_ble_eq_true rfl)) dX12_as_32 ⟨Nat.le_of_ble_eq_true rfl, Nat.le_of_ble_eq_true rfl⟩) hh hA (fun r_1236 H locs hw_1236 hh => ?_)
      rcases hw_1236 with hb_1236 | hb_1236 | hb_1236
      · obtain rfl : r_1236 = 0 := hb_1236
        refine lv_iload_n hx hb dX12_as_35 rfl (lv_at hl 2 rfl) ?_
        refine lv_icmp_lt (tgt := 43) hx hb dX12_as_36 (by decide) (fun c_1237 => ?_) (fun c_1237 => ?_)
        · have n_1237 : 0 < N_1235 := n_lt (a := 0) (b := N_1235) c_1237 (by decide) (by omega)
          refine lv_aload_n hx hb dX12_as_43 rfl (lv_at hl 0 rfl) ?_
          refine lv_iconst (v := 2) hx hb dX12_as_44 (by decide) ?_
          refine hp_callMi (va_runV (As := [.int 2]) (rest := []) ⟨hx, hb, hml, hown, hts⟩ (c_X12_fails l D cy _ cs ad en_1233 (hI.1 _ (by decide)) 0 hi wd mo tb dp many grt lst nou rm rb pr wo 2 es1232_1233) (kw_X12_fails hts tw_997 ⟨by decide, by decide⟩) (preV_of hh hK (hI.1 _ (by decide)) es1232_1233 rfl) rfl rfl hl.1 rfl (lv_room (Nat.le_of_ble_eq_true rfl)) dX12_as_45 ⟨Nat.le_of_ble_eq_true rfl, Nat.le_of_ble_eq_true rfl⟩) hh hA (fun r_1238 H locs en_1238 hw_1238 hh => ?_)
          obtain ⟨hr_1238, hen_1238⟩ := hw_1238
          have es1232_1238 : en_1238 0 = .inr (11, [.int 2, .int hi, .int (nI wd), .int (nI mo), .int (nI tb), .ref (ad 1), .ref (ad 2), .ref (ad 3), .ref (ad 4), .ref (ad 5), .ref (ad 6), .ref (ad 7), .ref (ad 8), .ref (ad 9), .int dp, .long many, .long grt, .long lst, .long nou, .ref (ad 10), .ref (ad 11), .ref (ad 12), .int rm, .long rb, .ref (ad 13), .int pr, .ref (ad 14), .ref (ad 15), .ref (ad 16), .ref (ad 17), .int (nI wo), .ref (ad 18), .ref (ad 19)]) := by rw [hen_1238]; exact va_up_self _ _ _
          have hI_1238 : RX cy cs ad en_1238 := by rw [hen_1238]; exact upr_M hI_1233 ⟨2, hi, wd, mo, tb, dp, many, grt, lst, nou, rm, rb, pr, wo, rfl, hwd2, hwd3, hmo, htb, hwo⟩
          have hf_1238 : ∀ c, (c ≠ 0) → en_1238 c = en c := fun c hc => Eq.trans (show en_1238 c = en_1233 c from by rw [hen_1238, va_up_ne _ _ (by omega)]) (hf_1233 c hc)
          have hkp_1238 : KP en en_1238 := KP_fv hkp_1233 es1232_1233 es1232_1238 hi (nI wd) (nI mo) (nI tb) pr (nI wo) rfl rfl rfl rfl rfl rfl rfl rfl rfl rfl rfl rfl
          obtain rfl : r_1238 = (-12) := hr_1238.trans (by decide)
          exact hp_iretM hx hb hr rfl hlocks hh (⟨hI_1238, hf_1238, hkp_1238⟩) dX12_as_48
        · have n_1237 : N_1235 ≤ 0 := n_nlt (a := 0) (b := N_1235) c_1237 (by decide) (by omega)
          refine lv_iconst (v := 1) hx hb dX12_as_39 (by decide) ?_
          refine lv_goto (tgt := 48) hx hb dX12_as_40 (by decide) ?_
          exact hp_iretM hx hb hr rfl hlocks hh (⟨hI_1233, hf_1233, hkp_1233⟩) dX12_as_48
      · obtain rfl : r_1236 = 1 := hb_1236
        refine lv_iload_n hx hb dX12_as_35 rfl (lv_at hl 2 rfl) ?_
        refine lv_icmp_lt (tgt := 43) hx hb dX12_as_36 (by decide) (fun c_1239 => ?_) (fun c_1239 => ?_)
        · have n_1239 : 1 < N_1235 := n_lt (a := 1) (b := N_1235) c_1239 (by decide) (by omega)
          refine lv_aload_n hx hb dX12_as_43 rfl (lv_at hl 0 rfl) ?_
          refine lv_iconst (v := 2) hx hb dX12_as_44 (by decide) ?_
          refine hp_callMi (va_runV (As := [.int 2]) (rest := []) ⟨hx, hb, hml, hown, hts⟩ (c_X12_fails l D cy _ cs ad en_1233 (hI.1 _ (by decide)) 0 hi wd mo tb dp many grt lst nou rm rb pr wo 2 es1232_1233) (kw_X12_fails hts tw_997 ⟨by decide, by decide⟩) (preV_of hh hK (hI.1 _ (by decide)) es1232_1233 rfl) rfl rfl hl.1 rfl (lv_room (Nat.le_of_ble_eq_true rfl)) dX12_as_45 ⟨Nat.le_of_ble_eq_true rfl, Nat.le_of_ble_eq_true rfl⟩) hh hA (fun r_1240 H locs en_1240 hw_1240 hh => ?_)
          obtain ⟨hr_1240, hen_1240⟩ := hw_1240
          have es1232_1240 : en_1240 0 = .inr (11, [.int 2, .int hi, .int (nI wd), .int (nI mo), .int (nI tb), .ref (ad 1), .ref (ad 2), .ref (ad 3), .ref (ad 4), .ref (ad 5), .ref (ad 6), .ref (ad 7), .ref (ad 8), .ref (ad 9), .int dp, .long many, .long grt, .long lst, .long nou, .ref (ad 10), .ref (ad 11), .ref (ad 12), .int rm, .long rb, .ref (ad 13), .int pr, .ref (ad 14), .ref (ad 15), .ref (ad 16), .ref (ad 17), .int (nI wo), .ref (ad 18), .ref (ad 19)]) := by rw [hen_1240]; exact va_up_self _ _ _
          have hI_1240 : RX cy cs ad en_1240 := by rw [hen_1240]; exact upr_M hI_1233 ⟨2, hi, wd, mo, tb, dp, many, grt, lst, nou, rm, rb, pr, wo, rfl, hwd2, hwd3, hmo, htb, hwo⟩
          have hf_1240 : ∀ c, (c ≠ 0) → en_1240 c = en c := fun c hc => Eq.trans (show en_1240 c = en_1233 c from by rw [hen_1240, va_up_ne _ _ (by omega)]) (hf_1233 c hc)
          have hkp_1240 : KP en en_1240 := KP_fv hkp_1233 es1232_1233 es1232_1240 hi (nI wd) (nI mo) (nI tb) pr (nI wo) rfl rfl rfl rfl rfl rfl rfl rfl rfl rfl rfl rfl
          obtain rfl : r_1240 = (-12) := hr_1240.trans (by decide)
          exact hp_iretM hx hb hr rfl hlocks hh (⟨hI_1240, hf_1240, hkp_1240⟩) dX12_as_48
        · have n_1239 : N_1235 ≤ 1 := n_nlt (a := 1) (b := N_1235) c_1239 (by decide) (by omega)
          refine lv_iconst (v := 1) hx hb dX12_as_39 (by decide) ?_
          refine lv_goto (tgt := 48) hx hb dX12_as_40 (by decide) ?_
          exact hp_iretM hx hb hr rfl hlocks hh (⟨hI_1233, hf_1233, hkp_1233⟩) dX12_as_48
      · obtain rfl : r_1236 = 2 := hb_1236
        refine lv_iload_n hx hb dX12_as_35 rfl (lv_at hl 2 rfl) ?_
        refine lv_icmp_lt (tgt := 43) hx hb dX12_as_36 (by decide) (fun c_1241 => ?_) (fun c_1241 => ?_)
        · have n_1241 : 2 < N_1235 := n_lt (a := 2) (b := N_1235) c_1241 (by decide) (by omega)
          refine lv_aload_n hx hb dX12_as_43 rfl (lv_at hl 0 rfl) ?_
          refine lv_iconst (v := 2) hx hb dX12_as_44 (by decide) ?_
          refine hp_callMi (va_runV (As := [.int 2]) (rest := []) ⟨hx, hb, hml, hown, hts⟩ (c_X12_fails l D cy _ cs ad en_1233 (hI.1 _ (by decide)) 0 hi wd mo tb dp many grt lst nou rm rb pr wo 2 es1232_1233) (kw_X12_fails hts tw_997 ⟨by decide, by decide⟩) (preV_of hh hK (hI.1 _ (by decide)) es1232_1233 rfl) rfl rfl hl.1 rfl (lv_room (Nat.le_of_ble_eq_true rfl)) dX12_as_45 ⟨Nat.le_of_ble_eq_true rfl, Nat.le_of_ble_eq_true rfl⟩) hh hA (fun r_1242 H locs en_1242 hw_1242 hh => ?_)
          obtain ⟨hr_1242, hen_1242⟩ := hw_1242
          have es1232_1242 : en_1242 0 = .inr (11, [.int 2, .int hi, .int (nI wd), .int (nI mo), .int (nI tb), .ref (ad 1), .ref (ad 2), .ref (ad 3), .ref (ad 4), .ref (ad 5), .ref (ad 6), .ref (ad 7), .ref (ad 8), .ref (ad 9), .int dp, .long many, .long grt, .long lst, .long nou, .ref (ad 10), .ref (ad 11), .ref (ad 12), .int rm, .long rb, .ref (ad 13), .int pr, .ref (ad 14), .ref (ad 15), .ref (ad 16), .ref (ad 17), .int (nI wo), .ref (ad 18), .ref (ad 19)]) := by rw [hen_1242]; exact va_up_self _ _ _
          have hI_1242 : RX cy cs ad en_1242 := by rw [hen_1242]; exact upr_M hI_1233 ⟨2, hi, wd, mo, tb, dp, many, grt, lst, nou, rm, rb, pr, wo, rfl, hwd2, hwd3, hmo, htb, hwo⟩
          have hf_1242 : ∀ c, (c ≠ 0) → en_1242 c = en c := fun c hc => Eq.trans (show en_1242 c = en_1233 c from by rw [hen_1242, va_up_ne _ _ (by omega)]) (hf_1233 c hc)
          have hkp_1242 : KP en en_1242 := KP_fv hkp_1233 es1232_1233 es1232_1242 hi (nI wd) (nI mo) (nI tb) pr (nI wo) rfl rfl rfl rfl rfl rfl rfl rfl rfl rfl rfl rfl
          obtain rfl : r_1242 = (-12) := hr_1242.trans (by decide)
          exact hp_iretM hx hb hr rfl hlocks hh (⟨hI_1242, hf_1242, hkp_1242⟩) dX12_as_48
        · have n_1241 : N_1235 ≤ 2 := n_nlt (a := 2) (b := N_1235) c_1241 (by decide) (by omega)
          refine lv_iconst (v := 1) hx hb dX12_as_39 (by decide) ?_
          refine lv_goto (tgt := 48) hx hb dX12_as_40 (by decide) ?_
          exact hp_iretM hx hb hr rfl hlocks hh (⟨hI_1233, hf_1233, hkp_1233⟩) dX12_as_48
    · obtain rfl : r_1235 = 0 := Eq.trans hw_1235 (if_neg (fun q => hp_1235 ((wj_32 (by decide) (by decide)).mp q)))
      refine lv_if_ne (tgt := 30) hx hb dX12_as_24 (by decide) (fun c_0 => absurd c_0 (by decide)) (fun _ => ?_)
      refine lv_bipush (v := (-2)) hx hb dX12_as_27 (by decide) ?_
      exact hp_iretM hx hb hr rfl hlocks hh (⟨hI_1233, hf_1233, hkp_1233⟩) dX12_as_29
  · obtain rfl : r_1234 = 0 := Eq.trans hw_1234 (if_neg hp_1234)
    refine lv_if_ne (tgt := 15) hx hb dX12_as_10 (by decide) (fun c_0 => absurd c_0 (by decide)) (fun _ => ?_)
    refine lv_iconst (v := (-1)) hx hb dX12_as_13 (by decide) ?_
    exact hp_iretM hx hb hr rfl hlocks hh (⟨hI_1233, hf_1233, hkp_1233⟩) dX12_as_14
theorem kw_X12_as {R : Room} {s : State} {args : Array Value} {own : String} {idx : Nat} (hts : ∀ w ∈ TB, w.before args s = true) (hl : Cond.methodLink own idx yX12_as ∈ TB) (hR : 1 + 1 ≤ R.frames ∧ 8 + (3 + 11) + 40 * 1 ≤ R.locals) : CallW R s args own RX12 idx yX12_as cX12_as 3 (some .int) (Cond.code yX12_as cX12_as 3 (some .int) :: TB) (rmN 1) 0 0 2 := cwV 2 hts (TB_V hl tw_1244 tw_1245 tw_9 tw_1246) rfl rfl rfl (by decide +kernel) hR
set_option maxHeartbeats 4000000 in
set_option maxRecDepth 100000 in
/-- history -/
theorem c_X12_history (l : Launch) (D : va_G) (cy : Nat → ClassId) (sz : Nat) (cs : List Nat) (ad : Nat → Nat) (en : Nat → va_E) (hI : RX cy cs ad en)    : Met l yX12_history (Cond.code yX12_history cX12_history 1 (some .int) :: TB) (rmN 0) (va_Pc [.ref (ad 0)] (Pre D cy cs ad en sz)) (va_Qi (S := Unit) (fun _ _ => True) (fun _ _ => True) (Nf sz)) 0 0 (Nf sz) := by
  refine Met.ofW (cc := cX12_history) (maxL := 1) (ret := (some .int)) (by decide) rfl ?_
  intro p e s m args below meth c s₁ B hml hv
  obtain ⟨rfl, hsz, hP, hK, hD0⟩ := hv
  have hx := B.exec
  have hb := B.bytes
  have hr := B.returns
  have hts : ∀ w ∈ TB, w.before _ s = true := fun w h => atoms_spec (ws := _ :: TB) B.pre w (List.mem_cons_of_mem _ h)
  have hown : s.vm.findClass RX12 = some m.cls := findClass_of_methodNamed B.named
  have hlocks := B.notSynchronized
  have hh : Hp D (Nf sz) (fun _ => True) s.heap s.heap [] cs ad en := ⟨hP, hD0, va_S.rf⟩
  have hA : ∀ q : Nat, s.heap.size ≤ q → Nf sz q := fun q h => by rw [hsz] at h; exact h
  have hl := lv_entry ([.ref (ad 0)]) (n := 1) (Nat.le_of_ble_eq_true rfl)
  rw [lg_entry_eq]
  generalize (lg_sl ([.ref (ad 0)]) ++ List.replicate (1 - (lg_sl ([.ref (ad 0)])).length) Slot.unset).toArray = ls at hl ⊢
  have hl : lv_has ls 1 [(0, .ref (ad 0))] := hl
  obtain ⟨fa, hi, wd, mo, tb, dp, many, grt, lst, nou, rm, rb, pr, wo, es1243, hwd2, hwd3, hmo, htb, hwo⟩ := getr_M hI
  refine lv_aload_n hx hb dX12_history_0 rfl (lv_at hl 0 rfl) ?_
  refine hp_get hx hb hts ix12 hown hK hh (q := 0) rfl (hI.1 _ (by decide)) es1243 rfl 1 (by decide) (hts _ tw_880) (fun _ h9 => h9) rfl dX12_history_1 ?_
  exact hp_iretR hx hb hr rfl hlocks hsz hh (trivial) dX12_history_4
theorem kw_X12_history {R : Room} {s : State} {args : Array Value} {own : String} {idx : Nat} (hts : ∀ w ∈ TB, w.before args s = true) (hl : Cond.methodLink own idx yX12_history ∈ TB) (hR : 0 + 1 ≤ R.frames ∧ 8 + (1 + 11) + 40 * 0 ≤ R.locals) : CallW R s args own RX12 idx yX12_history cX12_history 1 (some .int) (Cond.code yX12_history cX12_history 1 (some .int) :: TB) (rmN 0) 0 0 0 := cwV 0 hts (TB_V hl tw_1248 tw_1249 tw_9 tw_1250) rfl rfl rfl (by decide +kernel) hR
set_option maxHeartbeats 4000000 in
set_option maxRecDepth 100000 in
/-- fault -/
theorem c_X12_fault (l : Launch) (D : va_G) (cy : Nat → ClassId) (sz : Nat) (cs : List Nat) (ad : Nat → Nat) (en : Nat → va_E) (hI : RX cy cs ad en)    : Met l yX12_fault (Cond.code yX12_fault cX12_fault 1 (some .int) :: TB) (rmN 0) (va_Pc [.ref (ad 0)] (Pre D cy cs ad en sz)) (va_Qi (S := Unit) (fun _ _ => True) (fun _ _ => True) (Nf sz)) 0 0 (Nf sz) := by
  refine Met.ofW (cc := cX12_fault) (maxL := 1) (ret := (some .int)) (by decide) rfl ?_
  intro p e s m args below meth c s₁ B hml hv
  obtain ⟨rfl, hsz, hP, hK, hD0⟩ := hv
  have hx := B.exec
  have hb := B.bytes
  have hr := B.returns
  have hts : ∀ w ∈ TB, w.before _ s = true := fun w h => atoms_spec (ws := _ :: TB) B.pre w (List.mem_cons_of_mem _ h)
  have hown : s.vm.findClass RX12 = some m.cls := findClass_of_methodNamed B.named
  have hlocks := B.notSynchronized
  have hh : Hp D (Nf sz) (fun _ => True) s.heap s.heap [] cs ad en := ⟨hP, hD0, va_S.rf⟩
  have hA : ∀ q : Nat, s.heap.size ≤ q → Nf sz q := fun q h => by rw [hsz] at h; exact h
  have hl := lv_entry ([.ref (ad 0)]) (n := 1) (Nat.le_of_ble_eq_true rfl)
  rw [lg_entry_eq]
  generalize (lg_sl ([.ref (ad 0)]) ++ List.replicate (1 - (lg_sl ([.ref (ad 0)])).length) Slot.unset).toArray = ls at hl ⊢
  have hl : lv_has ls 1 [(0, .ref (ad 0))] := hl
  obtain ⟨fa, hi, wd, mo, tb, dp, many, grt, lst, nou, rm, rb, pr, wo, es1244, hwd2, hwd3, hmo, htb, hwo⟩ := getr_M hI
  refine lv_aload_n hx hb dX12_fault_0 rfl (lv_at hl 0 rfl) ?_
  refine hp_get hx hb hts ix12 hown hK hh (q := 0) rfl (hI.1 _ (by decide)) es1244 rfl 0 (by decide) (hts _ tw_879) (fun _ h9 => h9) rfl dX12_fault_1 ?_
  exact hp_iretR hx hb hr rfl hlocks hsz hh (trivial) dX12_fault_4
theorem kw_X12_fault {R : Room} {s : State} {args : Array Value} {own : String} {idx : Nat} (hts : ∀ w ∈ TB, w.before args s = true) (hl : Cond.methodLink own idx yX12_fault ∈ TB) (hR : 0 + 1 ≤ R.frames ∧ 8 + (1 + 11) + 40 * 0 ≤ R.locals) : CallW R s args own RX12 idx yX12_fault cX12_fault 1 (some .int) (Cond.code yX12_fault cX12_fault 1 (some .int) :: TB) (rmN 0) 0 0 0 := cwV 0 hts (TB_V hl tw_1252 tw_1253 tw_9 tw_1254) rfl rfl rfl (by decide +kernel) hR
set_option maxHeartbeats 4000000 in
set_option maxRecDepth 100000 in
/-- told -/
theorem c_X12_told (l : Launch) (D : va_G) (cy : Nat → ClassId) (sz : Nat) (cs : List Nat) (ad : Nat → Nat) (en : Nat → va_E) (hI : RX cy cs ad en) (z : Int32)   : Met l yX12_told (Cond.code yX12_told cX12_told 5 (some .int) :: TB) (rmN 1) (va_Pc [.ref (ad 0), .int z] (Pre D cy cs ad en sz)) (va_Qi (S := Unit) (fun _ _ => True) (fun _ _ => True) (Nf sz)) 0 0 (Nf sz) := by
  refine Met.ofW (cc := cX12_told) (maxL := 5) (ret := (some .int)) (by decide) rfl ?_
  intro p e s m args below meth c s₁ B hml hv
  obtain ⟨rfl, hsz, hP, hK, hD0⟩ := hv
  have hx := B.exec
  have hb := B.bytes
  have hr := B.returns
  have hts : ∀ w ∈ TB, w.before _ s = true := fun w h => atoms_spec (ws := _ :: TB) B.pre w (List.mem_cons_of_mem _ h)
  have hown : s.vm.findClass RX12 = some m.cls := findClass_of_methodNamed B.named
  have hlocks := B.notSynchronized
  have hh : Hp D (Nf sz) (fun _ => True) s.heap s.heap [] cs ad en := ⟨hP, hD0, va_S.rf⟩
  have hA : ∀ q : Nat, s.heap.size ≤ q → Nf sz q := fun q h => by rw [hsz] at h; exact h
  have hl := lv_entry ([.ref (ad 0), .int z]) (n := 5) (Nat.le_of_ble_eq_true rfl)
  rw [lg_entry_eq]
  generalize (lg_sl ([.ref (ad 0), .int z]) ++ List.replicate (5 - (lg_sl ([.ref (ad 0), .int z])).length) Slot.unset).toArray = ls at hl ⊢
  have hl : lv_has ls 5 [(0, .ref (ad 0)), (1, .int z)] := hl
  obtain ⟨fa, hi, wd, mo, tb, dp, many, grt, lst, nou, rm, rb, pr, wo, es1245, hwd2, hwd3, hmo, htb, hwo⟩ := getr_M hI
  refine lv_iload_n hx hb dX12_told_0 rfl (lv_at hl 1 rfl) ?_
  by_cases q_1246_0 : z = 0
  · refine lv_tableIn (off := 35) (tgt := 36) hx hb dX12_told_1 (by rw [q_1246_0]; decide) (by rw [q_1246_0]; decide) (by rw [q_1246_0]; decide) (by decide) ?_
    refine lv_aload_n hx hb dX12_told_36 rfl (lv_at hl 0 rfl) ?_
    refine hp_get hx hb hts ix12 hown hK hh (q := 0) rfl (hI.1 _ (by decide)) es1245 rfl 4 (by decide) (hts _ tw_883) (fun _ h9 => h9) rfl dX12_told_37 ?_
    exact hp_iretR hx hb hr rfl hlocks hsz hh (trivial) dX12_told_40
  by_cases q_1246_1 : z = 1
  · refine lv_tableIn (off := 40) (tgt := 41) hx hb dX12_told_1 (by rw [q_1246_1]; decide) (by rw [q_1246_1]; decide) (by rw [q_1246_1]; decide) (by decide) ?_
    refine lv_aload_n hx hb dX12_told_41 rfl (lv_at hl 0 rfl) ?_
    refine hp_get hx hb hts ix12 hown hK hh (q := 0) rfl (hI.1 _ (by decide)) es1245 rfl 2 (by decide) (hts _ tw_881) (fun _ h9 => h9) rfl dX12_told_42 ?_
    exact hp_iretR hx hb hr rfl hlocks hsz hh (trivial) dX12_told_45
  by_cases q_1246_2 : z = 2
  · refine lv_tableIn (off := 45) (tgt := 46) hx hb dX12_told_1 (by rw [q_1246_2]; decide) (by rw [q_1246_2]; decide) (by rw [q_1246_2]; decide) (by decide) ?_
    refine lv_aload_n hx hb dX12_told_46 rfl (lv_at hl 0 rfl) ?_
    refine hp_get hx hb hts ix12 hown hK hh (q := 0) rfl (hI.1 _ (by decide)) es1245 rfl 3 (by decide) (hts _ tw_882) (fun _ h9 => h9) rfl dX12_told_47 ?_
    exact hp_iretR hx hb hr rfl hlocks hsz hh (trivial) dX12_told_50
  by_cases q_1246_3 : z = 3
  · refine lv_tableIn (off := 50) (tgt := 51) hx hb dX12_told_1 (by rw [q_1246_3]; decide) (by rw [q_1246_3]; decide) (by rw [q_1246_3]; decide) (by decide) ?_
    refine lv_aload_n hx hb dX12_told_51 rfl (lv_at hl 0 rfl) ?_
    refine hp_get hx hb hts ix12 hown hK hh (q := 0) rfl (hI.1 _ (by decide)) es1245 rfl 30 (by decide) (hts _ tw_909) (fun _ h9 => h9) rfl dX12_told_52 ?_
    exact hp_iretR hx hb hr rfl hlocks hsz hh (trivial) dX12_told_55
  by_cases q_1246_4 : z = 4
  · refine lv_tableIn (off := 55) (tgt := 56) hx hb dX12_told_1 (by rw [q_1246_4]; decide) (by rw [q_1246_4]; decide) (by rw [q_1246_4]; decide) (by decide) ?_
    refine lv_iconst (v := 0) hx hb dX12_told_56 (by decide) ?_
    refine lv_istore_n (lv' := [(2, .int 0), (0, .ref (ad 0)), (1, .int z)]) hx hb dX12_told_57 rfl hl (by decide) rfl (fun ls hl => ?_)
    refine lv_iconst (v := 0) hx hb dX12_told_58 (by decide) ?_
    refine lv_istore_n (lv' := [(3, .int 0), (2, .int 0), (0, .ref (ad 0)), (1, .int z)]) hx hb dX12_told_59 rfl hl (by decide) rfl (fun ls hl => ?_)
    have loop_1247 : ∀ (fu j1247 : Nat) (ac1247 : Int32)  (ls : Array Slot) (H : Heap) (locs : List Loc), 0 ≤ j1247 → j1247 ≤ tb → tb < j1247 + fu →   lv_has ls 5 [(3, .int (nI j1247)), (2, .int ac1247), (0, .ref (ad 0)), (1, .int z)] → Hp D (Nf sz) (fun _ => True) s.heap H locs cs ad en → W p l e (headSpec (Cond.code yX12_told cX12_told 5 (some .int) :: TB) (rmN 1)).room s m ([.ref (ad 0), .int z] : List Value).toArray below meth c H locs 0 0 (MQ below (va_Qi (S := Unit) (fun _ _ => True) (fun _ _ => True) (Nf sz)) ([.ref (ad 0), .int z] : List Value).toArray s 0 0 (Nf sz)) (F0 m 60 ls []) := by
      intro fu
      induction fu with
      | zero => intro j1247 ac1247 ls H locs h0 h1 h2; exact absurd h2 (by omega)
      | succ fu ih_1247 =>
        intro j1247 ac1247 ls H locs hj0_1247 hj_1247 hfu_1247  hl hh
        refine lv_iload_n hx hb dX12_told_60 rfl (lv_at hl 0 rfl) ?_
        refine lv_aload_n hx hb dX12_told_61 rfl (lv_at hl 2 rfl) ?_
        refine hp_get hx hb hts ix12 hown hK hh (q := 0) rfl (hI.1 _ (by decide)) es1245 rfl 4 (by decide) (hts _ tw_883) (fun _ h9 => h9) rfl dX12_told_62 ?_
        refine lv_icmp_ge (tgt := 110) hx hb dX12_told_65 (by decide) (fun c_1248 => ?_) (fun c_1248 => ?_)
        · have n_1248 : tb ≤ j1247 := n_le (a := tb) (b := j1247) c_1248 (by omega) (by omega)
          refine lv_iload_n hx hb dX12_told_110 rfl (lv_at hl 1 rfl) ?_
          exact hp_iretR hx hb hr rfl hlocks hsz hh (trivial) dX12_told_111
        · have n_1248 : j1247 < tb := n_nle (a := tb) (b := j1247) c_1248 (by omega) (by omega)
          refine lv_iconst (v := 0) hx hb dX12_told_68 (by decide) ?_
          refine lv_istore (lv' := [(4, .int 0), (3, .int (nI j1247)), (2, .int ac1247), (0, .ref (ad 0)), (1, .int z)]) hx hb dX12_told_69 hl (by decide) rfl (fun ls hl => ?_)
          have loop_1249 : ∀ (fu j1249 : Nat) (ac1249 : Int32)  (ls : Array Slot) (H : Heap) (locs : List Loc), 0 ≤ j1249 → j1249 ≤ tb → tb < j1249 + fu →   lv_has ls 5 [(4, .int (nI j1249)), (3, .int (nI j1247)), (2, .int ac1249), (0, .ref (ad 0)), (1, .int z)] → Hp D (Nf sz) (fun _ => True) s.heap H locs cs ad en → W p l e (headSpec (Cond.code yX12_told cX12_told 5 (some .int) :: TB) (rmN 1)).room s m ([.ref (ad 0), .int z] : List Value).toArray below meth c H locs 0 0 (MQ below (va_Qi (S := Unit) (fun _ _ => True) (fun _ _ => True) (Nf sz)) ([.ref (ad 0), .int z] : List Value).toArray s 0 0 (Nf sz)) (F0 m 71 ls []) := by
            intro fu
            induction fu with
            | zero => intro j1249 ac1249 ls H locs h0 h1 h2; exact absurd h2 (by omega)
            | succ fu ih_1249 =>
              intro j1249 ac1249 ls H locs hj0_1249 hj_1249 hfu_1249  hl hh
              refine lv_iload hx hb dX12_told_71 (lv_at hl 0 rfl) ?_
              refine lv_aload_n hx hb dX12_told_73 rfl (lv_at hl 3 rfl) ?_
              refine hp_get hx hb hts ix12 hown hK hh (q := 0) rfl (hI.1 _ (by decide)) es1245 rfl 4 (by decide) (hts _ tw_883) (fun _ h9 => h9) rfl dX12_told_74 ?_
              refine lv_icmp_ge (tgt := 104) hx hb dX12_told_77 (by decide) (fun c_1250 => ?_) (fun c_1250 => ?_)
              · have n_1250 : tb ≤ j1249 := n_le (a := tb) (b := j1249) c_1250 (by omega) (by omega)
                refine lv_iinc (v := (nI (j1247 + 1))) (lv' := [(3, .int (nI (j1247 + 1))), (4, .int (nI j1249)), (2, .int ac1249), (0, .ref (ad 0)), (1, .int z)]) hx hb dX12_told_104 hl (k := 1) rfl (nI_1 _) (by decide) rfl (fun ls hl => ?_)
                refine lv_goto (tgt := 60) hx hb dX12_told_107 (by decide) ?_
                exact ih_1247 ((j1247 + 1)) ac1249 ls H locs (by omega) (by omega) (by omega)  (lv_sub hl [0, 2, 3, 4] rfl) hh
              · have n_1250 : j1249 < tb := n_nle (a := tb) (b := j1249) c_1250 (by omega) (by omega)
                refine lv_iload_n hx hb dX12_told_80 rfl (lv_at hl 2 rfl) ?_
                refine lv_aload_n hx hb dX12_told_81 rfl (lv_at hl 3 rfl) ?_
                refine lv_iload_n hx hb dX12_told_82 rfl (lv_at hl 1 rfl) ?_
                refine lv_iload hx hb dX12_told_83 (lv_at hl 0 rfl) ?_
                refine hp_callRi (va_runV (As := [.int (nI j1247), .int (nI j1249)]) (rest := [.int ac1249]) ⟨hx, hb, hml, hown, hts⟩ (c_X12_mayFollow l D cy _ cs ad en hI j1247 j1249 (by omega) (by omega)) (kw_X12_mayFollow hts tw_1029 ⟨by decide, by decide⟩) (preV_of hh hK (hI.1 _ (by decide)) es1245 rfl) rfl rfl hl.1 rfl (lv_room (Nat.le_of_ble_eq_true rfl)) dX12_told_85 ⟨Nat.le_of_ble_eq_true rfl, Nat.le_of_ble_eq_true rfl⟩) hh hA (fun r_1251 H locs hw_1251 hh => ?_)
                rcases Decidable.em (rdF (en 2) (6 * j1247 + j1249) = 0) with hp_1251 | hp_1251
                · obtain rfl : r_1251 = 1 := Eq.trans hw_1251 (if_pos hp_1251)
                  refine lv_if_eq (tgt := 95) hx hb dX12_told_88 (by decide) (fun c_0 => absurd c_0 (by decide)) (fun _ => ?_)
                  refine lv_iconst (v := 1) hx hb dX12_told_91 (by decide) ?_
                  refine lv_goto (tgt := 96) hx hb dX12_told_92 (by decide) ?_
                  refine lv_iadd hx hb dX12_told_96 ?_
                  refine lv_istore_n (lv' := [(2, .int (ac1249 + 1)), (4, .int (nI j1249)), (3, .int (nI j1247)), (0, .ref (ad 0)), (1, .int z)]) hx hb dX12_told_97 rfl hl (by decide) rfl (fun ls hl => ?_)
                  refine lv_iinc (v := (nI (j1249 + 1))) (lv' := [(4, .int (nI (j1249 + 1))), (2, .int (ac1249 + 1)), (3, .int (nI j1247)), (0, .ref (ad 0)), (1, .int z)]) hx hb dX12_told_98 hl (k := 1) rfl (nI_1 _) (by decide) rfl (fun ls hl => ?_)
                  refine lv_goto (tgt := 71) hx hb dX12_told_101 (by decide) ?_
                  exact ih_1249 ((j1249 + 1)) (ac1249 + 1) ls H locs (by omega) (by omega) (by omega)  (lv_sub hl [0, 2, 1, 3, 4] rfl) hh
                · obtain rfl : r_1251 = 0 := Eq.trans hw_1251 (if_neg hp_1251)
                  refine lv_if_eq (tgt := 95) hx hb dX12_told_88 (by decide) (fun _ => ?_) (fun c_0 => absurd c_0 (by decide))
                  refine lv_iconst (v := 0) hx hb dX12_told_95 (by decide) ?_
                  refine lv_iadd hx hb dX12_told_96 ?_
                  refine lv_istore_n (lv' := [(2, .int (ac1249 + 0)), (4, .int (nI j1249)), (3, .int (nI j1247)), (0, .ref (ad 0)), (1, .int z)]) hx hb dX12_told_97 rfl hl (by decide) rfl (fun ls hl => ?_)
                  refine lv_iinc (v := (nI (j1249 + 1))) (lv' := [(4, .int (nI (j1249 + 1))), (2, .int (ac1249 + 0)), (3, .int (nI j1247)), (0, .ref (ad 0)), (1, .int z)]) hx hb dX12_told_98 hl (k := 1) rfl (nI_1 _) (by decide) rfl (fun ls hl => ?_)
                  refine lv_goto (tgt := 71) hx hb dX12_told_101 (by decide) ?_
                  exact ih_1249 ((j1249 + 1)) (ac1249 + 0) ls H locs (by omega) (by omega) (by omega)  (lv_sub hl [0, 2, 1, 3, 4] rfl) hh
          exact loop_1249 (tb + 1) 0 ac1247 ls _ _ (Nat.le_refl _) (by omega) (by omega)  (lv_sub hl [0, 1, 2, 3, 4] rfl) hh
    exact loop_1247 (tb + 1) 0 0 ls _ _ (Nat.le_refl _) (by omega) (by omega)  (lv_sub hl [0, 1, 2, 3] rfl) hh
  refine lv_tableOut (tgt := 112) hx hb dX12_told_1 (tb_out 5 (by decide) (by decide) (fun j hj => by rcases (show j = 0 ∨ j = 1 ∨ j = 2 ∨ j = 3 ∨ j = 4 by omega) with rfl | rfl | rfl | rfl | rfl <;> first | exact lv_neT q_1246_0 (by decide) | exact lv_neT q_1246_1 (by decide) | exact lv_neT q_1246_2 (by decide) | exact lv_neT q_1246_3 (by decide) | exact lv_neT q_1246_4 (by decide))) (by decide) ?_
  refine lv_bipush (v := (-2)) hx hb dX12_told_112 (by decide) ?_
  exact hp_iretR hx hb hr rfl hlocks hsz hh (trivial) dX12_told_114
theorem kw_X12_told {R : Room} {s : State} {args : Array Value} {own : String} {idx : Nat} (hts : ∀ w ∈ TB, w.before args s = true) (hl : Cond.methodLink own idx yX12_told ∈ TB) (hR : 1 + 1 ≤ R.frames ∧ 8 + (5 + 11) + 40 * 1 ≤ R.locals) : CallW R s args own RX12 idx yX12_told cX12_told 5 (some .int) (Cond.code yX12_told cX12_told 5 (some .int) :: TB) (rmN 1) 0 0 1 := cwV 1 hts (TB_V hl tw_1256 tw_1257 tw_9 tw_1258) rfl rfl rfl (by decide +kernel) hR
set_option maxHeartbeats 4000000 in
set_option maxRecDepth 100000 in
/-- letter -/
theorem c_X12_letter (l : Launch) (D : va_G) (cy : Nat → ClassId) (sz : Nat) (cs : List Nat) (ad : Nat → Nat) (en : Nat → va_E) (hI : RX cy cs ad en) (w i9 : Int32)   : Met l yX12_letter (Cond.code yX12_letter cX12_letter 3 (some .int) :: TB) (rmN 1) (va_Pc [.ref (ad 0), .int w, .int i9] (Pre D cy cs ad en sz)) (va_Qi (S := Unit) (fun _ _ => True) (fun _ _ => True) (Nf sz)) 0 0 (Nf sz) := by
  refine Met.ofW (cc := cX12_letter) (maxL := 3) (ret := (some .int)) (by decide) rfl ?_
  intro p e s m args below meth c s₁ B hml hv
  obtain ⟨rfl, hsz, hP, hK, hD0⟩ := hv
  have hx := B.exec
  have hb := B.bytes
  have hr := B.returns
  have hts : ∀ w ∈ TB, w.before _ s = true := fun w h => atoms_spec (ws := _ :: TB) B.pre w (List.mem_cons_of_mem _ h)
  have hown : s.vm.findClass RX12 = some m.cls := findClass_of_methodNamed B.named
  have hlocks := B.notSynchronized
  have hh : Hp D (Nf sz) (fun _ => True) s.heap s.heap [] cs ad en := ⟨hP, hD0, va_S.rf⟩
  have hA : ∀ q : Nat, s.heap.size ≤ q → Nf sz q := fun q h => by rw [hsz] at h; exact h
  have hl := lv_entry ([.ref (ad 0), .int w, .int i9]) (n := 3) (Nat.le_of_ble_eq_true rfl)
  rw [lg_entry_eq]
  generalize (lg_sl ([.ref (ad 0), .int w, .int i9]) ++ List.replicate (3 - (lg_sl ([.ref (ad 0), .int w, .int i9])).length) Slot.unset).toArray = ls at hl ⊢
  have hl : lv_has ls 3 [(0, .ref (ad 0)), (1, .int w), (2, .int i9)] := hl
  obtain ⟨fa, hi, wd, mo, tb, dp, many, grt, lst, nou, rm, rb, pr, wo, es1252, hwd2, hwd3, hmo, htb, hwo⟩ := getr_M hI
  refine lv_aload_n hx hb dX12_letter_0 rfl (lv_at hl 0 rfl) ?_
  refine lv_iload_n hx hb dX12_letter_1 rfl (lv_at hl 1 rfl) ?_
  refine hp_callRi (va_runV (As := [.int w]) (rest := []) ⟨hx, hb, hml, hown, hts⟩ (c_X12_isWord l D cy _ cs ad en hI w ) (kw_X12_isWord hts tw_1175 ⟨by decide, by decide⟩) (preV_of hh hK (hI.1 _ (by decide)) es1252 rfl) rfl rfl hl.1 rfl (lv_room (Nat.le_of_ble_eq_true rfl)) dX12_letter_2 ⟨Nat.le_of_ble_eq_true rfl, Nat.le_of_ble_eq_true rfl⟩) hh hA (fun r_1253 H locs hw_1253 hh => ?_)
  rw [show rdI (en 0) 30 = (nI wo) from by rw [es1252]; rfl, nI_toInt (n := wo) (by omega)] at hw_1253
  rcases Decidable.em (0 ≤ w.toInt ∧ w.toInt < (wo : Int)) with hp_1253 | hp_1253
  · obtain rfl : r_1253 = 1 := Eq.trans hw_1253 (if_pos hp_1253)
    obtain ⟨T_1253, rfl, hT_1253⟩ := has_nat hp_1253
    refine lv_if_eq (tgt := 40) hx hb dX12_letter_5 (by decide) (fun c_0 => absurd c_0 (by decide)) (fun _ => ?_)
    refine lv_iload_n hx hb dX12_letter_8 rfl (lv_at hl 2 rfl) ?_
    refine lv_i2l hx hb dX12_letter_9 rfl ?_
    refine lv_lconst (v := 0) hx hb dX12_letter_10 (by decide) ?_
    refine lv_aload_n hx hb dX12_letter_11 rfl (lv_at hl 0 rfl) ?_
    refine hp_get hx hb hts ix12 hown hK hh (q := 0) rfl (hI.1 _ (by decide)) es1252 rfl 32 (by decide) (hts _ tw_911) (fun _ h9 => h9) rfl dX12_letter_12 ?_
    refine lv_iload_n hx hb dX12_letter_15 rfl (lv_at hl 1 rfl) ?_
    obtain ⟨f_1254, es1254, p0_1254⟩ := getr_wl hI
    refine hp_iald hx hb hK hh (q := 19) rfl (hI.1 _ (by decide)) es1254 (vp_in_nI (n := T_1253) (by omega) (by decide)) dX12_letter_16 ?_
    rw [nI_clamp (n := T_1253) (by omega)]
    obtain ⟨v_1255, hv_1255, hfv_1255⟩ := p0_1254 T_1253 (by omega)
    rw [hfv_1255]
    refine lv_i2l hx hb dX12_letter_17 rfl ?_
    refine lv_lconst (v := 1) hx hb dX12_letter_18 (by decide) ?_
    refine lv_lsub hx hb dX12_letter_19 ?_
    refine hp_callRi (va_runS (As := [.long i9.toInt64, .long 0, .long ((nI v_1255).toInt64 - 1)]) (rest := []) ⟨hx, hb, hml, hown, hts⟩ (c_X12_within l D cy _ cs ad en i9.toInt64 0 ((nI v_1255).toInt64 - 1)) (kw_X12_within hts tw_985 ⟨by decide, by decide⟩) (preS_of hh hK) rfl rfl hl.1 rfl (lv_room (Nat.le_of_ble_eq_true rfl)) dX12_letter_20 ⟨Nat.le_of_ble_eq_true rfl, Nat.le_of_ble_eq_true rfl⟩) hh hA (fun r_1256 H locs hw_1256 hh => ?_)
    rcases Decidable.em (0 ≤ i9.toInt ∧ i9.toInt < (v_1255 : Int)) with hp_1256 | hp_1256
    · obtain rfl : r_1256 = 1 := Eq.trans hw_1256 (if_pos ((wj_m1 (by omega)).mpr hp_1256))
      obtain ⟨N_1256, rfl, hB_1256⟩ := has_nat hp_1256
      refine lv_if_eq (tgt := 40) hx hb dX12_letter_23 (by decide) (fun c_0 => absurd c_0 (by decide)) (fun _ => ?_)
      refine lv_aload_n hx hb dX12_letter_26 rfl (lv_at hl 0 rfl) ?_
      refine hp_get hx hb hts ix12 hown hK hh (q := 0) rfl (hI.1 _ (by decide)) es1252 rfl 31 (by decide) (hts _ tw_910) (fun _ h9 => h9) rfl dX12_letter_27 ?_
      refine lv_bipush (v := 12) hx hb dX12_letter_30 (by decide) ?_
      refine lv_iload_n hx hb dX12_letter_32 rfl (lv_at hl 1 rfl) ?_
      refine lv_imul hx hb dX12_letter_33 ?_
      rw [show (12 : Int32) = nI 12 from rfl, pk_mul 12 T_1253]
      refine lv_iload_n hx hb dX12_letter_34 rfl (lv_at hl 2 rfl) ?_
      refine lv_iadd hx hb dX12_letter_35 ?_
      rw [nI_add (12 * T_1253) N_1256]
      obtain ⟨f_1257, es1257, p0_1257⟩ := getr_lt hI
      refine hp_iald hx hb hK hh (q := 18) rfl (hI.1 _ (by decide)) es1257 (vp_in_nI (n := ((12 * T_1253) + N_1256)) (by omega) (by decide)) dX12_letter_36 ?_
      rw [nI_clamp (n := ((12 * T_1253) + N_1256)) (by omega)]
      obtain ⟨v_1258, hv_1258, hfv_1258⟩ := p0_1257 ((12 * T_1253) + N_1256) (by omega)
      rw [hfv_1258]
      refine lv_goto (tgt := 41) hx hb dX12_letter_37 (by decide) ?_
      exact hp_iretR hx hb hr rfl hlocks hsz hh (trivial) dX12_letter_41
    · obtain rfl : r_1256 = 0 := Eq.trans hw_1256 (if_neg (fun q => hp_1256 ((wj_m1 (by omega)).mp q)))
      refine lv_if_eq (tgt := 40) hx hb dX12_letter_23 (by decide) (fun _ => ?_) (fun c_0 => absurd c_0 (by decide))
      refine lv_iconst (v := (-1)) hx hb dX12_letter_40 (by decide) ?_
      exact hp_iretR hx hb hr rfl hlocks hsz hh (trivial) dX12_letter_41
  · obtain rfl : r_1253 = 0 := Eq.trans hw_1253 (if_neg hp_1253)
    refine lv_if_eq (tgt := 40) hx hb dX12_letter_5 (by decide) (fun _ => ?_) (fun c_0 => absurd c_0 (by decide))
    refine lv_iconst (v := (-1)) hx hb dX12_letter_40 (by decide) ?_
    exact hp_iretR hx hb hr rfl hlocks hsz hh (trivial) dX12_letter_41
theorem kw_X12_letter {R : Room} {s : State} {args : Array Value} {own : String} {idx : Nat} (hts : ∀ w ∈ TB, w.before args s = true) (hl : Cond.methodLink own idx yX12_letter ∈ TB) (hR : 1 + 1 ≤ R.frames ∧ 8 + (3 + 11) + 40 * 1 ≤ R.locals) : CallW R s args own RX12 idx yX12_letter cX12_letter 3 (some .int) (Cond.code yX12_letter cX12_letter 3 (some .int) :: TB) (rmN 1) 0 0 2 := cwV 2 hts (TB_V hl tw_1180 tw_1181 tw_9 tw_1182) rfl rfl rfl (by decide +kernel) hR
set_option maxHeartbeats 4000000 in
set_option maxRecDepth 100000 in
/-- isAllowed -/
theorem c_X12_isAllowed (l : Launch) (D : va_G) (cy : Nat → ClassId) (sz : Nat) (cs : List Nat) (ad : Nat → Nat) (en : Nat → va_E) (hI : RX cy cs ad en) (n : Nat) (hn1 : 1 ≤ n) (hn12 : n ≤ 12)   : Met l yX12_isAllowed (Cond.code yX12_isAllowed cX12_isAllowed 3 (some .boolean) :: TB) (rmN 1) (va_Pc [.ref (ad 0), .int (nI n)] (Pre D cy cs ad en sz)) (va_Qi (S := Unit) (fun r _ => r = 0 ∨ r = 1) (fun _ _ => True) (Nf sz)) 0 0 (Nf sz) := by
  refine Met.ofW (cc := cX12_isAllowed) (maxL := 3) (ret := (some .boolean)) (by decide) rfl ?_
  intro p e s m args below meth c s₁ B hml hv
  obtain ⟨rfl, hsz, hP, hK, hD0⟩ := hv
  have hx := B.exec
  have hb := B.bytes
  have hr := B.returns
  have hts : ∀ w ∈ TB, w.before _ s = true := fun w h => atoms_spec (ws := _ :: TB) B.pre w (List.mem_cons_of_mem _ h)
  have hown : s.vm.findClass RX12 = some m.cls := findClass_of_methodNamed B.named
  have hlocks := B.notSynchronized
  have hh : Hp D (Nf sz) (fun _ => True) s.heap s.heap [] cs ad en := ⟨hP, hD0, va_S.rf⟩
  have hA : ∀ q : Nat, s.heap.size ≤ q → Nf sz q := fun q h => by rw [hsz] at h; exact h
  have hl := lv_entry ([.ref (ad 0), .int (nI n)]) (n := 3) (Nat.le_of_ble_eq_true rfl)
  rw [lg_entry_eq]
  generalize (lg_sl ([.ref (ad 0), .int (nI n)]) ++ List.replicate (3 - (lg_sl ([.ref (ad 0), .int (nI n)])).length) Slot.unset).toArray = ls at hl ⊢
  have hl : lv_has ls 3 [(0, .ref (ad 0)), (1, .int (nI n))] := hl
  obtain ⟨fa, hi, wd, mo, tb, dp, many, grt, lst, nou, rm, rb, pr, wo, es1259, hwd2, hwd3, hmo, htb, hwo⟩ := getr_M hI
  obtain ⟨f_1260, es1260, p0_1260⟩ := getr_ak hI
  refine lv_iconst (v := 1) hx hb dX12_isAllowed_0 (by decide) ?_
  refine lv_istore_n (lv' := [(2, .int 1), (0, .ref (ad 0)), (1, .int (nI n))]) hx hb dX12_isAllowed_1 rfl hl (by decide) rfl (fun ls hl => ?_)
  have loop_1261 : ∀ (fu j1261 : Nat)   (ls : Array Slot) (H : Heap) (locs : List Loc), 1 ≤ j1261 → j1261 ≤ n → n < j1261 + fu →   lv_has ls 3 [(2, .int (nI j1261)), (0, .ref (ad 0)), (1, .int (nI n))] → Hp D (Nf sz) (fun _ => True) s.heap H locs cs ad en → W p l e (headSpec (Cond.code yX12_isAllowed cX12_isAllowed 3 (some .boolean) :: TB) (rmN 1)).room s m ([.ref (ad 0), .int (nI n)] : List Value).toArray below meth c H locs 0 0 (MQ below (va_Qi (S := Unit) (fun r _ => r = 0 ∨ r = 1) (fun _ _ => True) (Nf sz)) ([.ref (ad 0), .int (nI n)] : List Value).toArray s 0 0 (Nf sz)) (F0 m 2 ls []) := by
    intro fu
    induction fu with
    | zero => intro j1261  ls H locs h0 h1 h2; exact absurd h2 (by omega)
    | succ fu ih_1261 =>
      intro j1261  ls H locs hj0_1261 hj_1261 hfu_1261  hl hh
      refine lv_iload_n hx hb dX12_isAllowed_2 rfl (lv_at hl 0 rfl) ?_
      refine lv_iload_n hx hb dX12_isAllowed_3 rfl (lv_at hl 2 rfl) ?_
      refine lv_icmp_ge (tgt := 36) hx hb dX12_isAllowed_4 (by decide) (fun c_1262 => ?_) (fun c_1262 => ?_)
      · have n_1262 : n ≤ j1261 := n_le (a := n) (b := j1261) c_1262 (by omega) (by omega)
        refine lv_iconst (v := 1) hx hb dX12_isAllowed_36 (by decide) ?_
        exact hp_iretR hx hb hr rfl hlocks hsz hh (Or.inr rfl) dX12_isAllowed_37
      · have n_1262 : j1261 < n := n_nle (a := n) (b := j1261) c_1262 (by omega) (by omega)
        refine lv_aload_n hx hb dX12_isAllowed_7 rfl (lv_at hl 1 rfl) ?_
        refine lv_aload_n hx hb dX12_isAllowed_8 rfl (lv_at hl 1 rfl) ?_
        refine hp_get hx hb hts ix12 hown hK hh (q := 0) rfl (hI.1 _ (by decide)) es1259 rfl 21 (by decide) (hts _ tw_900) (fun _ h9 => h9) rfl dX12_isAllowed_9 ?_
        refine lv_iload_n hx hb dX12_isAllowed_12 rfl (lv_at hl 0 rfl) ?_
        refine lv_iconst (v := 1) hx hb dX12_isAllowed_13 (by decide) ?_
        refine lv_isub hx hb dX12_isAllowed_14 ?_
        rw [show (1 : Int32) = nI 1 from rfl, pk_sub (a := j1261) (b := 1) (by omega)]
        refine hp_iald hx hb hK hh (q := 12) rfl (hI.1 _ (by decide)) es1260 (vp_in_nI (n := (j1261 - 1)) (by omega) (by decide)) dX12_isAllowed_15 ?_
        rw [nI_clamp (n := (j1261 - 1)) (by omega)]
        obtain ⟨v_1263, hv_1263, hfv_1263⟩ := p0_1260 (j1261 - 1) (by omega)
        rw [hfv_1263]
        refine lv_aload_n hx hb dX12_isAllowed_16 rfl (lv_at hl 1 rfl) ?_
        refine hp_get hx hb hts ix12 hown hK hh (q := 0) rfl (hI.1 _ (by decide)) es1259 rfl 21 (by decide) (hts _ tw_900) (fun _ h9 => h9) rfl dX12_isAllowed_17 ?_
        refine lv_iload_n hx hb dX12_isAllowed_20 rfl (lv_at hl 0 rfl) ?_
        refine hp_iald hx hb hK hh (q := 12) rfl (hI.1 _ (by decide)) es1260 (vp_in_nI (n := j1261) (by omega) (by decide)) dX12_isAllowed_21 ?_
        rw [nI_clamp (n := j1261) (by omega)]
        obtain ⟨v_1264, hv_1264, hfv_1264⟩ := p0_1260 j1261 (by omega)
        rw [hfv_1264]
        refine hp_callRi (va_runV (As := [.int (nI v_1263), .int (nI v_1264)]) (rest := []) ⟨hx, hb, hml, hown, hts⟩ (c_X12_mayFollow l D cy _ cs ad en hI v_1263 v_1264 (by omega) (by omega)) (kw_X12_mayFollow hts tw_1029 ⟨by decide, by decide⟩) (preV_of hh hK (hI.1 _ (by decide)) es1259 rfl) rfl rfl hl.1 rfl (lv_room (Nat.le_of_ble_eq_true rfl)) dX12_isAllowed_22 ⟨Nat.le_of_ble_eq_true rfl, Nat.le_of_ble_eq_true rfl⟩) hh hA (fun r_1265 H locs hw_1265 hh => ?_)
        rcases Decidable.em (rdF (en 2) (6 * v_1263 + v_1264) = 0) with hp_1265 | hp_1265
        · obtain rfl : r_1265 = 1 := Eq.trans hw_1265 (if_pos hp_1265)
          refine lv_if_ne (tgt := 30) hx hb dX12_isAllowed_25 (by decide) (fun _ => ?_) (fun c_0 => absurd c_0 (by decide))
          refine lv_iinc (v := (nI (j1261 + 1))) (lv' := [(2, .int (nI (j1261 + 1))), (0, .ref (ad 0)), (1, .int (nI n))]) hx hb dX12_isAllowed_30 hl (k := 0) rfl (nI_1 _) (by decide) rfl (fun ls hl => ?_)
          refine lv_goto (tgt := 2) hx hb dX12_isAllowed_33 (by decide) ?_
          exact ih_1261 ((j1261 + 1))  ls H locs (by omega) (by omega) (by omega)  (lv_sub hl [0, 1, 2] rfl) hh
        · obtain rfl : r_1265 = 0 := Eq.trans hw_1265 (if_neg hp_1265)
          refine lv_if_ne (tgt := 30) hx hb dX12_isAllowed_25 (by decide) (fun c_0 => absurd c_0 (by decide)) (fun _ => ?_)
          refine lv_iconst (v := 0) hx hb dX12_isAllowed_28 (by decide) ?_
          exact hp_iretR hx hb hr rfl hlocks hsz hh (Or.inl rfl) dX12_isAllowed_29
  exact loop_1261 (n + 1) 1  ls _ _ (Nat.le_refl _) (by omega) (by omega)  (lv_sub hl [0, 1, 2] rfl) hh
theorem kw_X12_isAllowed {R : Room} {s : State} {args : Array Value} {own : String} {idx : Nat} (hts : ∀ w ∈ TB, w.before args s = true) (hl : Cond.methodLink own idx yX12_isAllowed ∈ TB) (hR : 1 + 1 ≤ R.frames ∧ 8 + (3 + 11) + 40 * 1 ≤ R.locals) : CallW R s args own RX12 idx yX12_isAllowed cX12_isAllowed 3 (some .boolean) (Cond.code yX12_isAllowed cX12_isAllowed 3 (some .boolean) :: TB) (rmN 1) 0 0 1 := cwV 1 hts (TB_V hl tw_1083 ts_46 tw_9 tw_1084) rfl rfl rfl (by decide +kernel) hR
set_option maxHeartbeats 4000000 in
set_option maxRecDepth 100000 in
/-- timesOf -/
theorem c_X12_timesOf (l : Launch) (D : va_G) (cy : Nat → ClassId) (sz : Nat) (cs : List Nat) (ad : Nat → Nat) (en : Nat → va_E) (hI : RX cy cs ad en) (n : Nat) (hn1 : 1 ≤ n) (hn12 : n ≤ 12)   : Met l yX12_timesOf (Cond.code yX12_timesOf cX12_timesOf 5 (some .int) :: TB) (rmN 0) (va_Pc [.ref (ad 0), .int (nI n)] (Pre D cy cs ad en sz)) (va_Qi (S := Unit) (fun _ _ => True) (fun _ _ => True) (Nf sz)) 0 0 (Nf sz) := by
  refine Met.ofW (cc := cX12_timesOf) (maxL := 5) (ret := (some .int)) (by decide) rfl ?_
  intro p e s m args below meth c s₁ B hml hv
  obtain ⟨rfl, hsz, hP, hK, hD0⟩ := hv
  have hx := B.exec
  have hb := B.bytes
  have hr := B.returns
  have hts : ∀ w ∈ TB, w.before _ s = true := fun w h => atoms_spec (ws := _ :: TB) B.pre w (List.mem_cons_of_mem _ h)
  have hown : s.vm.findClass RX12 = some m.cls := findClass_of_methodNamed B.named
  have hlocks := B.notSynchronized
  have hh : Hp D (Nf sz) (fun _ => True) s.heap s.heap [] cs ad en := ⟨hP, hD0, va_S.rf⟩
  have hA : ∀ q : Nat, s.heap.size ≤ q → Nf sz q := fun q h => by rw [hsz] at h; exact h
  have hl := lv_entry ([.ref (ad 0), .int (nI n)]) (n := 5) (Nat.le_of_ble_eq_true rfl)
  rw [lg_entry_eq]
  generalize (lg_sl ([.ref (ad 0), .int (nI n)]) ++ List.replicate (5 - (lg_sl ([.ref (ad 0), .int (nI n)])).length) Slot.unset).toArray = ls at hl ⊢
  have hl : lv_has ls 5 [(0, .ref (ad 0)), (1, .int (nI n))] := hl
  obtain ⟨fa, hi, wd, mo, tb, dp, many, grt, lst, nou, rm, rb, pr, wo, es1266, hwd2, hwd3, hmo, htb, hwo⟩ := getr_M hI
  obtain ⟨f_1267, es1267, p0_1267⟩ := getr_ak hI
  refine lv_iconst (v := 1) hx hb dX12_timesOf_0 (by decide) ?_
  refine lv_istore_n (lv' := [(2, .int 1), (0, .ref (ad 0)), (1, .int (nI n))]) hx hb dX12_timesOf_1 rfl hl (by decide) rfl (fun ls hl => ?_)
  have loop_1268 : ∀ (fu j1268 : Nat)   (ls : Array Slot) (H : Heap) (locs : List Loc), 1 ≤ j1268 → j1268 ≤ n → n < j1268 + fu →   lv_has ls 5 [(2, .int (nI j1268)), (0, .ref (ad 0)), (1, .int (nI n))] → Hp D (Nf sz) (fun _ => True) s.heap H locs cs ad en → W p l e (headSpec (Cond.code yX12_timesOf cX12_timesOf 5 (some .int) :: TB) (rmN 0)).room s m ([.ref (ad 0), .int (nI n)] : List Value).toArray below meth c H locs 0 0 (MQ below (va_Qi (S := Unit) (fun _ _ => True) (fun _ _ => True) (Nf sz)) ([.ref (ad 0), .int (nI n)] : List Value).toArray s 0 0 (Nf sz)) (F0 m 2 ls []) := by
    intro fu
    induction fu with
    | zero => intro j1268  ls H locs h0 h1 h2; exact absurd h2 (by omega)
    | succ fu ih_1268 =>
      intro j1268  ls H locs hj0_1268 hj_1268 hfu_1268  hl hh
      refine lv_iload_n hx hb dX12_timesOf_2 rfl (lv_at hl 0 rfl) ?_
      refine lv_iload_n hx hb dX12_timesOf_3 rfl (lv_at hl 2 rfl) ?_
      refine lv_icmp_ge (tgt := 77) hx hb dX12_timesOf_4 (by decide) (fun c_1269 => ?_) (fun c_1269 => ?_)
      · have n_1269 : n ≤ j1268 := n_le (a := n) (b := j1268) c_1269 (by omega) (by omega)
        refine lv_iconst (v := 1) hx hb dX12_timesOf_77 (by decide) ?_
        exact hp_iretR hx hb hr rfl hlocks hsz hh (trivial) dX12_timesOf_78
      · have n_1269 : j1268 < n := n_nle (a := n) (b := j1268) c_1269 (by omega) (by omega)
        refine lv_iload_n hx hb dX12_timesOf_7 rfl (lv_at hl 2 rfl) ?_
        refine lv_iload_n hx hb dX12_timesOf_8 rfl (lv_at hl 0 rfl) ?_
        refine lv_irem hx hb dX12_timesOf_9 (nI_ne0 (by omega) (by omega)) ?_
        rw [pk_rem (a := n) (d := j1268) (by omega) (by omega) (by omega)]
        have hq_1270 : (n % j1268) ≤ n := Nat.mod_le _ _
        refine lv_if_ne (tgt := 17) hx hb dX12_timesOf_10 (by decide) (fun c_1271 => ?_) (fun c_1271 => ?_)
        · have n_1271 : (n % j1268) ≠ 0 := n_neq (a := (n % j1268)) (b := 0) c_1271 (by omega) (by decide)
          refine lv_iconst (v := 0) hx hb dX12_timesOf_17 (by decide) ?_
          refine lv_istore_n (lv' := [(3, .int 0), (2, .int (nI j1268)), (0, .ref (ad 0)), (1, .int (nI n))]) hx hb dX12_timesOf_18 rfl hl (by decide) rfl (fun ls hl => ?_)
          refine lv_iload_n hx hb dX12_timesOf_19 rfl (lv_at hl 1 rfl) ?_
          refine lv_istore (lv' := [(4, .int (nI j1268)), (3, .int 0), (2, .int (nI j1268)), (0, .ref (ad 0)), (1, .int (nI n))]) hx hb dX12_timesOf_20 hl (by decide) rfl (fun ls hl => ?_)
          have loop_1272 : ∀ (fu j1272 : Nat) (lk1272 : Int32)  (ls : Array Slot) (H : Heap) (locs : List Loc), j1268 ≤ j1272 → j1272 ≤ n → n < j1272 + fu →   lv_has ls 5 [(4, .int (nI j1272)), (3, .int lk1272), (2, .int (nI j1268)), (0, .ref (ad 0)), (1, .int (nI n))] → Hp D (Nf sz) (fun _ => True) s.heap H locs cs ad en → W p l e (headSpec (Cond.code yX12_timesOf cX12_timesOf 5 (some .int) :: TB) (rmN 0)).room s m ([.ref (ad 0), .int (nI n)] : List Value).toArray below meth c H locs 0 0 (MQ below (va_Qi (S := Unit) (fun _ _ => True) (fun _ _ => True) (Nf sz)) ([.ref (ad 0), .int (nI n)] : List Value).toArray s 0 0 (Nf sz)) (F0 m 22 ls []) := by
            intro fu
            induction fu with
            | zero => intro j1272 lk1272 ls H locs h0 h1 h2; exact absurd h2 (by omega)
            | succ fu ih_1272 =>
              intro j1272 lk1272 ls H locs hj0_1272 hj_1272 hfu_1272  hl hh
              refine lv_iload hx hb dX12_timesOf_22 (lv_at hl 0 rfl) ?_
              refine lv_iload_n hx hb dX12_timesOf_24 rfl (lv_at hl 4 rfl) ?_
              refine lv_icmp_ge (tgt := 63) hx hb dX12_timesOf_25 (by decide) (fun c_1273 => ?_) (fun c_1273 => ?_)
              · have n_1273 : n ≤ j1272 := n_le (a := n) (b := j1272) c_1273 (by omega) (by omega)
                refine lv_iload_n hx hb dX12_timesOf_63 rfl (lv_at hl 1 rfl) ?_
                refine lv_if_eq (tgt := 71) hx hb dX12_timesOf_64 (by decide) (fun c_1274 => ?_) (fun c_1274 => ?_)
                · refine lv_iinc (v := (nI (j1268 + 1))) (lv' := [(2, .int (nI (j1268 + 1))), (4, .int (nI j1272)), (3, .int lk1272), (0, .ref (ad 0)), (1, .int (nI n))]) hx hb dX12_timesOf_71 hl (k := 2) rfl (nI_1 _) (by decide) rfl (fun ls hl => ?_)
                  refine lv_goto (tgt := 2) hx hb dX12_timesOf_74 (by decide) ?_
                  exact ih_1268 ((j1268 + 1))  ls H locs (by omega) (by omega) (by omega)  (lv_sub hl [0, 3, 4] rfl) hh
                · refine lv_iload_n hx hb dX12_timesOf_67 rfl (lv_at hl 4 rfl) ?_
                  refine lv_iload_n hx hb dX12_timesOf_68 rfl (lv_at hl 2 rfl) ?_
                  refine lv_idiv hx hb dX12_timesOf_69 (nI_ne0 (by omega) (by omega)) ?_
                  rw [pk_div (a := n) (d := j1268) (by omega) (by omega) (by omega)]
                  have hq_1275 : (n / j1268) ≤ n := Nat.div_le_self _ _
                  exact hp_iretR hx hb hr rfl hlocks hsz hh (trivial) dX12_timesOf_70
              · have n_1273 : j1272 < n := n_nle (a := n) (b := j1272) c_1273 (by omega) (by omega)
                refine lv_iload_n hx hb dX12_timesOf_28 rfl (lv_at hl 1 rfl) ?_
                refine lv_if_eq (tgt := 63) hx hb dX12_timesOf_29 (by decide) (fun c_1276 => ?_) (fun c_1276 => ?_)
                · refine lv_iload_n hx hb dX12_timesOf_63 rfl (lv_at hl 1 rfl) ?_
                  refine lv_if_eq (tgt := 71) hx hb dX12_timesOf_64 (by decide) (fun c_1277 => ?_) (fun c_1277 => ?_)
                  · refine lv_iinc (v := (nI (j1268 + 1))) (lv' := [(2, .int (nI (j1268 + 1))), (4, .int (nI j1272)), (3, .int lk1272), (0, .ref (ad 0)), (1, .int (nI n))]) hx hb dX12_timesOf_71 hl (k := 2) rfl (nI_1 _) (by decide) rfl (fun ls hl => ?_)
                    refine lv_goto (tgt := 2) hx hb dX12_timesOf_74 (by decide) ?_
                    exact ih_1268 ((j1268 + 1))  ls H locs (by omega) (by omega) (by omega)  (lv_sub hl [0, 3, 4] rfl) hh
                  · refine lv_iload_n hx hb dX12_timesOf_67 rfl (lv_at hl 4 rfl) ?_
                    refine lv_iload_n hx hb dX12_timesOf_68 rfl (lv_at hl 2 rfl) ?_
                    refine lv_idiv hx hb dX12_timesOf_69 (nI_ne0 (by omega) (by omega)) ?_
                    rw [pk_div (a := n) (d := j1268) (by omega) (by omega) (by omega)]
                    have hq_1278 : (n / j1268) ≤ n := Nat.div_le_self _ _
                    exact hp_iretR hx hb hr rfl hlocks hsz hh (trivial) dX12_timesOf_70
                · refine lv_aload_n hx hb dX12_timesOf_32 rfl (lv_at hl 3 rfl) ?_
                  refine hp_get hx hb hts ix12 hown hK hh (q := 0) rfl (hI.1 _ (by decide)) es1266 rfl 21 (by decide) (hts _ tw_900) (fun _ h9 => h9) rfl dX12_timesOf_33 ?_
                  refine lv_iload hx hb dX12_timesOf_36 (lv_at hl 0 rfl) ?_
                  refine hp_iald hx hb hK hh (q := 12) rfl (hI.1 _ (by decide)) es1267 (vp_in_nI (n := j1272) (by omega) (by decide)) dX12_timesOf_38 ?_
                  rw [nI_clamp (n := j1272) (by omega)]
                  obtain ⟨v_1279, hv_1279, hfv_1279⟩ := p0_1267 j1272 (by omega)
                  rw [hfv_1279]
                  refine lv_aload_n hx hb dX12_timesOf_39 rfl (lv_at hl 3 rfl) ?_
                  refine hp_get hx hb hts ix12 hown hK hh (q := 0) rfl (hI.1 _ (by decide)) es1266 rfl 21 (by decide) (hts _ tw_900) (fun _ h9 => h9) rfl dX12_timesOf_40 ?_
                  refine lv_iload hx hb dX12_timesOf_43 (lv_at hl 0 rfl) ?_
                  refine lv_iload_n hx hb dX12_timesOf_45 rfl (lv_at hl 2 rfl) ?_
                  refine lv_isub hx hb dX12_timesOf_46 ?_
                  rw [pk_sub (a := j1272) (b := j1268) (by omega)]
                  refine hp_iald hx hb hK hh (q := 12) rfl (hI.1 _ (by decide)) es1267 (vp_in_nI (n := (j1272 - j1268)) (by omega) (by decide)) dX12_timesOf_47 ?_
                  rw [nI_clamp (n := (j1272 - j1268)) (by omega)]
                  obtain ⟨v_1280, hv_1280, hfv_1280⟩ := p0_1267 (j1272 - j1268) (by omega)
                  rw [hfv_1280]
                  refine lv_icmp_ne (tgt := 55) hx hb dX12_timesOf_48 (by decide) (fun c_1281 => ?_) (fun c_1281 => ?_)
                  · have n_1281 : v_1279 ≠ v_1280 := n_neq (a := v_1279) (b := v_1280) c_1281 (by omega) (by omega)
                    refine lv_iconst (v := 0) hx hb dX12_timesOf_55 (by decide) ?_
                    refine lv_istore_n (lv' := [(3, .int 0), (4, .int (nI j1272)), (2, .int (nI j1268)), (0, .ref (ad 0)), (1, .int (nI n))]) hx hb dX12_timesOf_56 rfl hl (by decide) rfl (fun ls hl => ?_)
                    refine lv_iinc (v := (nI (j1272 + 1))) (lv' := [(4, .int (nI (j1272 + 1))), (3, .int 0), (2, .int (nI j1268)), (0, .ref (ad 0)), (1, .int (nI n))]) hx hb dX12_timesOf_57 hl (k := 1) rfl (nI_1 _) (by decide) rfl (fun ls hl => ?_)
                    refine lv_goto (tgt := 22) hx hb dX12_timesOf_60 (by decide) ?_
                    exact ih_1272 ((j1272 + 1)) 0 ls H locs (by omega) (by omega) (by omega)  (lv_sub hl [0, 1, 2, 3, 4] rfl) hh
                  · have n_1281 : v_1279 = v_1280 := n_eq (a := v_1279) (b := v_1280) c_1281 (by omega) (by omega)
                    refine lv_iconst (v := 1) hx hb dX12_timesOf_51 (by decide) ?_
                    refine lv_goto (tgt := 56) hx hb dX12_timesOf_52 (by decide) ?_
                    refine lv_istore_n (lv' := [(3, .int 1), (4, .int (nI j1272)), (2, .int (nI j1268)), (0, .ref (ad 0)), (1, .int (nI n))]) hx hb dX12_timesOf_56 rfl hl (by decide) rfl (fun ls hl => ?_)
                    refine lv_iinc (v := (nI (j1272 + 1))) (lv' := [(4, .int (nI (j1272 + 1))), (3, .int 1), (2, .int (nI j1268)), (0, .ref (ad 0)), (1, .int (nI n))]) hx hb dX12_timesOf_57 hl (k := 1) rfl (nI_1 _) (by decide) rfl (fun ls hl => ?_)
                    refine lv_goto (tgt := 22) hx hb dX12_timesOf_60 (by decide) ?_
                    exact ih_1272 ((j1272 + 1)) 1 ls H locs (by omega) (by omega) (by omega)  (lv_sub hl [0, 1, 2, 3, 4] rfl) hh
          exact loop_1272 (n + 1) j1268 0 ls _ _ (Nat.le_refl _) (by omega) (by omega)  (lv_sub hl [0, 1, 2, 3, 4] rfl) hh
        · have n_1271 : (n % j1268) = 0 := n_eq (a := (n % j1268)) (b := 0) c_1271 (by omega) (by decide)
          refine lv_iconst (v := 1) hx hb dX12_timesOf_13 (by decide) ?_
          refine lv_goto (tgt := 18) hx hb dX12_timesOf_14 (by decide) ?_
          refine lv_istore_n (lv' := [(3, .int 1), (2, .int (nI j1268)), (0, .ref (ad 0)), (1, .int (nI n))]) hx hb dX12_timesOf_18 rfl hl (by decide) rfl (fun ls hl => ?_)
          refine lv_iload_n hx hb dX12_timesOf_19 rfl (lv_at hl 1 rfl) ?_
          refine lv_istore (lv' := [(4, .int (nI j1268)), (3, .int 1), (2, .int (nI j1268)), (0, .ref (ad 0)), (1, .int (nI n))]) hx hb dX12_timesOf_20 hl (by decide) rfl (fun ls hl => ?_)
          have loop_1282 : ∀ (fu j1282 : Nat) (lk1282 : Int32)  (ls : Array Slot) (H : Heap) (locs : List Loc), j1268 ≤ j1282 → j1282 ≤ n → n < j1282 + fu →   lv_has ls 5 [(4, .int (nI j1282)), (3, .int lk1282), (2, .int (nI j1268)), (0, .ref (ad 0)), (1, .int (nI n))] → Hp D (Nf sz) (fun _ => True) s.heap H locs cs ad en → W p l e (headSpec (Cond.code yX12_timesOf cX12_timesOf 5 (some .int) :: TB) (rmN 0)).room s m ([.ref (ad 0), .int (nI n)] : List Value).toArray below meth c H locs 0 0 (MQ below (va_Qi (S := Unit) (fun _ _ => True) (fun _ _ => True) (Nf sz)) ([.ref (ad 0), .int (nI n)] : List Value).toArray s 0 0 (Nf sz)) (F0 m 22 ls []) := by
            intro fu
            induction fu with
            | zero => intro j1282 lk1282 ls H locs h0 h1 h2; exact absurd h2 (by omega)
            | succ fu ih_1282 =>
              intro j1282 lk1282 ls H locs hj0_1282 hj_1282 hfu_1282  hl hh
              refine lv_iload hx hb dX12_timesOf_22 (lv_at hl 0 rfl) ?_
              refine lv_iload_n hx hb dX12_timesOf_24 rfl (lv_at hl 4 rfl) ?_
              refine lv_icmp_ge (tgt := 63) hx hb dX12_timesOf_25 (by decide) (fun c_1283 => ?_) (fun c_1283 => ?_)
              · have n_1283 : n ≤ j1282 := n_le (a := n) (b := j1282) c_1283 (by omega) (by omega)
                refine lv_iload_n hx hb dX12_timesOf_63 rfl (lv_at hl 1 rfl) ?_
                refine lv_if_eq (tgt := 71) hx hb dX12_timesOf_64 (by decide) (fun c_1284 => ?_) (fun c_1284 => ?_)
                · refine lv_iinc (v := (nI (j1268 + 1))) (lv' := [(2, .int (nI (j1268 + 1))), (4, .int (nI j1282)), (3, .int lk1282), (0, .ref (ad 0)), (1, .int (nI n))]) hx hb dX12_timesOf_71 hl (k := 2) rfl (nI_1 _) (by decide) rfl (fun ls hl => ?_)
                  refine lv_goto (tgt := 2) hx hb dX12_timesOf_74 (by decide) ?_
                  exact ih_1268 ((j1268 + 1))  ls H locs (by omega) (by omega) (by omega)  (lv_sub hl [0, 3, 4] rfl) hh
                · refine lv_iload_n hx hb dX12_timesOf_67 rfl (lv_at hl 4 rfl) ?_
                  refine lv_iload_n hx hb dX12_timesOf_68 rfl (lv_at hl 2 rfl) ?_
                  refine lv_idiv hx hb dX12_timesOf_69 (nI_ne0 (by omega) (by omega)) ?_
                  rw [pk_div (a := n) (d := j1268) (by omega) (by omega) (by omega)]
                  have hq_1285 : (n / j1268) ≤ n := Nat.div_le_self _ _
                  exact hp_iretR hx hb hr rfl hlocks hsz hh (trivial) dX12_timesOf_70
              · have n_1283 : j1282 < n := n_nle (a := n) (b := j1282) c_1283 (by omega) (by omega)
                refine lv_iload_n hx hb dX12_timesOf_28 rfl (lv_at hl 1 rfl) ?_
                refine lv_if_eq (tgt := 63) hx hb dX12_timesOf_29 (by decide) (fun c_1286 => ?_) (fun c_1286 => ?_)
                · refine lv_iload_n hx hb dX12_timesOf_63 rfl (lv_at hl 1 rfl) ?_
                  refine lv_if_eq (tgt := 71) hx hb dX12_timesOf_64 (by decide) (fun c_1287 => ?_) (fun c_1287 => ?_)
                  · refine lv_iinc (v := (nI (j1268 + 1))) (lv' := [(2, .int (nI (j1268 + 1))), (4, .int (nI j1282)), (3, .int lk1282), (0, .ref (ad 0)), (1, .int (nI n))]) hx hb dX12_timesOf_71 hl (k := 2) rfl (nI_1 _) (by decide) rfl (fun ls hl => ?_)
                    refine lv_goto (tgt := 2) hx hb dX12_timesOf_74 (by decide) ?_
                    exact ih_1268 ((j1268 + 1))  ls H locs (by omega) (by omega) (by omega)  (lv_sub hl [0, 3, 4] rfl) hh
                  · refine lv_iload_n hx hb dX12_timesOf_67 rfl (lv_at hl 4 rfl) ?_
                    refine lv_iload_n hx hb dX12_timesOf_68 rfl (lv_at hl 2 rfl) ?_
                    refine lv_idiv hx hb dX12_timesOf_69 (nI_ne0 (by omega) (by omega)) ?_
                    rw [pk_div (a := n) (d := j1268) (by omega) (by omega) (by omega)]
                    have hq_1288 : (n / j1268) ≤ n := Nat.div_le_self _ _
                    exact hp_iretR hx hb hr rfl hlocks hsz hh (trivial) dX12_timesOf_70
                · refine lv_aload_n hx hb dX12_timesOf_32 rfl (lv_at hl 3 rfl) ?_
                  refine hp_get hx hb hts ix12 hown hK hh (q := 0) rfl (hI.1 _ (by decide)) es1266 rfl 21 (by decide) (hts _ tw_900) (fun _ h9 => h9) rfl dX12_timesOf_33 ?_
                  refine lv_iload hx hb dX12_timesOf_36 (lv_at hl 0 rfl) ?_
                  refine hp_iald hx hb hK hh (q := 12) rfl (hI.1 _ (by decide)) es1267 (vp_in_nI (n := j1282) (by omega) (by decide)) dX12_timesOf_38 ?_
                  rw [nI_clamp (n := j1282) (by omega)]
                  obtain ⟨v_1289, hv_1289, hfv_1289⟩ := p0_1267 j1282 (by omega)
                  rw [hfv_1289]
                  refine lv_aload_n hx hb dX12_timesOf_39 rfl (lv_at hl 3 rfl) ?_
                  refine hp_get hx hb hts ix12 hown hK hh (q := 0) rfl (hI.1 _ (by decide)) es1266 rfl 21 (by decide) (hts _ tw_900) (fun _ h9 => h9) rfl dX12_timesOf_40 ?_
                  refine lv_iload hx hb dX12_timesOf_43 (lv_at hl 0 rfl) ?_
                  refine lv_iload_n hx hb dX12_timesOf_45 rfl (lv_at hl 2 rfl) ?_
                  refine lv_isub hx hb dX12_timesOf_46 ?_
                  rw [pk_sub (a := j1282) (b := j1268) (by omega)]
                  refine hp_iald hx hb hK hh (q := 12) rfl (hI.1 _ (by decide)) es1267 (vp_in_nI (n := (j1282 - j1268)) (by omega) (by decide)) dX12_timesOf_47 ?_
                  rw [nI_clamp (n := (j1282 - j1268)) (by omega)]
                  obtain ⟨v_1290, hv_1290, hfv_1290⟩ := p0_1267 (j1282 - j1268) (by omega)
                  rw [hfv_1290]
                  refine lv_icmp_ne (tgt := 55) hx hb dX12_timesOf_48 (by decide) (fun c_1291 => ?_) (fun c_1291 => ?_)
                  · have n_1291 : v_1289 ≠ v_1290 := n_neq (a := v_1289) (b := v_1290) c_1291 (by omega) (by omega)
                    refine lv_iconst (v := 0) hx hb dX12_timesOf_55 (by decide) ?_
                    refine lv_istore_n (lv' := [(3, .int 0), (4, .int (nI j1282)), (2, .int (nI j1268)), (0, .ref (ad 0)), (1, .int (nI n))]) hx hb dX12_timesOf_56 rfl hl (by decide) rfl (fun ls hl => ?_)
                    refine lv_iinc (v := (nI (j1282 + 1))) (lv' := [(4, .int (nI (j1282 + 1))), (3, .int 0), (2, .int (nI j1268)), (0, .ref (ad 0)), (1, .int (nI n))]) hx hb dX12_timesOf_57 hl (k := 1) rfl (nI_1 _) (by decide) rfl (fun ls hl => ?_)
                    refine lv_goto (tgt := 22) hx hb dX12_timesOf_60 (by decide) ?_
                    exact ih_1282 ((j1282 + 1)) 0 ls H locs (by omega) (by omega) (by omega)  (lv_sub hl [0, 1, 2, 3, 4] rfl) hh
                  · have n_1291 : v_1289 = v_1290 := n_eq (a := v_1289) (b := v_1290) c_1291 (by omega) (by omega)
                    refine lv_iconst (v := 1) hx hb dX12_timesOf_51 (by decide) ?_
                    refine lv_goto (tgt := 56) hx hb dX12_timesOf_52 (by decide) ?_
                    refine lv_istore_n (lv' := [(3, .int 1), (4, .int (nI j1282)), (2, .int (nI j1268)), (0, .ref (ad 0)), (1, .int (nI n))]) hx hb dX12_timesOf_56 rfl hl (by decide) rfl (fun ls hl => ?_)
                    refine lv_iinc (v := (nI (j1282 + 1))) (lv' := [(4, .int (nI (j1282 + 1))), (3, .int 1), (2, .int (nI j1268)), (0, .ref (ad 0)), (1, .int (nI n))]) hx hb dX12_timesOf_57 hl (k := 1) rfl (nI_1 _) (by decide) rfl (fun ls hl => ?_)
                    refine lv_goto (tgt := 22) hx hb dX12_timesOf_60 (by decide) ?_
                    exact ih_1282 ((j1282 + 1)) 1 ls H locs (by omega) (by omega) (by omega)  (lv_sub hl [0, 1, 2, 3, 4] rfl) hh
          exact loop_1282 (n + 1) j1268 1 ls _ _ (Nat.le_refl _) (by omega) (by omega)  (lv_sub hl [0, 1, 2, 3, 4] rfl) hh
  exact loop_1268 (n + 1) 1  ls _ _ (Nat.le_refl _) (by omega) (by omega)  (lv_sub hl [0, 1, 2] rfl) hh
theorem kw_X12_timesOf {R : Room} {s : State} {args : Array Value} {own : String} {idx : Nat} (hts : ∀ w ∈ TB, w.before args s = true) (hl : Cond.methodLink own idx yX12_timesOf ∈ TB) (hR : 0 + 1 ≤ R.frames ∧ 8 + (5 + 11) + 40 * 0 ≤ R.locals) : CallW R s args own RX12 idx yX12_timesOf cX12_timesOf 5 (some .int) (Cond.code yX12_timesOf cX12_timesOf 5 (some .int) :: TB) (rmN 0) 0 0 1 := cwV 1 hts (TB_V hl tw_1087 ts_47 tw_9 tw_1088) rfl rfl rfl (by decide +kernel) hR
set_option maxHeartbeats 4000000 in
set_option maxRecDepth 100000 in
/-- isFirstTurn -/
theorem c_X12_isFirstTurn (l : Launch) (D : va_G) (cy : Nat → ClassId) (sz : Nat) (cs : List Nat) (ad : Nat → Nat) (en : Nat → va_E) (hI : RX cy cs ad en) (n : Nat) (hn1 : 1 ≤ n) (hn12 : n ≤ 12)   : Met l yX12_isFirstTurn (Cond.code yX12_isFirstTurn cX12_isFirstTurn 4 (some .boolean) :: TB) (rmN 0) (va_Pc [.ref (ad 0), .int (nI n)] (Pre D cy cs ad en sz)) (va_Qi (S := Unit) (fun r _ => r = 0 ∨ r = 1) (fun _ _ => True) (Nf sz)) 0 0 (Nf sz) := by
  refine Met.ofW (cc := cX12_isFirstTurn) (maxL := 4) (ret := (some .boolean)) (by decide) rfl ?_
  intro p e s m args below meth c s₁ B hml hv
  obtain ⟨rfl, hsz, hP, hK, hD0⟩ := hv
  have hx := B.exec
  have hb := B.bytes
  have hr := B.returns
  have hts : ∀ w ∈ TB, w.before _ s = true := fun w h => atoms_spec (ws := _ :: TB) B.pre w (List.mem_cons_of_mem _ h)
  have hown : s.vm.findClass RX12 = some m.cls := findClass_of_methodNamed B.named
  have hlocks := B.notSynchronized
  have hh : Hp D (Nf sz) (fun _ => True) s.heap s.heap [] cs ad en := ⟨hP, hD0, va_S.rf⟩
  have hA : ∀ q : Nat, s.heap.size ≤ q → Nf sz q := fun q h => by rw [hsz] at h; exact h
  have hl := lv_entry ([.ref (ad 0), .int (nI n)]) (n := 4) (Nat.le_of_ble_eq_true rfl)
  rw [lg_entry_eq]
  generalize (lg_sl ([.ref (ad 0), .int (nI n)]) ++ List.replicate (4 - (lg_sl ([.ref (ad 0), .int (nI n)])).length) Slot.unset).toArray = ls at hl ⊢
  have hl : lv_has ls 4 [(0, .ref (ad 0)), (1, .int (nI n))] := hl
  obtain ⟨fa, hi, wd, mo, tb, dp, many, grt, lst, nou, rm, rb, pr, wo, es1292, hwd2, hwd3, hmo, htb, hwo⟩ := getr_M hI
  obtain ⟨f_1293, es1293, p0_1293⟩ := getr_ak hI
  refine lv_iconst (v := 1) hx hb dX12_isFirstTurn_0 (by decide) ?_
  refine lv_istore_n (lv' := [(2, .int 1), (0, .ref (ad 0)), (1, .int (nI n))]) hx hb dX12_isFirstTurn_1 rfl hl (by decide) rfl (fun ls hl => ?_)
  have loop_1294 : ∀ (fu j1294 : Nat)   (ls : Array Slot) (H : Heap) (locs : List Loc), 1 ≤ j1294 → j1294 ≤ n → n < j1294 + fu →   lv_has ls 4 [(2, .int (nI j1294)), (0, .ref (ad 0)), (1, .int (nI n))] → Hp D (Nf sz) (fun _ => True) s.heap H locs cs ad en → W p l e (headSpec (Cond.code yX12_isFirstTurn cX12_isFirstTurn 4 (some .boolean) :: TB) (rmN 0)).room s m ([.ref (ad 0), .int (nI n)] : List Value).toArray below meth c H locs 0 0 (MQ below (va_Qi (S := Unit) (fun r _ => r = 0 ∨ r = 1) (fun _ _ => True) (Nf sz)) ([.ref (ad 0), .int (nI n)] : List Value).toArray s 0 0 (Nf sz)) (F0 m 2 ls []) := by
    intro fu
    induction fu with
    | zero => intro j1294  ls H locs h0 h1 h2; exact absurd h2 (by omega)
    | succ fu ih_1294 =>
      intro j1294  ls H locs hj0_1294 hj_1294 hfu_1294  hl hh
      refine lv_iload_n hx hb dX12_isFirstTurn_2 rfl (lv_at hl 0 rfl) ?_
      refine lv_iload_n hx hb dX12_isFirstTurn_3 rfl (lv_at hl 2 rfl) ?_
      refine lv_icmp_ge (tgt := 71) hx hb dX12_isFirstTurn_4 (by decide) (fun c_1295 => ?_) (fun c_1295 => ?_)
      · have n_1295 : n ≤ j1294 := n_le (a := n) (b := j1294) c_1295 (by omega) (by omega)
        refine lv_iconst (v := 1) hx hb dX12_isFirstTurn_71 (by decide) ?_
        exact hp_iretR hx hb hr rfl hlocks hsz hh (Or.inr rfl) dX12_isFirstTurn_72
      · have n_1295 : j1294 < n := n_nle (a := n) (b := j1294) c_1295 (by omega) (by omega)
        refine lv_iconst (v := 0) hx hb dX12_isFirstTurn_7 (by decide) ?_
        refine lv_istore_n (lv' := [(3, .int 0), (2, .int (nI j1294)), (0, .ref (ad 0)), (1, .int (nI n))]) hx hb dX12_isFirstTurn_8 rfl hl (by decide) rfl (fun ls hl => ?_)
        have loop_1296 : ∀ (fu j1296 : Nat)   (ls : Array Slot) (H : Heap) (locs : List Loc), 0 ≤ j1296 → j1296 ≤ n → n < j1296 + fu →   lv_has ls 4 [(3, .int (nI j1296)), (2, .int (nI j1294)), (0, .ref (ad 0)), (1, .int (nI n))] → Hp D (Nf sz) (fun _ => True) s.heap H locs cs ad en → W p l e (headSpec (Cond.code yX12_isFirstTurn cX12_isFirstTurn 4 (some .boolean) :: TB) (rmN 0)).room s m ([.ref (ad 0), .int (nI n)] : List Value).toArray below meth c H locs 0 0 (MQ below (va_Qi (S := Unit) (fun r _ => r = 0 ∨ r = 1) (fun _ _ => True) (Nf sz)) ([.ref (ad 0), .int (nI n)] : List Value).toArray s 0 0 (Nf sz)) (F0 m 9 ls []) := by
          intro fu
          induction fu with
          | zero => intro j1296  ls H locs h0 h1 h2; exact absurd h2 (by omega)
          | succ fu ih_1296 =>
            intro j1296  ls H locs hj0_1296 hj_1296 hfu_1296  hl hh
            refine lv_iload_n hx hb dX12_isFirstTurn_9 rfl (lv_at hl 0 rfl) ?_
            refine lv_iload_n hx hb dX12_isFirstTurn_10 rfl (lv_at hl 3 rfl) ?_
            refine lv_icmp_ge (tgt := 39) hx hb dX12_isFirstTurn_11 (by decide) (fun c_1297 => ?_) (fun c_1297 => ?_)
            · have n_1297 : n ≤ j1296 := n_le (a := n) (b := j1296) c_1297 (by omega) (by omega)
              refine lv_iload_n hx hb dX12_isFirstTurn_39 rfl (lv_at hl 0 rfl) ?_
              refine lv_iload_n hx hb dX12_isFirstTurn_40 rfl (lv_at hl 3 rfl) ?_
              refine lv_icmp_ge (tgt := 65) hx hb dX12_isFirstTurn_41 (by decide) (fun c_1298 => ?_) (fun c_1298 => ?_)
              · have n_1298 : n ≤ j1296 := n_le (a := n) (b := j1296) c_1298 (by omega) (by omega)
                refine lv_iinc (v := (nI (j1294 + 1))) (lv' := [(2, .int (nI (j1294 + 1))), (3, .int (nI j1296)), (0, .ref (ad 0)), (1, .int (nI n))]) hx hb dX12_isFirstTurn_65 hl (k := 1) rfl (nI_1 _) (by decide) rfl (fun ls hl => ?_)
                refine lv_goto (tgt := 2) hx hb dX12_isFirstTurn_68 (by decide) ?_
                exact ih_1294 ((j1294 + 1))  ls H locs (by omega) (by omega) (by omega)  (lv_sub hl [0, 2, 3] rfl) hh
              · have n_1298 : j1296 < n := n_nle (a := n) (b := j1296) c_1298 (by omega) (by omega)
                refine lv_aload_n hx hb dX12_isFirstTurn_44 rfl (lv_at hl 2 rfl) ?_
                refine hp_get hx hb hts ix12 hown hK hh (q := 0) rfl (hI.1 _ (by decide)) es1292 rfl 21 (by decide) (hts _ tw_900) (fun _ h9 => h9) rfl dX12_isFirstTurn_45 ?_
                refine lv_iload_n hx hb dX12_isFirstTurn_48 rfl (lv_at hl 0 rfl) ?_
                refine lv_iload_n hx hb dX12_isFirstTurn_49 rfl (lv_at hl 1 rfl) ?_
                refine lv_iadd hx hb dX12_isFirstTurn_50 ?_
                rw [nI_add j1296 j1294]
                refine lv_iload_n hx hb dX12_isFirstTurn_51 rfl (lv_at hl 3 rfl) ?_
                refine lv_irem hx hb dX12_isFirstTurn_52 (nI_ne0 (by omega) (by omega)) ?_
                rw [pk_rem (a := (j1296 + j1294)) (d := n) (by omega) (by omega) (by omega)]
                have hq_1299 : ((j1296 + j1294) % n) ≤ (j1296 + j1294) := Nat.mod_le _ _
                have hm_1300 : ((j1296 + j1294) % n) < n := Nat.mod_lt _ (by omega)
                refine hp_iald hx hb hK hh (q := 12) rfl (hI.1 _ (by decide)) es1293 (vp_in_nI (n := ((j1296 + j1294) % n)) (by omega) (by decide)) dX12_isFirstTurn_53 ?_
                rw [nI_clamp (n := ((j1296 + j1294) % n)) (by omega)]
                obtain ⟨v_1301, hv_1301, hfv_1301⟩ := p0_1293 ((j1296 + j1294) % n) (by omega)
                rw [hfv_1301]
                refine lv_aload_n hx hb dX12_isFirstTurn_54 rfl (lv_at hl 2 rfl) ?_
                refine hp_get hx hb hts ix12 hown hK hh (q := 0) rfl (hI.1 _ (by decide)) es1292 rfl 21 (by decide) (hts _ tw_900) (fun _ h9 => h9) rfl dX12_isFirstTurn_55 ?_
                refine lv_iload_n hx hb dX12_isFirstTurn_58 rfl (lv_at hl 0 rfl) ?_
                refine hp_iald hx hb hK hh (q := 12) rfl (hI.1 _ (by decide)) es1293 (vp_in_nI (n := j1296) (by omega) (by decide)) dX12_isFirstTurn_59 ?_
                rw [nI_clamp (n := j1296) (by omega)]
                obtain ⟨v_1302, hv_1302, hfv_1302⟩ := p0_1293 j1296 (by omega)
                rw [hfv_1302]
                refine lv_icmp_ge (tgt := 65) hx hb dX12_isFirstTurn_60 (by decide) (fun c_1303 => ?_) (fun c_1303 => ?_)
                · have n_1303 : v_1302 ≤ v_1301 := n_le (a := v_1302) (b := v_1301) c_1303 (by omega) (by omega)
                  refine lv_iinc (v := (nI (j1294 + 1))) (lv' := [(2, .int (nI (j1294 + 1))), (3, .int (nI j1296)), (0, .ref (ad 0)), (1, .int (nI n))]) hx hb dX12_isFirstTurn_65 hl (k := 1) rfl (nI_1 _) (by decide) rfl (fun ls hl => ?_)
                  refine lv_goto (tgt := 2) hx hb dX12_isFirstTurn_68 (by decide) ?_
                  exact ih_1294 ((j1294 + 1))  ls H locs (by omega) (by omega) (by omega)  (lv_sub hl [0, 2, 3] rfl) hh
                · have n_1303 : v_1301 < v_1302 := n_nle (a := v_1302) (b := v_1301) c_1303 (by omega) (by omega)
                  refine lv_iconst (v := 0) hx hb dX12_isFirstTurn_63 (by decide) ?_
                  exact hp_iretR hx hb hr rfl hlocks hsz hh (Or.inl rfl) dX12_isFirstTurn_64
            · have n_1297 : j1296 < n := n_nle (a := n) (b := j1296) c_1297 (by omega) (by omega)
              refine lv_aload_n hx hb dX12_isFirstTurn_14 rfl (lv_at hl 2 rfl) ?_
              refine hp_get hx hb hts ix12 hown hK hh (q := 0) rfl (hI.1 _ (by decide)) es1292 rfl 21 (by decide) (hts _ tw_900) (fun _ h9 => h9) rfl dX12_isFirstTurn_15 ?_
              refine lv_iload_n hx hb dX12_isFirstTurn_18 rfl (lv_at hl 0 rfl) ?_
              refine lv_iload_n hx hb dX12_isFirstTurn_19 rfl (lv_at hl 1 rfl) ?_
              refine lv_iadd hx hb dX12_isFirstTurn_20 ?_
              rw [nI_add j1296 j1294]
              refine lv_iload_n hx hb dX12_isFirstTurn_21 rfl (lv_at hl 3 rfl) ?_
              refine lv_irem hx hb dX12_isFirstTurn_22 (nI_ne0 (by omega) (by omega)) ?_
              rw [pk_rem (a := (j1296 + j1294)) (d := n) (by omega) (by omega) (by omega)]
              have hq_1304 : ((j1296 + j1294) % n) ≤ (j1296 + j1294) := Nat.mod_le _ _
              have hm_1305 : ((j1296 + j1294) % n) < n := Nat.mod_lt _ (by omega)
              refine hp_iald hx hb hK hh (q := 12) rfl (hI.1 _ (by decide)) es1293 (vp_in_nI (n := ((j1296 + j1294) % n)) (by omega) (by decide)) dX12_isFirstTurn_23 ?_
              rw [nI_clamp (n := ((j1296 + j1294) % n)) (by omega)]
              obtain ⟨v_1306, hv_1306, hfv_1306⟩ := p0_1293 ((j1296 + j1294) % n) (by omega)
              rw [hfv_1306]
              refine lv_aload_n hx hb dX12_isFirstTurn_24 rfl (lv_at hl 2 rfl) ?_
              refine hp_get hx hb hts ix12 hown hK hh (q := 0) rfl (hI.1 _ (by decide)) es1292 rfl 21 (by decide) (hts _ tw_900) (fun _ h9 => h9) rfl dX12_isFirstTurn_25 ?_
              refine lv_iload_n hx hb dX12_isFirstTurn_28 rfl (lv_at hl 0 rfl) ?_
              refine hp_iald hx hb hK hh (q := 12) rfl (hI.1 _ (by decide)) es1293 (vp_in_nI (n := j1296) (by omega) (by decide)) dX12_isFirstTurn_29 ?_
              rw [nI_clamp (n := j1296) (by omega)]
              obtain ⟨v_1307, hv_1307, hfv_1307⟩ := p0_1293 j1296 (by omega)
              rw [hfv_1307]
              refine lv_icmp_ne (tgt := 39) hx hb dX12_isFirstTurn_30 (by decide) (fun c_1308 => ?_) (fun c_1308 => ?_)
              · have n_1308 : v_1306 ≠ v_1307 := n_neq (a := v_1306) (b := v_1307) c_1308 (by omega) (by omega)
                refine lv_iload_n hx hb dX12_isFirstTurn_39 rfl (lv_at hl 0 rfl) ?_
                refine lv_iload_n hx hb dX12_isFirstTurn_40 rfl (lv_at hl 3 rfl) ?_
                refine lv_icmp_ge (tgt := 65) hx hb dX12_isFirstTurn_41 (by decide) (fun c_1309 => ?_) (fun c_1309 => ?_)
                · have n_1309 : n ≤ j1296 := n_le (a := n) (b := j1296) c_1309 (by omega) (by omega)
                  refine lv_iinc (v := (nI (j1294 + 1))) (lv' := [(2, .int (nI (j1294 + 1))), (3, .int (nI j1296)), (0, .ref (ad 0)), (1, .int (nI n))]) hx hb dX12_isFirstTurn_65 hl (k := 1) rfl (nI_1 _) (by decide) rfl (fun ls hl => ?_)
                  refine lv_goto (tgt := 2) hx hb dX12_isFirstTurn_68 (by decide) ?_
                  exact ih_1294 ((j1294 + 1))  ls H locs (by omega) (by omega) (by omega)  (lv_sub hl [0, 2, 3] rfl) hh
                · have n_1309 : j1296 < n := n_nle (a := n) (b := j1296) c_1309 (by omega) (by omega)
                  refine lv_aload_n hx hb dX12_isFirstTurn_44 rfl (lv_at hl 2 rfl) ?_
                  refine hp_get hx hb hts ix12 hown hK hh (q := 0) rfl (hI.1 _ (by decide)) es1292 rfl 21 (by decide) (hts _ tw_900) (fun _ h9 => h9) rfl dX12_isFirstTurn_45 ?_
                  refine lv_iload_n hx hb dX12_isFirstTurn_48 rfl (lv_at hl 0 rfl) ?_
                  refine lv_iload_n hx hb dX12_isFirstTurn_49 rfl (lv_at hl 1 rfl) ?_
                  refine lv_iadd hx hb dX12_isFirstTurn_50 ?_
                  rw [nI_add j1296 j1294]
                  refine lv_iload_n hx hb dX12_isFirstTurn_51 rfl (lv_at hl 3 rfl) ?_
                  refine lv_irem hx hb dX12_isFirstTurn_52 (nI_ne0 (by omega) (by omega)) ?_
                  rw [pk_rem (a := (j1296 + j1294)) (d := n) (by omega) (by omega) (by omega)]
                  have hq_1310 : ((j1296 + j1294) % n) ≤ (j1296 + j1294) := Nat.mod_le _ _
                  have hm_1311 : ((j1296 + j1294) % n) < n := Nat.mod_lt _ (by omega)
                  refine hp_iald hx hb hK hh (q := 12) rfl (hI.1 _ (by decide)) es1293 (vp_in_nI (n := ((j1296 + j1294) % n)) (by omega) (by decide)) dX12_isFirstTurn_53 ?_
                  rw [nI_clamp (n := ((j1296 + j1294) % n)) (by omega)]
                  rw [hfv_1306]
                  refine lv_aload_n hx hb dX12_isFirstTurn_54 rfl (lv_at hl 2 rfl) ?_
                  refine hp_get hx hb hts ix12 hown hK hh (q := 0) rfl (hI.1 _ (by decide)) es1292 rfl 21 (by decide) (hts _ tw_900) (fun _ h9 => h9) rfl dX12_isFirstTurn_55 ?_
                  refine lv_iload_n hx hb dX12_isFirstTurn_58 rfl (lv_at hl 0 rfl) ?_
                  refine hp_iald hx hb hK hh (q := 12) rfl (hI.1 _ (by decide)) es1293 (vp_in_nI (n := j1296) (by omega) (by decide)) dX12_isFirstTurn_59 ?_
                  rw [nI_clamp (n := j1296) (by omega)]
                  rw [hfv_1307]
                  refine lv_icmp_ge (tgt := 65) hx hb dX12_isFirstTurn_60 (by decide) (fun c_1312 => ?_) (fun c_1312 => ?_)
                  · have n_1312 : v_1307 ≤ v_1306 := n_le (a := v_1307) (b := v_1306) c_1312 (by omega) (by omega)
                    refine lv_iinc (v := (nI (j1294 + 1))) (lv' := [(2, .int (nI (j1294 + 1))), (3, .int (nI j1296)), (0, .ref (ad 0)), (1, .int (nI n))]) hx hb dX12_isFirstTurn_65 hl (k := 1) rfl (nI_1 _) (by decide) rfl (fun ls hl => ?_)
                    refine lv_goto (tgt := 2) hx hb dX12_isFirstTurn_68 (by decide) ?_
                    exact ih_1294 ((j1294 + 1))  ls H locs (by omega) (by omega) (by omega)  (lv_sub hl [0, 2, 3] rfl) hh
                  · have n_1312 : v_1306 < v_1307 := n_nle (a := v_1307) (b := v_1306) c_1312 (by omega) (by omega)
                    refine lv_iconst (v := 0) hx hb dX12_isFirstTurn_63 (by decide) ?_
                    exact hp_iretR hx hb hr rfl hlocks hsz hh (Or.inl rfl) dX12_isFirstTurn_64
              · have n_1308 : v_1306 = v_1307 := n_eq (a := v_1306) (b := v_1307) c_1308 (by omega) (by omega)
                refine lv_iinc (v := (nI (j1296 + 1))) (lv' := [(3, .int (nI (j1296 + 1))), (2, .int (nI j1294)), (0, .ref (ad 0)), (1, .int (nI n))]) hx hb dX12_isFirstTurn_33 hl (k := 0) rfl (nI_1 _) (by decide) rfl (fun ls hl => ?_)
                refine lv_goto (tgt := 9) hx hb dX12_isFirstTurn_36 (by decide) ?_
                exact ih_1296 ((j1296 + 1))  ls H locs (by omega) (by omega) (by omega)  (lv_sub hl [0, 1, 2, 3] rfl) hh
        exact loop_1296 (n + 1) 0  ls _ _ (Nat.le_refl _) (by omega) (by omega)  (lv_sub hl [0, 1, 2, 3] rfl) hh
  exact loop_1294 (n + 1) 1  ls _ _ (Nat.le_refl _) (by omega) (by omega)  (lv_sub hl [0, 1, 2] rfl) hh
theorem kw_X12_isFirstTurn {R : Room} {s : State} {args : Array Value} {own : String} {idx : Nat} (hts : ∀ w ∈ TB, w.before args s = true) (hl : Cond.methodLink own idx yX12_isFirstTurn ∈ TB) (hR : 0 + 1 ≤ R.frames ∧ 8 + (4 + 11) + 40 * 0 ≤ R.locals) : CallW R s args own RX12 idx yX12_isFirstTurn cX12_isFirstTurn 4 (some .boolean) (Cond.code yX12_isFirstTurn cX12_isFirstTurn 4 (some .boolean) :: TB) (rmN 0) 0 0 1 := cwV 1 hts (TB_V hl tw_1091 ts_48 tw_9 tw_1092) rfl rfl rfl (by decide +kernel) hR
set_option maxHeartbeats 4000000 in
set_option maxRecDepth 100000 in
/-- isRing -/
theorem c_X12_isRing (l : Launch) (D : va_G) (cy : Nat → ClassId) (sz : Nat) (cs : List Nat) (ad : Nat → Nat) (en : Nat → va_E) (hI : RX cy cs ad en) (n : Nat) (hn1 : 1 ≤ n) (hn12 : n ≤ 12)   : Met l yX12_isRing (Cond.code yX12_isRing cX12_isRing 2 (some .boolean) :: TB) (rmN 2) (va_Pc [.ref (ad 0), .int (nI n)] (Pre D cy cs ad en sz)) (va_Qi (S := Unit) (fun r _ => r = 0 ∨ r = 1) (fun _ _ => True) (Nf sz)) 0 0 (Nf sz) := by
  refine Met.ofW (cc := cX12_isRing) (maxL := 2) (ret := (some .boolean)) (by decide) rfl ?_
  intro p e s m args below meth c s₁ B hml hv
  obtain ⟨rfl, hsz, hP, hK, hD0⟩ := hv
  have hx := B.exec
  have hb := B.bytes
  have hr := B.returns
  have hts : ∀ w ∈ TB, w.before _ s = true := fun w h => atoms_spec (ws := _ :: TB) B.pre w (List.mem_cons_of_mem _ h)
  have hown : s.vm.findClass RX12 = some m.cls := findClass_of_methodNamed B.named
  have hlocks := B.notSynchronized
  have hh : Hp D (Nf sz) (fun _ => True) s.heap s.heap [] cs ad en := ⟨hP, hD0, va_S.rf⟩
  have hA : ∀ q : Nat, s.heap.size ≤ q → Nf sz q := fun q h => by rw [hsz] at h; exact h
  have hl := lv_entry ([.ref (ad 0), .int (nI n)]) (n := 2) (Nat.le_of_ble_eq_true rfl)
  rw [lg_entry_eq]
  generalize (lg_sl ([.ref (ad 0), .int (nI n)]) ++ List.replicate (2 - (lg_sl ([.ref (ad 0), .int (nI n)])).length) Slot.unset).toArray = ls at hl ⊢
  have hl : lv_has ls 2 [(0, .ref (ad 0)), (1, .int (nI n))] := hl
  obtain ⟨fa, hi, wd, mo, tb, dp, many, grt, lst, nou, rm, rb, pr, wo, es1313, hwd2, hwd3, hmo, htb, hwo⟩ := getr_M hI
  obtain ⟨f_1314, es1314, p0_1314⟩ := getr_ak hI
  refine lv_aload_n hx hb dX12_isRing_0 rfl (lv_at hl 0 rfl) ?_
  refine lv_iload_n hx hb dX12_isRing_1 rfl (lv_at hl 1 rfl) ?_
  refine hp_callRi (va_runV (As := [.int (nI n)]) (rest := []) ⟨hx, hb, hml, hown, hts⟩ (c_X12_isAllowed l D cy _ cs ad en hI n (by omega) (by omega)) (kw_X12_isAllowed hts tw_1081 ⟨by decide, by decide⟩) (preV_of hh hK (hI.1 _ (by decide)) es1313 rfl) rfl rfl hl.1 rfl (lv_room (Nat.le_of_ble_eq_true rfl)) dX12_isRing_2 ⟨Nat.le_of_ble_eq_true rfl, Nat.le_of_ble_eq_true rfl⟩) hh hA (fun r_1315 H locs hw_1315 hh => ?_)
  rcases hw_1315 with hb_1315 | hb_1315
  · obtain rfl : r_1315 = 0 := hb_1315
    refine lv_if_eq (tgt := 50) hx hb dX12_isRing_5 (by decide) (fun _ => ?_) (fun c_0 => absurd c_0 (by decide))
    refine lv_iconst (v := 0) hx hb dX12_isRing_50 (by decide) ?_
    exact hp_iretR hx hb hr rfl hlocks hsz hh (Or.inl rfl) dX12_isRing_51
  · obtain rfl : r_1315 = 1 := hb_1315
    refine lv_if_eq (tgt := 50) hx hb dX12_isRing_5 (by decide) (fun c_0 => absurd c_0 (by decide)) (fun _ => ?_)
    refine lv_aload_n hx hb dX12_isRing_8 rfl (lv_at hl 0 rfl) ?_
    refine lv_aload_n hx hb dX12_isRing_9 rfl (lv_at hl 0 rfl) ?_
    refine hp_get hx hb hts ix12 hown hK hh (q := 0) rfl (hI.1 _ (by decide)) es1313 rfl 21 (by decide) (hts _ tw_900) (fun _ h9 => h9) rfl dX12_isRing_10 ?_
    refine lv_iload_n hx hb dX12_isRing_13 rfl (lv_at hl 1 rfl) ?_
    refine lv_iconst (v := 1) hx hb dX12_isRing_14 (by decide) ?_
    refine lv_isub hx hb dX12_isRing_15 ?_
    rw [show (1 : Int32) = nI 1 from rfl, pk_sub (a := n) (b := 1) (by omega)]
    refine hp_iald hx hb hK hh (q := 12) rfl (hI.1 _ (by decide)) es1314 (vp_in_nI (n := (n - 1)) (by omega) (by decide)) dX12_isRing_16 ?_
    rw [nI_clamp (n := (n - 1)) (by omega)]
    obtain ⟨v_1316, hv_1316, hfv_1316⟩ := p0_1314 (n - 1) (by omega)
    rw [hfv_1316]
    refine lv_aload_n hx hb dX12_isRing_17 rfl (lv_at hl 0 rfl) ?_
    refine hp_get hx hb hts ix12 hown hK hh (q := 0) rfl (hI.1 _ (by decide)) es1313 rfl 21 (by decide) (hts _ tw_900) (fun _ h9 => h9) rfl dX12_isRing_18 ?_
    refine lv_iconst (v := 0) hx hb dX12_isRing_21 (by decide) ?_
    rw [show (0 : Int32) = nI 0 from rfl]
    refine hp_iald hx hb hK hh (q := 12) rfl (hI.1 _ (by decide)) es1314 (vp_in_nI (n := 0) (by decide) (by decide)) dX12_isRing_22 ?_
    rw [nI_clamp (n := 0) (by decide)]
    obtain ⟨v_1317, hv_1317, hfv_1317⟩ := p0_1314 0 (by decide)
    rw [hfv_1317]
    refine hp_callRi (va_runV (As := [.int (nI v_1316), .int (nI v_1317)]) (rest := []) ⟨hx, hb, hml, hown, hts⟩ (c_X12_mayFollow l D cy _ cs ad en hI v_1316 v_1317 (by omega) (by omega)) (kw_X12_mayFollow hts tw_1029 ⟨by decide, by decide⟩) (preV_of hh hK (hI.1 _ (by decide)) es1313 rfl) rfl rfl hl.1 rfl (lv_room (Nat.le_of_ble_eq_true rfl)) dX12_isRing_23 ⟨Nat.le_of_ble_eq_true rfl, Nat.le_of_ble_eq_true rfl⟩) hh hA (fun r_1318 H locs hw_1318 hh => ?_)
    rcases Decidable.em (rdF (en 2) (6 * v_1316 + v_1317) = 0) with hp_1318 | hp_1318
    · obtain rfl : r_1318 = 1 := Eq.trans hw_1318 (if_pos hp_1318)
      refine lv_if_eq (tgt := 50) hx hb dX12_isRing_26 (by decide) (fun c_0 => absurd c_0 (by decide)) (fun _ => ?_)
      refine lv_aload_n hx hb dX12_isRing_29 rfl (lv_at hl 0 rfl) ?_
      refine lv_iload_n hx hb dX12_isRing_30 rfl (lv_at hl 1 rfl) ?_
      refine hp_callRi (va_runV (As := [.int (nI n)]) (rest := []) ⟨hx, hb, hml, hown, hts⟩ (c_X12_timesOf l D cy _ cs ad en hI n (by omega) (by omega)) (kw_X12_timesOf hts tw_1085 ⟨by decide, by decide⟩) (preV_of hh hK (hI.1 _ (by decide)) es1313 rfl) rfl rfl hl.1 rfl (lv_room (Nat.le_of_ble_eq_true rfl)) dX12_isRing_31 ⟨Nat.le_of_ble_eq_true rfl, Nat.le_of_ble_eq_true rfl⟩) hh hA (fun r_1319 H locs hw_1319 hh => ?_)
      refine lv_iconst (v := 1) hx hb dX12_isRing_34 (by decide) ?_
      refine lv_icmp_ne (tgt := 50) hx hb dX12_isRing_35 (by decide) (fun c_1320 => ?_) (fun c_1320 => ?_)
      · refine lv_iconst (v := 0) hx hb dX12_isRing_50 (by decide) ?_
        exact hp_iretR hx hb hr rfl hlocks hsz hh (Or.inl rfl) dX12_isRing_51
      · refine lv_aload_n hx hb dX12_isRing_38 rfl (lv_at hl 0 rfl) ?_
        refine lv_iload_n hx hb dX12_isRing_39 rfl (lv_at hl 1 rfl) ?_
        refine hp_callRi (va_runV (As := [.int (nI n)]) (rest := []) ⟨hx, hb, hml, hown, hts⟩ (c_X12_isFirstTurn l D cy _ cs ad en hI n (by omega) (by omega)) (kw_X12_isFirstTurn hts tw_1089 ⟨by decide, by decide⟩) (preV_of hh hK (hI.1 _ (by decide)) es1313 rfl) rfl rfl hl.1 rfl (lv_room (Nat.le_of_ble_eq_true rfl)) dX12_isRing_40 ⟨Nat.le_of_ble_eq_true rfl, Nat.le_of_ble_eq_true rfl⟩) hh hA (fun r_1321 H locs hw_1321 hh => ?_)
        rcases hw_1321 with hb_1321 | hb_1321
        · obtain rfl : r_1321 = 0 := hb_1321
          refine lv_if_eq (tgt := 50) hx hb dX12_isRing_43 (by decide) (fun _ => ?_) (fun c_0 => absurd c_0 (by decide))
          refine lv_iconst (v := 0) hx hb dX12_isRing_50 (by decide) ?_
          exact hp_iretR hx hb hr rfl hlocks hsz hh (Or.inl rfl) dX12_isRing_51
        · obtain rfl : r_1321 = 1 := hb_1321
          refine lv_if_eq (tgt := 50) hx hb dX12_isRing_43 (by decide) (fun c_0 => absurd c_0 (by decide)) (fun _ => ?_)
          refine lv_iconst (v := 1) hx hb dX12_isRing_46 (by decide) ?_
          refine lv_goto (tgt := 51) hx hb dX12_isRing_47 (by decide) ?_
          exact hp_iretR hx hb hr rfl hlocks hsz hh (Or.inr rfl) dX12_isRing_51
    · obtain rfl : r_1318 = 0 := Eq.trans hw_1318 (if_neg hp_1318)
      refine lv_if_eq (tgt := 50) hx hb dX12_isRing_26 (by decide) (fun _ => ?_) (fun c_0 => absurd c_0 (by decide))
      refine lv_iconst (v := 0) hx hb dX12_isRing_50 (by decide) ?_
      exact hp_iretR hx hb hr rfl hlocks hsz hh (Or.inl rfl) dX12_isRing_51
theorem kw_X12_isRing {R : Room} {s : State} {args : Array Value} {own : String} {idx : Nat} (hts : ∀ w ∈ TB, w.before args s = true) (hl : Cond.methodLink own idx yX12_isRing ∈ TB) (hR : 2 + 1 ≤ R.frames ∧ 8 + (2 + 11) + 40 * 2 ≤ R.locals) : CallW R s args own RX12 idx yX12_isRing cX12_isRing 2 (some .boolean) (Cond.code yX12_isRing cX12_isRing 2 (some .boolean) :: TB) (rmN 2) 0 0 1 := cwV 1 hts (TB_V hl tw_1079 ts_45 tw_9 tw_1080) rfl rfl rfl (by decide +kernel) hR
