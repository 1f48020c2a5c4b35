set_option maxHeartbeats 4000000 in
set_option maxRecDepth 100000 in
/-- beginWords -/
theorem c_X12_beginWords (l : Launch) (D : va_G) (cy : Nat → ClassId) (sz : Nat) (cs : List Nat) (ad : Nat → Nat) (en : Nat → va_E) (hI : RX cy cs ad en)    : Met l yX12_beginWords (Cond.code yX12_beginWords cX12_beginWords 1 none :: TB) (rmN 1) (va_Pc [.ref (ad 0)] (Pre D cy cs ad en sz)) (va_Qv (S := Nat → va_E) (fun en1 => RX cy cs ad en1 ∧ (∀ c, (c ≠ 0 ∧ c ≠ 6 ∧ c ≠ 7) → en1 c = en c) ∧ rdI (en1 0) 14 = nI 0 ∧ rdF (en1 7) 0 = -1 ∧ KP en en1) (PostM D cs ad) (Af cs ad sz)) 0 0 (Af cs ad sz) := by
  refine Met.ofW (cc := cX12_beginWords) (maxL := 1) (ret := none) (by decide) rfl ?_
  intro p e s m args below meth c s₁ B hml hv
  obtain ⟨rfl, hsz, hP, hK, hD0⟩ := hv
  have hx := B.exec
  have hb := B.bytes
  have hr := B.returns
  have hts : ∀ w ∈ TB, w.before _ s = true := fun w h => atoms_spec (ws := _ :: TB) B.pre w (List.mem_cons_of_mem _ h)
  have hown : s.vm.findClass RX12 = some m.cls := findClass_of_methodNamed B.named
  have hlocks := B.notSynchronized
  have hh : Hp D (Af cs ad sz) (Af cs ad sz) s.heap s.heap [] cs ad en := ⟨hP, Af_self hD0, va_S.rf⟩
  have hA : ∀ q : Nat, s.heap.size ≤ q → Af cs ad sz q := fun q h => Or.inr (by rw [hsz] at h; exact h)
  have hl := lv_entry ([.ref (ad 0)]) (n := 1) (Nat.le_of_ble_eq_true rfl)
  rw [lg_entry_eq]
  generalize (lg_sl ([.ref (ad 0)]) ++ List.replicate (1 - (lg_sl ([.ref (ad 0)])).length) Slot.unset).toArray = ls at hl ⊢
  have hl : lv_has ls 1 [(0, .ref (ad 0))] := hl
  have hf0 : ∀ c, (c ≠ 0 ∧ c ≠ 6 ∧ c ≠ 7) → en c = en c := fun _ _ => rfl
  obtain ⟨fa, hi, wd, mo, tb, dp, many, grt, lst, nou, rm, rb, pr, wo, es1311, hwd2, hwd3, hmo, htb, hwo⟩ := getr_M hI
  refine lv_aload_n hx hb dX12_beginWords_0 rfl (lv_at hl 0 rfl) ?_
  refine hp_callMv (va_runV (As := []) (rest := []) ⟨hx, hb, hml, hown, hts⟩ (c_X12_beginLevels l D cy _ cs ad en hI  ) (kw_X12_beginLevels hts tw_1042 ⟨by decide, by decide⟩) (preV_of hh hK (hI.1 _ (by decide)) es1311 rfl) rfl rfl hl.1 rfl (lv_room (Nat.le_of_ble_eq_true rfl)) dX12_beginWords_1 ⟨Nat.le_of_ble_eq_true rfl, Nat.le_of_ble_eq_true rfl⟩) hh hA (fun H locs en_1312 hw_1312 hh => ?_)
  obtain ⟨hI_1312, hu_1312, hx_1312⟩ := hw_1312
  have es1311_1312 : en_1312 0 = .inr (11, [.int fa, .int hi, .int (nI wd), .int (nI mo), .int (nI tb), .ref (ad 1), .ref (ad 2), .ref (ad 3), .ref (ad 4), .ref (ad 5), .ref (ad 6), .ref (ad 7), .ref (ad 8), .ref (ad 9), .int dp, .long many, .long grt, .long lst, .long nou, .ref (ad 10), .ref (ad 11), .ref (ad 12), .int rm, .long rb, .ref (ad 13), .int pr, .ref (ad 14), .ref (ad 15), .ref (ad 16), .ref (ad 17), .int (nI wo), .ref (ad 18), .ref (ad 19)]) := (hu_1312 0 (by omega)).trans es1311
  have hf_1312 : ∀ c, (c ≠ 0 ∧ c ≠ 6 ∧ c ≠ 7) → en_1312 c = en c := fun c hc => (hu_1312 c (by omega)).trans (hf0 c hc)
  have hkp_1312 : KP en en_1312 := KP_same (KP_rf en) (hu_1312 0 (by omega))
  refine lv_aload_n hx hb dX12_beginWords_4 rfl (lv_at hl 0 rfl) ?_
  refine lv_iconst (v := 0) hx hb dX12_beginWords_5 (by decide) ?_
  refine hp_put hx hb hts ix12 tyX12 tyX12_ok nmX12 hown hK hh (q := 0) rfl (hI.1 _ (by decide)) es1311_1312 rfl 14 (by decide) (hts _ tw_893) (fun _ h9 => h9) rfl (ty := .int) (by decide +kernel) rfl rfl (Nat.le_of_ble_eq_true rfl) dX12_beginWords_6 (fun H locs en_1313 hen_1313 hh => ?_)
  have es1311_1313 : en_1313 0 = .inr (11, [.int fa, .int hi, .int (nI wd), .int (nI mo), .int (nI tb), .ref (ad 1), .ref (ad 2), .ref (ad 3), .ref (ad 4), .ref (ad 5), .ref (ad 6), .ref (ad 7), .ref (ad 8), .ref (ad 9), .int 0, .long many, .long grt, .long lst, .long nou, .ref (ad 10), .ref (ad 11), .ref (ad 12), .int rm, .long rb, .ref (ad 13), .int pr, .ref (ad 14), .ref (ad 15), .ref (ad 16), .ref (ad 17), .int (nI wo), .ref (ad 18), .ref (ad 19)]) := by rw [hen_1313]; exact va_up_self _ _ _
  have hI_1313 : RX cy cs ad en_1313 := by rw [hen_1313]; exact upr_M hI_1312 ⟨fa, hi, wd, mo, tb, 0, many, grt, lst, nou, rm, rb, pr, wo, rfl, hwd2, hwd3, hmo, htb, hwo⟩
  have hf_1313 : ∀ c, (c ≠ 0 ∧ c ≠ 6 ∧ c ≠ 7) → en_1313 c = en c := fun c hc => Eq.trans (show en_1313 c = en_1312 c from by rw [hen_1313, va_up_ne _ _ (by omega)]) (hf_1312 c hc)
  have hkp_1313 : KP en en_1313 := KP_fv hkp_1312 es1311_1312 es1311_1313 hi (nI wd) (nI mo) (nI tb) pr (nI wo) rfl rfl rfl rfl rfl rfl rfl rfl rfl rfl rfl rfl
  refine lv_aload_n hx hb dX12_beginWords_9 rfl (lv_at hl 0 rfl) ?_
  refine hp_get hx hb hts ix12 hown hK hh (q := 0) rfl (hI.1 _ (by decide)) es1311_1313 rfl 11 (by decide) (hts _ tw_890) (fun _ h9 => h9) rfl dX12_beginWords_10 ?_
  refine lv_iconst (v := 0) hx hb dX12_beginWords_13 (by decide) ?_
  refine lv_iconst (v := (-1)) hx hb dX12_beginWords_14 (by decide) ?_
  obtain ⟨f_1314, es1314⟩ := getr_nw hI_1313
  rw [show (0 : Int32) = nI 0 from rfl]
  refine hp_iast hx hb hK hh (q := 7) rfl (hI.1 _ (by decide)) es1314 (vp_in_nI (n := 0) (by decide) (by decide)) dX12_beginWords_15 (fun H locs en_1315 hen_1315 hh => ?_)
  rw [nI_clamp (n := 0) (by decide)] at hen_1315
  have es1311_1315 : en_1315 0 = .inr (11, [.int fa, .int hi, .int (nI wd), .int (nI mo), .int (nI tb), .ref (ad 1), .ref (ad 2), .ref (ad 3), .ref (ad 4), .ref (ad 5), .ref (ad 6), .ref (ad 7), .ref (ad 8), .ref (ad 9), .int 0, .long many, .long grt, .long lst, .long nou, .ref (ad 10), .ref (ad 11), .ref (ad 12), .int rm, .long rb, .ref (ad 13), .int pr, .ref (ad 14), .ref (ad 15), .ref (ad 16), .ref (ad 17), .int (nI wo), .ref (ad 18), .ref (ad 19)]) := by rw [hen_1315, va_up_ne _ _ (by decide)]; exact es1311_1313
  have es1314_1315 : en_1315 7 = .inl (cy 0, 13, .inl (upd f_1314 0 (-1))) := by rw [hen_1315]; exact va_up_self _ _ _
  have hI_1315 : RX cy cs ad en_1315 := by rw [hen_1315]; exact upr_nw hI_1313 ⟨(upd f_1314 0 (-1)), rfl⟩
  have hf_1315 : ∀ c, (c ≠ 0 ∧ c ≠ 6 ∧ c ≠ 7) → en_1315 c = en c := fun c hc => Eq.trans (show en_1315 c = en_1313 c from by rw [hen_1315, va_up_ne _ _ (by omega)]) (hf_1313 c hc)
  have hkp_1315 : KP en en_1315 := KP_same hkp_1313 (show en_1315 0 = en_1313 0 from by rw [hen_1315, va_up_ne _ _ (by decide)])
  exact hp_vretM hx hb hr hlocks hh (⟨hI_1315, hf_1315, (by rw [es1311_1315]; rfl), (by rw [es1314_1315]; exact pk_us), hkp_1315⟩) dX12_beginWords_16
theorem kw_X12_beginWords {R : Room} {s : State} {args : Array Value} {own : String} {idx : Nat} (hts : ∀ w ∈ TB, w.before args s = true) (hl : Cond.methodLink own idx yX12_beginWords ∈ TB) (hR : 1 + 1 ≤ R.frames ∧ 8 + (1 + 11) + 40 * 1 ≤ R.locals) : CallW R s args own RX12 idx yX12_beginWords cX12_beginWords 1 none (Cond.code yX12_beginWords cX12_beginWords 1 none :: TB) (rmN 1) 0 0 0 := cwV 0 hts (TB_V hl tw_1040 ts_38 tw_9 tw_1041) rfl rfl rfl (by decide +kernel) hR
set_option maxHeartbeats 4000000 in
set_option maxRecDepth 100000 in
/-- next -/
theorem c_X12_next (l : Launch) (D : va_G) (cy : Nat → ClassId) (sz : Nat) (cs : List Nat) (ad : Nat → Nat) (en : Nat → va_E) (hI : RX cy cs ad en) (n : Nat) (hn1 : 1 ≤ n) (hn8 : n ≤ 8) (d u : Nat) (hND : ND en n d u)   : Met l yX12_next (Cond.code yX12_next cX12_next 2 (some .boolean) :: TB) (rmN 2) (va_Pc [.ref (ad 0), .int (nI n)] (Pre D cy cs ad en sz)) (va_Qi (S := Nat → va_E) (fun r en1 => RX cy cs ad en1 ∧ (∀ c, (c ≠ 0 ∧ c ≠ 6 ∧ c ≠ 7) → en1 c = en c) ∧ (r = 0 ∨ (r = 1 ∧ ∃ u1, ND en1 n (n - 1) u1 ∧ 1 ≤ u1 ∧ nmv (rdF (en 7)) d u < nmv (rdF (en1 7)) (n - 1) u1)) ∧ KP en en1) (PostM D cs ad) (Af cs ad sz)) 0 0 (Af cs ad sz) := by
  refine Met.ofW (cc := cX12_next) (maxL := 2) (ret := (some .boolean)) (by decide) rfl ?_
  intro p e s m args below meth c s₁ B hml hv
  obtain ⟨rfl, hsz, hP, hK, hD0⟩ := hv
  have hx := B.exec
  have hb := B.bytes
  have hr := B.returns
  have hts : ∀ w ∈ TB, w.before _ s = true := fun w h => atoms_spec (ws := _ :: TB) B.pre w (List.mem_cons_of_mem _ h)
  have hown : s.vm.findClass RX12 = some m.cls := findClass_of_methodNamed B.named
  have hlocks := B.notSynchronized
  have hh : Hp D (Af cs ad sz) (Af cs ad sz) s.heap s.heap [] cs ad en := ⟨hP, Af_self hD0, va_S.rf⟩
  have hA : ∀ q : Nat, s.heap.size ≤ q → Af cs ad sz q := fun q h => Or.inr (by rw [hsz] at h; exact h)
  have hl := lv_entry ([.ref (ad 0), .int (nI n)]) (n := 2) (Nat.le_of_ble_eq_true rfl)
  rw [lg_entry_eq]
  generalize (lg_sl ([.ref (ad 0), .int (nI n)]) ++ List.replicate (2 - (lg_sl ([.ref (ad 0), .int (nI n)])).length) Slot.unset).toArray = ls at hl ⊢
  have hl : lv_has ls 2 [(0, .ref (ad 0)), (1, .int (nI n))] := hl
  have hf0 : ∀ c, (c ≠ 0 ∧ c ≠ 6 ∧ c ≠ 7) → en c = en c := fun _ _ => rfl
  obtain ⟨fa, hi, wd, mo, tb, dp, many, grt, lst, nou, rm, rb, pr, wo, es1316, hwd2, hwd3, hmo, htb, hwo⟩ := getr_M hI
  obtain ⟨hd1, hd2, hd3⟩ := hND
  rcases hd2 with hd2 | ⟨hd2, hd4⟩
  · have hdp : dp = nI d := (show dp = rdI (en 0) 14 from by rw [es1316]; rfl).trans hd2
    rw [hdp] at es1316
    refine lv_aload_n hx hb dX12_next_0 rfl (lv_at hl 0 rfl) ?_
    refine hp_get hx hb hts ix12 hown hK hh (q := 0) rfl (hI.1 _ (by decide)) es1316 rfl 14 (by decide) (hts _ tw_893) (fun _ h9 => h9) rfl dX12_next_1 ?_
    refine lv_iload_n hx hb dX12_next_4 rfl (lv_at hl 1 rfl) ?_
    refine lv_icmp_ne (tgt := 18) hx hb dX12_next_5 (by decide) (fun c_1317 => ?_) (fun c_1317 => ?_)
    · have n_1317 : d ≠ n := n_neq (a := d) (b := n) c_1317 (by omega) (by omega)
      have loop_1318 : ∀ (fu mm1318 : Nat)  (d1318 : Nat) (u1318 : Nat) (en_1318 : Nat → va_E) (ls : Array Slot) (H : Heap) (locs : List Loc), mm1318 < fu → RX cy cs ad en_1318 → (∀ c, (c ≠ 0 ∧ c ≠ 6 ∧ c ≠ 7) → en_1318 c = en c) → (rdI (en_1318 0) 14 = nI d1318 ∧ d1318 < n) → (NWp (rdF (en_1318 7)) d1318 u1318) → (134217728 ≤ nmv (rdF (en_1318 7)) d1318 u1318 + mm1318 ∧ nmv (rdF (en 7)) d u ≤ nmv (rdF (en_1318 7)) d1318 u1318) → (KP en en_1318) → lv_has ls 2 [(0, .ref (ad 0)), (1, .int (nI n))] → Hp D (Af cs ad sz) (Af cs ad sz) s.heap H locs cs ad en_1318 → W p l e (headSpec (Cond.code yX12_next cX12_next 2 (some .boolean) :: TB) (rmN 2)).room s m ([.ref (ad 0), .int (nI n)] : List Value).toArray below meth c H locs 0 0 (MQ below (va_Qi (S := Nat → va_E) (fun r en1 => RX cy cs ad en1 ∧ (∀ c, (c ≠ 0 ∧ c ≠ 6 ∧ c ≠ 7) → en1 c = en c) ∧ (r = 0 ∨ (r = 1 ∧ ∃ u1, ND en1 n (n - 1) u1 ∧ 1 ≤ u1 ∧ nmv (rdF (en 7)) d u < nmv (rdF (en1 7)) (n - 1) u1)) ∧ KP en en1) (PostM D cs ad) (Af cs ad sz)) ([.ref (ad 0), .int (nI n)] : List Value).toArray s 0 0 (Af cs ad sz)) (F0 m 18 ls []) := by
        intro fu
        induction fu with
        | zero => intro mm1318 d1318 u1318 en_1318 ls H locs h2; exact absurd h2 (by omega)
        | succ fu ih_1318 =>
          intro mm1318 d1318 u1318 en_1318 ls H locs hmm_1318 hI_1318 hf_1318 i0_1318 i1_1318 i2_1318 i3_1318 hl hh
          have hlt_1318 := nmv_lt i1_1318 (by omega)
          refine lv_aload_n hx hb dX12_next_18 rfl (lv_at hl 0 rfl) ?_
          obtain ⟨fa_1319, hi_1319, wd_1319, mo_1319, tb_1319, dp_1319, many_1319, grt_1319, lst_1319, nou_1319, rm_1319, rb_1319, pr_1319, wo_1319, es1319, p0_1319, p1_1319, p2_1319, p3_1319, p4_1319⟩ := getr_M hI_1318
          have hq2_1320 : wd_1319 = wd := n_eq ((show nI wd_1319 = rdI (en_1318 0) 2 from by rw [es1319]; rfl).trans (i3_1318.2.1.trans (show rdI (en 0) 2 = nI wd from by rw [es1316]; rfl))) (by omega) (by omega)
          have hq3_1320 : mo_1319 = mo := n_eq ((show nI mo_1319 = rdI (en_1318 0) 3 from by rw [es1319]; rfl).trans (i3_1318.2.2.1.trans (show rdI (en 0) 3 = nI mo from by rw [es1316]; rfl))) (by omega) (by omega)
          have hq4_1320 : tb_1319 = tb := n_eq ((show nI tb_1319 = rdI (en_1318 0) 4 from by rw [es1319]; rfl).trans (i3_1318.2.2.2.1.trans (show rdI (en 0) 4 = nI tb from by rw [es1316]; rfl))) (by omega) (by omega)
          have hq30_1320 : wo_1319 = wo := n_eq ((show nI wo_1319 = rdI (en_1318 0) 30 from by rw [es1319]; rfl).trans (i3_1318.2.2.2.2.2.trans (show rdI (en 0) 30 = nI wo from by rw [es1316]; rfl))) (by omega) (by omega)
          rw [hq2_1320, hq3_1320, hq4_1320, hq30_1320] at es1319
          have hdp_1321 : dp_1319 = nI d1318 := (show dp_1319 = rdI (en_1318 0) 14 from by rw [es1319]; rfl).trans (i0_1318.1)
          rw [hdp_1321] at es1319
          refine hp_get hx hb hts ix12 hown hK hh (q := 0) rfl (hI.1 _ (by decide)) es1319 rfl 14 (by decide) (hts _ tw_893) (fun _ h9 => h9) rfl dX12_next_19 ?_
          refine lv_if_lt (tgt := 183) hx hb dX12_next_22 (by decide) (fun c_1322 => ?_) (fun c_1322 => ?_)
          · have n_1322 : d1318 < 0 := n_lt (a := d1318) (b := 0) c_1322 (by omega) (by decide)
            exact absurd n_1322 (by omega)
          · have n_1322 : 0 ≤ d1318 := n_nlt (a := d1318) (b := 0) c_1322 (by omega) (by decide)
            refine lv_aload_n hx hb dX12_next_25 rfl (lv_at hl 0 rfl) ?_
            refine hp_get hx hb hts ix12 hown hK hh (q := 0) rfl (hI.1 _ (by decide)) es1319 rfl 11 (by decide) (hts _ tw_890) (fun _ h9 => h9) rfl dX12_next_26 ?_
            refine lv_aload_n hx hb dX12_next_29 rfl (lv_at hl 0 rfl) ?_
            refine hp_get hx hb hts ix12 hown hK hh (q := 0) rfl (hI.1 _ (by decide)) es1319 rfl 14 (by decide) (hts _ tw_893) (fun _ h9 => h9) rfl dX12_next_30 ?_
            refine lv_dup2_11 hx hb dX12_next_33 rfl rfl ?_
            obtain ⟨f_1323, es1323⟩ := getr_nw hI_1318
            refine hp_iald hx hb hK hh (q := 7) rfl (hI.1 _ (by decide)) es1323 (vp_in_nI (n := d1318) (by omega) (by decide)) dX12_next_34 ?_
            rw [nI_clamp (n := d1318) (by omega)]
            refine lv_iconst (v := 1) hx hb dX12_next_35 (by decide) ?_
            refine lv_iadd hx hb dX12_next_36 ?_
            rw [show f_1323 d1318 + 1 = nI u1318 from (show f_1323 d1318 + 1 = rdF (en_1318 7) d1318 + 1 from by rw [es1323]; rfl).trans i1_1318.2.1]
            refine hp_iast hx hb hK hh (q := 7) rfl (hI.1 _ (by decide)) es1323 (vp_in_nI (n := d1318) (by omega) (by decide)) dX12_next_37 (fun H locs en_1324 hen_1324 hh => ?_)
            rw [nI_clamp (n := d1318) (by omega)] at hen_1324
            have es1319_1324 : en_1324 0 = .inr (11, [.int fa_1319, .int hi_1319, .int (nI wd), .int (nI mo), .int (nI tb), .ref (ad 1), .ref (ad 2), .ref (ad 3), .ref (ad 4), .ref (ad 5), .ref (ad 6), .ref (ad 7), .ref (ad 8), .ref (ad 9), .int (nI d1318), .long many_1319, .long grt_1319, .long lst_1319, .long nou_1319, .ref (ad 10), .ref (ad 11), .ref (ad 12), .int rm_1319, .long rb_1319, .ref (ad 13), .int pr_1319, .ref (ad 14), .ref (ad 15), .ref (ad 16), .ref (ad 17), .int (nI wo), .ref (ad 18), .ref (ad 19)]) := by rw [hen_1324, va_up_ne _ _ (by decide)]; exact es1319
            have es1323_1324 : en_1324 7 = .inl (cy 0, 13, .inl (upd f_1323 d1318 (nI u1318))) := by rw [hen_1324]; exact va_up_self _ _ _
            have hI_1324 : RX cy cs ad en_1324 := by rw [hen_1324]; exact upr_nw hI_1318 ⟨(upd f_1323 d1318 (nI u1318)), rfl⟩
            have hf_1324 : ∀ c, (c ≠ 0 ∧ c ≠ 6 ∧ c ≠ 7) → en_1324 c = en c := fun c hc => Eq.trans (show en_1324 c = en_1318 c from by rw [hen_1324, va_up_ne _ _ (by omega)]) (hf_1318 c hc)
            have hkp_1324 : KP en en_1324 := KP_same i3_1318 (show en_1324 0 = en_1318 0 from by rw [hen_1324, va_up_ne _ _ (by decide)])
            have hno_1324 : ∀ i, i ≠ d1318 → rdF (en_1324 7) i = rdF (en_1318 7) i := fun i hi => by rw [es1323_1324, es1323]; exact pk_un hi
            have hnv_1324 : rdF (en_1324 7) d1318 = (nI u1318) := by rw [es1323_1324]; exact pk_us
            have loop_1325 : ∀ (fu mm1325 : Nat)  (w1325 : Nat) (en_1325 : Nat → va_E) (ls : Array Slot) (H : Heap) (locs : List Loc), mm1325 < fu → RX cy cs ad en_1325 → (∀ c, (c ≠ 0 ∧ c ≠ 6 ∧ c ≠ 7) → en_1325 c = en c) → (rdI (en_1325 0) 14 = nI d1318) → (rdF (en_1325 7) d1318 = nI w1325 ∧ u1318 ≤ w1325 ∧ w1325 ≤ 6) → (∀ i, i < d1318 → rdF (en_1325 7) i = rdF (en_1318 7) i) → (7 ≤ w1325 + mm1325) → (KP en en_1325) → lv_has ls 2 [(0, .ref (ad 0)), (1, .int (nI n))] → Hp D (Af cs ad sz) (Af cs ad sz) s.heap H locs cs ad en_1325 → W p l e (headSpec (Cond.code yX12_next cX12_next 2 (some .boolean) :: TB) (rmN 2)).room s m ([.ref (ad 0), .int (nI n)] : List Value).toArray below meth c H locs 0 0 (MQ below (va_Qi (S := Nat → va_E) (fun r en1 => RX cy cs ad en1 ∧ (∀ c, (c ≠ 0 ∧ c ≠ 6 ∧ c ≠ 7) → en1 c = en c) ∧ (r = 0 ∨ (r = 1 ∧ ∃ u1, ND en1 n (n - 1) u1 ∧ 1 ≤ u1 ∧ nmv (rdF (en 7)) d u < nmv (rdF (en1 7)) (n - 1) u1)) ∧ KP en en1) (PostM D cs ad) (Af cs ad sz)) ([.ref (ad 0), .int (nI n)] : List Value).toArray s 0 0 (Af cs ad sz)) (F0 m 38 ls []) := by
              intro fu
              induction fu with
              | zero => intro mm1325 w1325 en_1325 ls H locs h2; exact absurd h2 (by omega)
              | succ fu ih_1325 =>
                intro mm1325 w1325 en_1325 ls H locs hmm_1325 hI_1325 hf_1325 i0_1325 i1_1325 i2_1325 i3_1325 i4_1325 hl hh
                refine lv_aload_n hx hb dX12_next_38 rfl (lv_at hl 0 rfl) ?_
                obtain ⟨fa_1326, hi_1326, wd_1326, mo_1326, tb_1326, dp_1326, many_1326, grt_1326, lst_1326, nou_1326, rm_1326, rb_1326, pr_1326, wo_1326, es1326, p0_1326, p1_1326, p2_1326, p3_1326, p4_1326⟩ := getr_M hI_1325
                have hq2_1327 : wd_1326 = wd := n_eq ((show nI wd_1326 = rdI (en_1325 0) 2 from by rw [es1326]; rfl).trans (i4_1325.2.1.trans (show rdI (en 0) 2 = nI wd from by rw [es1316]; rfl))) (by omega) (by omega)
                have hq3_1327 : mo_1326 = mo := n_eq ((show nI mo_1326 = rdI (en_1325 0) 3 from by rw [es1326]; rfl).trans (i4_1325.2.2.1.trans (show rdI (en 0) 3 = nI mo from by rw [es1316]; rfl))) (by omega) (by omega)
                have hq4_1327 : tb_1326 = tb := n_eq ((show nI tb_1326 = rdI (en_1325 0) 4 from by rw [es1326]; rfl).trans (i4_1325.2.2.2.1.trans (show rdI (en 0) 4 = nI tb from by rw [es1316]; rfl))) (by omega) (by omega)
                have hq30_1327 : wo_1326 = wo := n_eq ((show nI wo_1326 = rdI (en_1325 0) 30 from by rw [es1326]; rfl).trans (i4_1325.2.2.2.2.2.trans (show rdI (en 0) 30 = nI wo from by rw [es1316]; rfl))) (by omega) (by omega)
                rw [hq2_1327, hq3_1327, hq4_1327, hq30_1327] at es1326
                have hdp_1328 : dp_1326 = nI d1318 := (show dp_1326 = rdI (en_1325 0) 14 from by rw [es1326]; rfl).trans (i0_1325)
                rw [hdp_1328] at es1326
                refine hp_get hx hb hts ix12 hown hK hh (q := 0) rfl (hI.1 _ (by decide)) es1326 rfl 11 (by decide) (hts _ tw_890) (fun _ h9 => h9) rfl dX12_next_39 ?_
                refine lv_aload_n hx hb dX12_next_42 rfl (lv_at hl 0 rfl) ?_
                refine hp_get hx hb hts ix12 hown hK hh (q := 0) rfl (hI.1 _ (by decide)) es1326 rfl 14 (by decide) (hts _ tw_893) (fun _ h9 => h9) rfl dX12_next_43 ?_
                obtain ⟨f_1329, es1329⟩ := getr_nw hI_1325
                refine hp_iald hx hb hK hh (q := 7) rfl (hI.1 _ (by decide)) es1329 (vp_in_nI (n := d1318) (by omega) (by decide)) dX12_next_46 ?_
                rw [nI_clamp (n := d1318) (by omega)]
                rw [show f_1329 d1318 = nI w1325 from (show f_1329 d1318 = rdF (en_1325 7) d1318 from by rw [es1329]; rfl).trans i1_1325.1]
                refine lv_aload_n hx hb dX12_next_47 rfl (lv_at hl 0 rfl) ?_
                refine hp_get hx hb hts ix12 hown hK hh (q := 0) rfl (hI.1 _ (by decide)) es1326 rfl 4 (by decide) (hts _ tw_883) (fun _ h9 => h9) rfl dX12_next_48 ?_
                refine lv_icmp_ge (tgt := 104) hx hb dX12_next_51 (by decide) (fun c_1330 => ?_) (fun c_1330 => ?_)
                · have n_1330 : tb ≤ w1325 := n_le (a := tb) (b := w1325) c_1330 (by omega) (by omega)
                  refine lv_aload_n hx hb dX12_next_104 rfl (lv_at hl 0 rfl) ?_
                  refine hp_get hx hb hts ix12 hown hK hh (q := 0) rfl (hI.1 _ (by decide)) es1326 rfl 11 (by decide) (hts _ tw_890) (fun _ h9 => h9) rfl dX12_next_105 ?_
                  refine lv_aload_n hx hb dX12_next_108 rfl (lv_at hl 0 rfl) ?_
                  refine hp_get hx hb hts ix12 hown hK hh (q := 0) rfl (hI.1 _ (by decide)) es1326 rfl 14 (by decide) (hts _ tw_893) (fun _ h9 => h9) rfl dX12_next_109 ?_
                  refine hp_iald hx hb hK hh (q := 7) rfl (hI.1 _ (by decide)) es1329 (vp_in_nI (n := d1318) (by omega) (by decide)) dX12_next_112 ?_
                  rw [nI_clamp (n := d1318) (by omega)]
                  rw [show f_1329 d1318 = nI w1325 from (show f_1329 d1318 = rdF (en_1325 7) d1318 from by rw [es1329]; rfl).trans i1_1325.1]
                  refine lv_aload_n hx hb dX12_next_113 rfl (lv_at hl 0 rfl) ?_
                  refine hp_get hx hb hts ix12 hown hK hh (q := 0) rfl (hI.1 _ (by decide)) es1326 rfl 4 (by decide) (hts _ tw_883) (fun _ h9 => h9) rfl dX12_next_114 ?_
                  refine lv_icmp_lt (tgt := 133) hx hb dX12_next_117 (by decide) (fun c_1331 => ?_) (fun c_1331 => ?_)
                  · have n_1331 : w1325 < tb := n_lt (a := w1325) (b := tb) c_1331 (by omega) (by omega)
                    exact absurd n_1331 (by omega)
                  · have n_1331 : tb ≤ w1325 := n_nlt (a := w1325) (b := tb) c_1331 (by omega) (by omega)
                    rcases Nat.eq_zero_or_pos d1318 with hz9 | hz9
                    · have hz8 := hz9
                      refine lv_aload_n hx hb dX12_next_120 rfl (lv_at hl 0 rfl) ?_
                      refine lv_dup hx hb dX12_next_121 rfl ?_
                      refine hp_get hx hb hts ix12 hown hK hh (q := 0) rfl (hI.1 _ (by decide)) es1326 rfl 14 (by decide) (hts _ tw_893) (fun _ h9 => h9) rfl dX12_next_122 ?_
                      refine lv_iconst (v := 1) hx hb dX12_next_125 (by decide) ?_
                      refine lv_isub hx hb dX12_next_126 ?_
                      rw [show nI d1318 - (1 : Int32) = -1 from by rw [hz9]; decide]
                      refine hp_put hx hb hts ix12 tyX12 tyX12_ok nmX12 hown hK hh (q := 0) rfl (hI.1 _ (by decide)) es1326 rfl 14 (by decide) (hts _ tw_893) (fun _ h9 => h9) rfl (ty := .int) (by decide +kernel) rfl rfl (Nat.le_of_ble_eq_true rfl) dX12_next_127 (fun H locs en_1332 hen_1332 hh => ?_)
                      have es1329_1332 : en_1332 7 = .inl (cy 0, 13, .inl f_1329) := by rw [hen_1332, va_up_ne _ _ (by decide)]; exact es1329
                      have es1326_1332 : en_1332 0 = .inr (11, [.int fa_1326, .int hi_1326, .int (nI wd), .int (nI mo), .int (nI tb), .ref (ad 1), .ref (ad 2), .ref (ad 3), .ref (ad 4), .ref (ad 5), .ref (ad 6), .ref (ad 7), .ref (ad 8), .ref (ad 9), .int (-1), .long many_1326, .long grt_1326, .long lst_1326, .long nou_1326, .ref (ad 10), .ref (ad 11), .ref (ad 12), .int rm_1326, .long rb_1326, .ref (ad 13), .int pr_1326, .ref (ad 14), .ref (ad 15), .ref (ad 16), .ref (ad 17), .int (nI wo), .ref (ad 18), .ref (ad 19)]) := by rw [hen_1332]; exact va_up_self _ _ _
                      have hI_1332 : RX cy cs ad en_1332 := by rw [hen_1332]; exact upr_M hI_1325 ⟨fa_1326, hi_1326, wd, mo, tb, (-1), many_1326, grt_1326, lst_1326, nou_1326, rm_1326, rb_1326, pr_1326, wo, rfl, hwd2, hwd3, hmo, htb, hwo⟩
                      have hf_1332 : ∀ c, (c ≠ 0 ∧ c ≠ 6 ∧ c ≠ 7) → en_1332 c = en c := fun c hc => Eq.trans (show en_1332 c = en_1325 c from by rw [hen_1332, va_up_ne _ _ (by omega)]) (hf_1325 c hc)
                      have hkp_1332 : KP en en_1332 := KP_fv i4_1325 es1326 es1326_1332 hi_1326 (nI wd) (nI mo) (nI tb) pr_1326 (nI wo) rfl rfl rfl rfl rfl rfl rfl rfl rfl rfl rfl rfl
                      have hg7_1332 : ∀ i, rdF (en_1332 7) i = rdF (en_1325 7) i := fun i => by rw [hen_1332, va_up_ne _ _ (by decide)]
                      have ha_1332 : ∀ i, i < d1318 → rdF (en_1332 7) i = rdF (en_1318 7) i := fun i hi => (hg7_1332 i).trans (i2_1325 i hi)
                      have hwv_1332 : rdF (en_1332 7) d1318 = nI w1325 := (hg7_1332 d1318).trans i1_1325.1
                      refine lv_goto (tgt := 18) hx hb dX12_next_130 (by decide) ?_
                      refine lv_aload_n hx hb dX12_next_18 rfl (lv_at hl 0 rfl) ?_
                      refine hp_get hx hb hts ix12 hown hK hh (q := 0) rfl (hI.1 _ (by decide)) es1326_1332 rfl 14 (by decide) (hts _ tw_893) (fun _ h9 => h9) rfl dX12_next_19 ?_
                      refine lv_if_lt (tgt := 183) hx hb dX12_next_22 (by decide) (fun _ => ?_) (fun c_0 => absurd c_0 (by decide))
                      refine lv_iconst (v := 0) hx hb dX12_next_183 (by decide) ?_
                      exact hp_iretM hx hb hr rfl hlocks hh (⟨hI_1332, hf_1332, Or.inl rfl, hkp_1332⟩) dX12_next_184
                    · obtain ⟨v_1333, hv_1333, hve_1333⟩ := i1_1318.1 (d1318 - 1) (by omega)
                      refine lv_aload_n hx hb dX12_next_120 rfl (lv_at hl 0 rfl) ?_
                      refine lv_dup hx hb dX12_next_121 rfl ?_
                      refine hp_get hx hb hts ix12 hown hK hh (q := 0) rfl (hI.1 _ (by decide)) es1326 rfl 14 (by decide) (hts _ tw_893) (fun _ h9 => h9) rfl dX12_next_122 ?_
                      refine lv_iconst (v := 1) hx hb dX12_next_125 (by decide) ?_
                      refine lv_isub hx hb dX12_next_126 ?_
                      rw [show (1 : Int32) = nI 1 from rfl, pk_sub (a := d1318) (b := 1) (by omega)]
                      refine hp_put hx hb hts ix12 tyX12 tyX12_ok nmX12 hown hK hh (q := 0) rfl (hI.1 _ (by decide)) es1326 rfl 14 (by decide) (hts _ tw_893) (fun _ h9 => h9) rfl (ty := .int) (by decide +kernel) rfl rfl (Nat.le_of_ble_eq_true rfl) dX12_next_127 (fun H locs en_1334 hen_1334 hh => ?_)
                      have es1329_1334 : en_1334 7 = .inl (cy 0, 13, .inl f_1329) := by rw [hen_1334, va_up_ne _ _ (by decide)]; exact es1329
                      have es1326_1334 : en_1334 0 = .inr (11, [.int fa_1326, .int hi_1326, .int (nI wd), .int (nI mo), .int (nI tb), .ref (ad 1), .ref (ad 2), .ref (ad 3), .ref (ad 4), .ref (ad 5), .ref (ad 6), .ref (ad 7), .ref (ad 8), .ref (ad 9), .int (nI (d1318 - 1)), .long many_1326, .long grt_1326, .long lst_1326, .long nou_1326, .ref (ad 10), .ref (ad 11), .ref (ad 12), .int rm_1326, .long rb_1326, .ref (ad 13), .int pr_1326, .ref (ad 14), .ref (ad 15), .ref (ad 16), .ref (ad 17), .int (nI wo), .ref (ad 18), .ref (ad 19)]) := by rw [hen_1334]; exact va_up_self _ _ _
                      have hI_1334 : RX cy cs ad en_1334 := by rw [hen_1334]; exact upr_M hI_1325 ⟨fa_1326, hi_1326, wd, mo, tb, (nI (d1318 - 1)), many_1326, grt_1326, lst_1326, nou_1326, rm_1326, rb_1326, pr_1326, wo, rfl, hwd2, hwd3, hmo, htb, hwo⟩
                      have hf_1334 : ∀ c, (c ≠ 0 ∧ c ≠ 6 ∧ c ≠ 7) → en_1334 c = en c := fun c hc => Eq.trans (show en_1334 c = en_1325 c from by rw [hen_1334, va_up_ne _ _ (by omega)]) (hf_1325 c hc)
                      have hkp_1334 : KP en en_1334 := KP_fv i4_1325 es1326 es1326_1334 hi_1326 (nI wd) (nI mo) (nI tb) pr_1326 (nI wo) rfl rfl rfl rfl rfl rfl rfl rfl rfl rfl rfl rfl
                      have hg7_1334 : ∀ i, rdF (en_1334 7) i = rdF (en_1325 7) i := fun i => by rw [hen_1334, va_up_ne _ _ (by decide)]
                      have ha_1334 : ∀ i, i < d1318 → rdF (en_1334 7) i = rdF (en_1318 7) i := fun i hi => (hg7_1334 i).trans (i2_1325 i hi)
                      have hwv_1334 : rdF (en_1334 7) d1318 = nI w1325 := (hg7_1334 d1318).trans i1_1325.1
                      refine lv_goto (tgt := 18) hx hb dX12_next_130 (by decide) ?_
                      have hNB_1335 := NWp_back i1_1318 (by omega) (by omega) ha_1334 hv_1333 hve_1333
                      exact ih_1318 (mm1318 - 1) (d1318 - 1) (v_1333 + 1) en_1334 ls H locs (by omega) hI_1334 hf_1334 (⟨by rw [es1326_1334]; rfl, by omega⟩) (hNB_1335.1) (by have h1 := hNB_1335.2; have h2 := i2_1318; omega) (hkp_1334) (lv_sub hl [0, 1] rfl) hh
                · have n_1330 : w1325 < tb := n_nle (a := tb) (b := w1325) c_1330 (by omega) (by omega)
                  refine lv_aload_n hx hb dX12_next_54 rfl (lv_at hl 0 rfl) ?_
                  refine hp_get hx hb hts ix12 hown hK hh (q := 0) rfl (hI.1 _ (by decide)) es1326 rfl 14 (by decide) (hts _ tw_893) (fun _ h9 => h9) rfl dX12_next_55 ?_
                  refine lv_if_le (tgt := 104) hx hb dX12_next_58 (by decide) (fun c_1336 => ?_) (fun c_1336 => ?_)
                  · have n_1336 : d1318 ≤ 0 := n_le (a := d1318) (b := 0) c_1336 (by omega) (by decide)
                    refine lv_aload_n hx hb dX12_next_104 rfl (lv_at hl 0 rfl) ?_
                    refine hp_get hx hb hts ix12 hown hK hh (q := 0) rfl (hI.1 _ (by decide)) es1326 rfl 11 (by decide) (hts _ tw_890) (fun _ h9 => h9) rfl dX12_next_105 ?_
                    refine lv_aload_n hx hb dX12_next_108 rfl (lv_at hl 0 rfl) ?_
                    refine hp_get hx hb hts ix12 hown hK hh (q := 0) rfl (hI.1 _ (by decide)) es1326 rfl 14 (by decide) (hts _ tw_893) (fun _ h9 => h9) rfl dX12_next_109 ?_
                    refine hp_iald hx hb hK hh (q := 7) rfl (hI.1 _ (by decide)) es1329 (vp_in_nI (n := d1318) (by omega) (by decide)) dX12_next_112 ?_
                    rw [nI_clamp (n := d1318) (by omega)]
                    rw [show f_1329 d1318 = nI w1325 from (show f_1329 d1318 = rdF (en_1325 7) d1318 from by rw [es1329]; rfl).trans i1_1325.1]
                    refine lv_aload_n hx hb dX12_next_113 rfl (lv_at hl 0 rfl) ?_
                    refine hp_get hx hb hts ix12 hown hK hh (q := 0) rfl (hI.1 _ (by decide)) es1326 rfl 4 (by decide) (hts _ tw_883) (fun _ h9 => h9) rfl dX12_next_114 ?_
                    refine lv_icmp_lt (tgt := 133) hx hb dX12_next_117 (by decide) (fun c_1337 => ?_) (fun c_1337 => ?_)
                    · have n_1337 : w1325 < tb := n_lt (a := w1325) (b := tb) c_1337 (by omega) (by omega)
                      refine lv_aload_n hx hb dX12_next_133 rfl (lv_at hl 0 rfl) ?_
                      refine lv_aload_n hx hb dX12_next_134 rfl (lv_at hl 0 rfl) ?_
                      refine hp_get hx hb hts ix12 hown hK hh (q := 0) rfl (hI.1 _ (by decide)) es1326 rfl 14 (by decide) (hts _ tw_893) (fun _ h9 => h9) rfl dX12_next_135 ?_
                      refine lv_aload_n hx hb dX12_next_138 rfl (lv_at hl 0 rfl) ?_
                      refine hp_get hx hb hts ix12 hown hK hh (q := 0) rfl (hI.1 _ (by decide)) es1326 rfl 11 (by decide) (hts _ tw_890) (fun _ h9 => h9) rfl dX12_next_139 ?_
                      refine lv_aload_n hx hb dX12_next_142 rfl (lv_at hl 0 rfl) ?_
                      refine hp_get hx hb hts ix12 hown hK hh (q := 0) rfl (hI.1 _ (by decide)) es1326 rfl 14 (by decide) (hts _ tw_893) (fun _ h9 => h9) rfl dX12_next_143 ?_
                      refine hp_iald hx hb hK hh (q := 7) rfl (hI.1 _ (by decide)) es1329 (vp_in_nI (n := d1318) (by omega) (by decide)) dX12_next_146 ?_
                      rw [nI_clamp (n := d1318) (by omega)]
                      rw [show f_1329 d1318 = nI w1325 from (show f_1329 d1318 = rdF (en_1325 7) d1318 from by rw [es1329]; rfl).trans i1_1325.1]
                      refine hp_callMv (va_runV (As := [.int (nI d1318), .int (nI w1325)]) (rest := []) ⟨hx, hb, hml, hown, hts⟩ (c_X12_goOn l D cy _ cs ad en_1325 hI_1325 d1318 w1325 (by omega) (by omega)) (kw_X12_goOn hts tw_1050 ⟨by decide, by decide⟩) (preV_of hh hK (hI.1 _ (by decide)) es1326 rfl) rfl rfl hl.1 rfl (lv_room (Nat.le_of_ble_eq_true rfl)) dX12_next_147 ⟨Nat.le_of_ble_eq_true rfl, Nat.le_of_ble_eq_true rfl⟩) hh hA (fun H locs en_1338 hw_1338 hh => ?_)
                      obtain ⟨hI_1338, hu_1338, hx_1338⟩ := hw_1338
                      have es1326_1338 : en_1338 0 = .inr (11, [.int fa_1326, .int hi_1326, .int (nI wd), .int (nI mo), .int (nI tb), .ref (ad 1), .ref (ad 2), .ref (ad 3), .ref (ad 4), .ref (ad 5), .ref (ad 6), .ref (ad 7), .ref (ad 8), .ref (ad 9), .int (nI d1318), .long many_1326, .long grt_1326, .long lst_1326, .long nou_1326, .ref (ad 10), .ref (ad 11), .ref (ad 12), .int rm_1326, .long rb_1326, .ref (ad 13), .int pr_1326, .ref (ad 14), .ref (ad 15), .ref (ad 16), .ref (ad 17), .int (nI wo), .ref (ad 18), .ref (ad 19)]) := (hu_1338 0 (by omega)).trans es1326
                      have es1329_1338 : en_1338 7 = .inl (cy 0, 13, .inl f_1329) := (hu_1338 7 (by omega)).trans es1329
                      have hf_1338 : ∀ c, (c ≠ 0 ∧ c ≠ 6 ∧ c ≠ 7) → en_1338 c = en c := fun c hc => (hu_1338 c (by omega)).trans (hf_1325 c hc)
                      have hkp_1338 : KP en en_1338 := KP_same i4_1325 (hu_1338 0 (by omega))
                      have hg7_1338 : ∀ i, rdF (en_1338 7) i = rdF (en_1325 7) i := fun i => by rw [hu_1338 7 (by omega)]
                      have ha_1338 : ∀ i, i < d1318 → rdF (en_1338 7) i = rdF (en_1318 7) i := fun i hi => (hg7_1338 i).trans (i2_1325 i hi)
                      have hwv_1338 : rdF (en_1338 7) d1318 = nI w1325 := (hg7_1338 d1318).trans i1_1325.1
                      refine lv_aload_n hx hb dX12_next_150 rfl (lv_at hl 0 rfl) ?_
                      refine lv_dup hx hb dX12_next_151 rfl ?_
                      refine hp_get hx hb hts ix12 hown hK hh (q := 0) rfl (hI.1 _ (by decide)) es1326_1338 rfl 14 (by decide) (hts _ tw_893) (fun _ h9 => h9) rfl dX12_next_152 ?_
                      refine lv_iconst (v := 1) hx hb dX12_next_155 (by decide) ?_
                      refine lv_iadd hx hb dX12_next_156 ?_
                      rw [show (1 : Int32) = nI 1 from rfl, nI_add d1318 1]
                      refine hp_put hx hb hts ix12 tyX12 tyX12_ok nmX12 hown hK hh (q := 0) rfl (hI.1 _ (by decide)) es1326_1338 rfl 14 (by decide) (hts _ tw_893) (fun _ h9 => h9) rfl (ty := .int) (by decide +kernel) rfl rfl (Nat.le_of_ble_eq_true rfl) dX12_next_157 (fun H locs en_1339 hen_1339 hh => ?_)
                      have es1329_1339 : en_1339 7 = .inl (cy 0, 13, .inl f_1329) := by rw [hen_1339, va_up_ne _ _ (by decide)]; exact es1329_1338
                      have es1326_1339 : en_1339 0 = .inr (11, [.int fa_1326, .int hi_1326, .int (nI wd), .int (nI mo), .int (nI tb), .ref (ad 1), .ref (ad 2), .ref (ad 3), .ref (ad 4), .ref (ad 5), .ref (ad 6), .ref (ad 7), .ref (ad 8), .ref (ad 9), .int (nI (d1318 + 1)), .long many_1326, .long grt_1326, .long lst_1326, .long nou_1326, .ref (ad 10), .ref (ad 11), .ref (ad 12), .int rm_1326, .long rb_1326, .ref (ad 13), .int pr_1326, .ref (ad 14), .ref (ad 15), .ref (ad 16), .ref (ad 17), .int (nI wo), .ref (ad 18), .ref (ad 19)]) := by rw [hen_1339]; exact va_up_self _ _ _
                      have hI_1339 : RX cy cs ad en_1339 := by rw [hen_1339]; exact upr_M hI_1338 ⟨fa_1326, hi_1326, wd, mo, tb, (nI (d1318 + 1)), many_1326, grt_1326, lst_1326, nou_1326, rm_1326, rb_1326, pr_1326, wo, rfl, hwd2, hwd3, hmo, htb, hwo⟩
                      have hf_1339 : ∀ c, (c ≠ 0 ∧ c ≠ 6 ∧ c ≠ 7) → en_1339 c = en c := fun c hc => Eq.trans (show en_1339 c = en_1338 c from by rw [hen_1339, va_up_ne _ _ (by omega)]) (hf_1338 c hc)
                      have hkp_1339 : KP en en_1339 := KP_fv hkp_1338 es1326_1338 es1326_1339 hi_1326 (nI wd) (nI mo) (nI tb) pr_1326 (nI wo) rfl rfl rfl rfl rfl rfl rfl rfl rfl rfl rfl rfl
                      have hg7_1339 : ∀ i, rdF (en_1339 7) i = rdF (en_1338 7) i := fun i => by rw [hen_1339, va_up_ne _ _ (by decide)]
                      have ha_1339 : ∀ i, i < d1318 → rdF (en_1339 7) i = rdF (en_1318 7) i := fun i hi => (hg7_1339 i).trans (ha_1338 i hi)
                      have hwv_1339 : rdF (en_1339 7) d1318 = nI w1325 := (hg7_1339 d1318).trans hwv_1338
                      refine lv_aload_n hx hb dX12_next_160 rfl (lv_at hl 0 rfl) ?_
                      refine hp_get hx hb hts ix12 hown hK hh (q := 0) rfl (hI.1 _ (by decide)) es1326_1339 rfl 14 (by decide) (hts _ tw_893) (fun _ h9 => h9) rfl dX12_next_161 ?_
                      refine lv_iload_n hx hb dX12_next_164 rfl (lv_at hl 1 rfl) ?_
                      refine lv_icmp_ne (tgt := 170) hx hb dX12_next_165 (by decide) (fun c_1340 => ?_) (fun c_1340 => ?_)
                      · have n_1340 : (d1318 + 1) ≠ n := n_neq (a := (d1318 + 1)) (b := n) c_1340 (by omega) (by omega)
                        refine lv_aload_n hx hb dX12_next_170 rfl (lv_at hl 0 rfl) ?_
                        refine hp_get hx hb hts ix12 hown hK hh (q := 0) rfl (hI.1 _ (by decide)) es1326_1339 rfl 11 (by decide) (hts _ tw_890) (fun _ h9 => h9) rfl dX12_next_171 ?_
                        refine lv_aload_n hx hb dX12_next_174 rfl (lv_at hl 0 rfl) ?_
                        refine hp_get hx hb hts ix12 hown hK hh (q := 0) rfl (hI.1 _ (by decide)) es1326_1339 rfl 14 (by decide) (hts _ tw_893) (fun _ h9 => h9) rfl dX12_next_175 ?_
                        refine lv_iconst (v := (-1)) hx hb dX12_next_178 (by decide) ?_
                        refine hp_iast hx hb hK hh (q := 7) rfl (hI.1 _ (by decide)) es1329_1339 (vp_in_nI (n := (d1318 + 1)) (by omega) (by decide)) dX12_next_179 (fun H locs en_1341 hen_1341 hh => ?_)
                        rw [nI_clamp (n := (d1318 + 1)) (by omega)] at hen_1341
                        have es1326_1341 : en_1341 0 = .inr (11, [.int fa_1326, .int hi_1326, .int (nI wd), .int (nI mo), .int (nI tb), .ref (ad 1), .ref (ad 2), .ref (ad 3), .ref (ad 4), .ref (ad 5), .ref (ad 6), .ref (ad 7), .ref (ad 8), .ref (ad 9), .int (nI (d1318 + 1)), .long many_1326, .long grt_1326, .long lst_1326, .long nou_1326, .ref (ad 10), .ref (ad 11), .ref (ad 12), .int rm_1326, .long rb_1326, .ref (ad 13), .int pr_1326, .ref (ad 14), .ref (ad 15), .ref (ad 16), .ref (ad 17), .int (nI wo), .ref (ad 18), .ref (ad 19)]) := by rw [hen_1341, va_up_ne _ _ (by decide)]; exact es1326_1339
                        have es1329_1341 : en_1341 7 = .inl (cy 0, 13, .inl (upd f_1329 (d1318 + 1) (-1))) := by rw [hen_1341]; exact va_up_self _ _ _
                        have hI_1341 : RX cy cs ad en_1341 := by rw [hen_1341]; exact upr_nw hI_1339 ⟨(upd f_1329 (d1318 + 1) (-1)), rfl⟩
                        have hf_1341 : ∀ c, (c ≠ 0 ∧ c ≠ 6 ∧ c ≠ 7) → en_1341 c = en c := fun c hc => Eq.trans (show en_1341 c = en_1339 c from by rw [hen_1341, va_up_ne _ _ (by omega)]) (hf_1339 c hc)
                        have hkp_1341 : KP en en_1341 := KP_same hkp_1339 (show en_1341 0 = en_1339 0 from by rw [hen_1341, va_up_ne _ _ (by decide)])
                        have hno_1341 : ∀ i, i ≠ (d1318 + 1) → rdF (en_1341 7) i = rdF (en_1339 7) i := fun i hi => by rw [es1329_1341, es1329_1339]; exact pk_un hi
                        have hnv_1341 : rdF (en_1341 7) (d1318 + 1) = (-1) := by rw [es1329_1341]; exact pk_us
                        have ha_1341 : ∀ i, i < d1318 → rdF (en_1341 7) i = rdF (en_1318 7) i := fun i hi => (hno_1341 i (by omega)).trans (ha_1339 i hi)
                        have hwv_1341 : rdF (en_1341 7) d1318 = nI w1325 := (hno_1341 d1318 (by omega)).trans hwv_1339
                        refine lv_goto (tgt := 18) hx hb dX12_next_180 (by decide) ?_
                        have hNB_1342 := NWp_desc i1_1318 (by omega) ha_1341 hwv_1341 (by omega) (by omega) hnv_1341
                        exact ih_1318 (mm1318 - 1) (d1318 + 1) 0 en_1341 ls H locs (by omega) hI_1341 hf_1341 (⟨by rw [es1326_1341]; rfl, by omega⟩) (hNB_1342.1) (by have h1 := hNB_1342.2; have h2 := i2_1318; omega) (hkp_1341) (lv_sub hl [0, 1] rfl) hh
                      · have n_1340 : (d1318 + 1) = n := n_eq (a := (d1318 + 1)) (b := n) c_1340 (by omega) (by omega)
                        refine lv_iconst (v := 1) hx hb dX12_next_168 (by decide) ?_
                        have hNR_1343 := NWp_ret i1_1318 ha_1339 hwv_1339 (by omega) (by omega)
                        have hdn_1343 : n - 1 = d1318 := by omega
                        exact hp_iretM hx hb hr rfl hlocks hh (⟨hI_1339, hf_1339, Or.inr ⟨rfl, w1325 + 1, ⟨by omega, Or.inr ⟨by rw [es1326_1339]; exact congrArg nI (by omega), by omega⟩, by rw [hdn_1343]; exact hNR_1343.1⟩, by omega, by have h1 := hNR_1343.2; have h2 := i2_1318.2; rw [hdn_1343]; omega⟩, hkp_1339⟩) dX12_next_169
                    · have n_1337 : tb ≤ w1325 := n_nlt (a := w1325) (b := tb) c_1337 (by omega) (by omega)
                      exact absurd n_1337 (by omega)
                  · have n_1336 : 0 < d1318 := n_nle (a := d1318) (b := 0) c_1336 (by omega) (by decide)
                    refine lv_aload_n hx hb dX12_next_61 rfl (lv_at hl 0 rfl) ?_
                    refine lv_aload_n hx hb dX12_next_62 rfl (lv_at hl 0 rfl) ?_
                    refine hp_get hx hb hts ix12 hown hK hh (q := 0) rfl (hI.1 _ (by decide)) es1326 rfl 11 (by decide) (hts _ tw_890) (fun _ h9 => h9) rfl dX12_next_63 ?_
                    refine lv_aload_n hx hb dX12_next_66 rfl (lv_at hl 0 rfl) ?_
                    refine hp_get hx hb hts ix12 hown hK hh (q := 0) rfl (hI.1 _ (by decide)) es1326 rfl 14 (by decide) (hts _ tw_893) (fun _ h9 => h9) rfl dX12_next_67 ?_
                    refine lv_iconst (v := 1) hx hb dX12_next_70 (by decide) ?_
                    refine lv_isub hx hb dX12_next_71 ?_
                    rw [show (1 : Int32) = nI 1 from rfl, pk_sub (a := d1318) (b := 1) (by omega)]
                    refine hp_iald hx hb hK hh (q := 7) rfl (hI.1 _ (by decide)) es1329 (vp_in_nI (n := (d1318 - 1)) (by omega) (by decide)) dX12_next_72 ?_
                    rw [nI_clamp (n := (d1318 - 1)) (by omega)]
                    obtain ⟨v_1344, hv_1344, hve_1344⟩ := i1_1318.1 (d1318 - 1) (by omega)
                    rw [show f_1329 (d1318 - 1) = nI v_1344 from (show f_1329 (d1318 - 1) = rdF (en_1325 7) (d1318 - 1) from by rw [es1329]; rfl).trans ((i2_1325 (d1318 - 1) (by omega)).trans hve_1344)]
                    refine lv_aload_n hx hb dX12_next_73 rfl (lv_at hl 0 rfl) ?_
                    refine hp_get hx hb hts ix12 hown hK hh (q := 0) rfl (hI.1 _ (by decide)) es1326 rfl 11 (by decide) (hts _ tw_890) (fun _ h9 => h9) rfl dX12_next_74 ?_
                    refine lv_aload_n hx hb dX12_next_77 rfl (lv_at hl 0 rfl) ?_
                    refine hp_get hx hb hts ix12 hown hK hh (q := 0) rfl (hI.1 _ (by decide)) es1326 rfl 14 (by decide) (hts _ tw_893) (fun _ h9 => h9) rfl dX12_next_78 ?_
                    refine hp_iald hx hb hK hh (q := 7) rfl (hI.1 _ (by decide)) es1329 (vp_in_nI (n := d1318) (by omega) (by decide)) dX12_next_81 ?_
                    rw [nI_clamp (n := d1318) (by omega)]
                    rw [show f_1329 d1318 = nI w1325 from (show f_1329 d1318 = rdF (en_1325 7) d1318 from by rw [es1329]; rfl).trans i1_1325.1]
                    refine hp_callRi (va_runV (As := [.int (nI v_1344), .int (nI w1325)]) (rest := []) ⟨hx, hb, hml, hown, hts⟩ (c_X12_mayFollow l D cy _ cs ad en_1325 hI_1325 v_1344 w1325 (by omega) (by omega)) (kw_X12_mayFollow hts tw_1029 ⟨by decide, by decide⟩) (preV_of hh hK (hI.1 _ (by decide)) es1326 rfl) rfl rfl hl.1 rfl (lv_room (Nat.le_of_ble_eq_true rfl)) dX12_next_82 ⟨Nat.le_of_ble_eq_true rfl, Nat.le_of_ble_eq_true rfl⟩) hh hA (fun r_1345 H locs hw_1345 hh => ?_)
                    rcases Decidable.em (rdF (en_1325 2) (6 * v_1344 + w1325) = 0) with hp_1345 | hp_1345
                    · obtain rfl : r_1345 = 1 := Eq.trans hw_1345 (if_pos hp_1345)
                      refine lv_if_ne (tgt := 104) hx hb dX12_next_85 (by decide) (fun _ => ?_) (fun c_0 => absurd c_0 (by decide))
                      refine lv_aload_n hx hb dX12_next_104 rfl (lv_at hl 0 rfl) ?_
                      refine hp_get hx hb hts ix12 hown hK hh (q := 0) rfl (hI.1 _ (by decide)) es1326 rfl 11 (by decide) (hts _ tw_890) (fun _ h9 => h9) rfl dX12_next_105 ?_
                      refine lv_aload_n hx hb dX12_next_108 rfl (lv_at hl 0 rfl) ?_
                      refine hp_get hx hb hts ix12 hown hK hh (q := 0) rfl (hI.1 _ (by decide)) es1326 rfl 14 (by decide) (hts _ tw_893) (fun _ h9 => h9) rfl dX12_next_109 ?_
                      refine hp_iald hx hb hK hh (q := 7) rfl (hI.1 _ (by decide)) es1329 (vp_in_nI (n := d1318) (by omega) (by decide)) dX12_next_112 ?_
                      rw [nI_clamp (n := d1318) (by omega)]
                      rw [show f_1329 d1318 = nI w1325 from (show f_1329 d1318 = rdF (en_1325 7) d1318 from by rw [es1329]; rfl).trans i1_1325.1]
                      refine lv_aload_n hx hb dX12_next_113 rfl (lv_at hl 0 rfl) ?_
                      refine hp_get hx hb hts ix12 hown hK hh (q := 0) rfl (hI.1 _ (by decide)) es1326 rfl 4 (by decide) (hts _ tw_883) (fun _ h9 => h9) rfl dX12_next_114 ?_
                      refine lv_icmp_lt (tgt := 133) hx hb dX12_next_117 (by decide) (fun c_1346 => ?_) (fun c_1346 => ?_)
                      · have n_1346 : w1325 < tb := n_lt (a := w1325) (b := tb) c_1346 (by omega) (by omega)
                        refine lv_aload_n hx hb dX12_next_133 rfl (lv_at hl 0 rfl) ?_
                        refine lv_aload_n hx hb dX12_next_134 rfl (lv_at hl 0 rfl) ?_
                        refine hp_get hx hb hts ix12 hown hK hh (q := 0) rfl (hI.1 _ (by decide)) es1326 rfl 14 (by decide) (hts _ tw_893) (fun _ h9 => h9) rfl dX12_next_135 ?_
                        refine lv_aload_n hx hb dX12_next_138 rfl (lv_at hl 0 rfl) ?_
                        refine hp_get hx hb hts ix12 hown hK hh (q := 0) rfl (hI.1 _ (by decide)) es1326 rfl 11 (by decide) (hts _ tw_890) (fun _ h9 => h9) rfl dX12_next_139 ?_
                        refine lv_aload_n hx hb dX12_next_142 rfl (lv_at hl 0 rfl) ?_
                        refine hp_get hx hb hts ix12 hown hK hh (q := 0) rfl (hI.1 _ (by decide)) es1326 rfl 14 (by decide) (hts _ tw_893) (fun _ h9 => h9) rfl dX12_next_143 ?_
                        refine hp_iald hx hb hK hh (q := 7) rfl (hI.1 _ (by decide)) es1329 (vp_in_nI (n := d1318) (by omega) (by decide)) dX12_next_146 ?_
                        rw [nI_clamp (n := d1318) (by omega)]
                        rw [show f_1329 d1318 = nI w1325 from (show f_1329 d1318 = rdF (en_1325 7) d1318 from by rw [es1329]; rfl).trans i1_1325.1]
                        refine hp_callMv (va_runV (As := [.int (nI d1318), .int (nI w1325)]) (rest := []) ⟨hx, hb, hml, hown, hts⟩ (c_X12_goOn l D cy _ cs ad en_1325 hI_1325 d1318 w1325 (by omega) (by omega)) (kw_X12_goOn hts tw_1050 ⟨by decide, by decide⟩) (preV_of hh hK (hI.1 _ (by decide)) es1326 rfl) rfl rfl hl.1 rfl (lv_room (Nat.le_of_ble_eq_true rfl)) dX12_next_147 ⟨Nat.le_of_ble_eq_true rfl, Nat.le_of_ble_eq_true rfl⟩) hh hA (fun H locs en_1347 hw_1347 hh => ?_)
                        obtain ⟨hI_1347, hu_1347, hx_1347⟩ := hw_1347
                        have es1326_1347 : en_1347 0 = .inr (11, [.int fa_1326, .int hi_1326, .int (nI wd), .int (nI mo), .int (nI tb), .ref (ad 1), .ref (ad 2), .ref (ad 3), .ref (ad 4), .ref (ad 5), .ref (ad 6), .ref (ad 7), .ref (ad 8), .ref (ad 9), .int (nI d1318), .long many_1326, .long grt_1326, .long lst_1326, .long nou_1326, .ref (ad 10), .ref (ad 11), .ref (ad 12), .int rm_1326, .long rb_1326, .ref (ad 13), .int pr_1326, .ref (ad 14), .ref (ad 15), .ref (ad 16), .ref (ad 17), .int (nI wo), .ref (ad 18), .ref (ad 19)]) := (hu_1347 0 (by omega)).trans es1326
                        have es1329_1347 : en_1347 7 = .inl (cy 0, 13, .inl f_1329) := (hu_1347 7 (by omega)).trans es1329
                        have hf_1347 : ∀ c, (c ≠ 0 ∧ c ≠ 6 ∧ c ≠ 7) → en_1347 c = en c := fun c hc => (hu_1347 c (by omega)).trans (hf_1325 c hc)
                        have hkp_1347 : KP en en_1347 := KP_same i4_1325 (hu_1347 0 (by omega))
                        have hg7_1347 : ∀ i, rdF (en_1347 7) i = rdF (en_1325 7) i := fun i => by rw [hu_1347 7 (by omega)]
                        have ha_1347 : ∀ i, i < d1318 → rdF (en_1347 7) i = rdF (en_1318 7) i := fun i hi => (hg7_1347 i).trans (i2_1325 i hi)
                        have hwv_1347 : rdF (en_1347 7) d1318 = nI w1325 := (hg7_1347 d1318).trans i1_1325.1
                        refine lv_aload_n hx hb dX12_next_150 rfl (lv_at hl 0 rfl) ?_
                        refine lv_dup hx hb dX12_next_151 rfl ?_
                        refine hp_get hx hb hts ix12 hown hK hh (q := 0) rfl (hI.1 _ (by decide)) es1326_1347 rfl 14 (by decide) (hts _ tw_893) (fun _ h9 => h9) rfl dX12_next_152 ?_
                        refine lv_iconst (v := 1) hx hb dX12_next_155 (by decide) ?_
                        refine lv_iadd hx hb dX12_next_156 ?_
                        rw [show (1 : Int32) = nI 1 from rfl, nI_add d1318 1]
                        refine hp_put hx hb hts ix12 tyX12 tyX12_ok nmX12 hown hK hh (q := 0) rfl (hI.1 _ (by decide)) es1326_1347 rfl 14 (by decide) (hts _ tw_893) (fun _ h9 => h9) rfl (ty := .int) (by decide +kernel) rfl rfl (Nat.le_of_ble_eq_true rfl) dX12_next_157 (fun H locs en_1348 hen_1348 hh => ?_)
                        have es1329_1348 : en_1348 7 = .inl (cy 0, 13, .inl f_1329) := by rw [hen_1348, va_up_ne _ _ (by decide)]; exact es1329_1347
                        have es1326_1348 : en_1348 0 = .inr (11, [.int fa_1326, .int hi_1326, .int (nI wd), .int (nI mo), .int (nI tb), .ref (ad 1), .ref (ad 2), .ref (ad 3), .ref (ad 4), .ref (ad 5), .ref (ad 6), .ref (ad 7), .ref (ad 8), .ref (ad 9), .int (nI (d1318 + 1)), .long many_1326, .long grt_1326, .long lst_1326, .long nou_1326, .ref (ad 10), .ref (ad 11), .ref (ad 12), .int rm_1326, .long rb_1326, .ref (ad 13), .int pr_1326, .ref (ad 14), .ref (ad 15), .ref (ad 16), .ref (ad 17), .int (nI wo), .ref (ad 18), .ref (ad 19)]) := by rw [hen_1348]; exact va_up_self _ _ _
                        have hI_1348 : RX cy cs ad en_1348 := by rw [hen_1348]; exact upr_M hI_1347 ⟨fa_1326, hi_1326, wd, mo, tb, (nI (d1318 + 1)), many_1326, grt_1326, lst_1326, nou_1326, rm_1326, rb_1326, pr_1326, wo, rfl, hwd2, hwd3, hmo, htb, hwo⟩
                        have hf_1348 : ∀ c, (c ≠ 0 ∧ c ≠ 6 ∧ c ≠ 7) → en_1348 c = en c := fun c hc => Eq.trans (show en_1348 c = en_1347 c from by rw [hen_1348, va_up_ne _ _ (by omega)]) (hf_1347 c hc)
                        have hkp_1348 : KP en en_1348 := KP_fv hkp_1347 es1326_1347 es1326_1348 hi_1326 (nI wd) (nI mo) (nI tb) pr_1326 (nI wo) rfl rfl rfl rfl rfl rfl rfl rfl rfl rfl rfl rfl
                        have hg7_1348 : ∀ i, rdF (en_1348 7) i = rdF (en_1347 7) i := fun i => by rw [hen_1348, va_up_ne _ _ (by decide)]
                        have ha_1348 : ∀ i, i < d1318 → rdF (en_1348 7) i = rdF (en_1318 7) i := fun i hi => (hg7_1348 i).trans (ha_1347 i hi)
                        have hwv_1348 : rdF (en_1348 7) d1318 = nI w1325 := (hg7_1348 d1318).trans hwv_1347
                        refine lv_aload_n hx hb dX12_next_160 rfl (lv_at hl 0 rfl) ?_
                        refine hp_get hx hb hts ix12 hown hK hh (q := 0) rfl (hI.1 _ (by decide)) es1326_1348 rfl 14 (by decide) (hts _ tw_893) (fun _ h9 => h9) rfl dX12_next_161 ?_
                        refine lv_iload_n hx hb dX12_next_164 rfl (lv_at hl 1 rfl) ?_
                        refine lv_icmp_ne (tgt := 170) hx hb dX12_next_165 (by decide) (fun c_1349 => ?_) (fun c_1349 => ?_)
                        · have n_1349 : (d1318 + 1) ≠ n := n_neq (a := (d1318 + 1)) (b := n) c_1349 (by omega) (by omega)
                          refine lv_aload_n hx hb dX12_next_170 rfl (lv_at hl 0 rfl) ?_
                          refine hp_get hx hb hts ix12 hown hK hh (q := 0) rfl (hI.1 _ (by decide)) es1326_1348 rfl 11 (by decide) (hts _ tw_890) (fun _ h9 => h9) rfl dX12_next_171 ?_
                          refine lv_aload_n hx hb dX12_next_174 rfl (lv_at hl 0 rfl) ?_
                          refine hp_get hx hb hts ix12 hown hK hh (q := 0) rfl (hI.1 _ (by decide)) es1326_1348 rfl 14 (by decide) (hts _ tw_893) (fun _ h9 => h9) rfl dX12_next_175 ?_
                          refine lv_iconst (v := (-1)) hx hb dX12_next_178 (by decide) ?_
                          refine hp_iast hx hb hK hh (q := 7) rfl (hI.1 _ (by decide)) es1329_1348 (vp_in_nI (n := (d1318 + 1)) (by omega) (by decide)) dX12_next_179 (fun H locs en_1350 hen_1350 hh => ?_)
                          rw [nI_clamp (n := (d1318 + 1)) (by omega)] at hen_1350
                          have es1326_1350 : en_1350 0 = .inr (11, [.int fa_1326, .int hi_1326, .int (nI wd), .int (nI mo), .int (nI tb), .ref (ad 1), .ref (ad 2), .ref (ad 3), .ref (ad 4), .ref (ad 5), .ref (ad 6), .ref (ad 7), .ref (ad 8), .ref (ad 9), .int (nI (d1318 + 1)), .long many_1326, .long grt_1326, .long lst_1326, .long nou_1326, .ref (ad 10), .ref (ad 11), .ref (ad 12), .int rm_1326, .long rb_1326, .ref (ad 13), .int pr_1326, .ref (ad 14), .ref (ad 15), .ref (ad 16), .ref (ad 17), .int (nI wo), .ref (ad 18), .ref (ad 19)]) := by rw [hen_1350, va_up_ne _ _ (by decide)]; exact es1326_1348
                          have es1329_1350 : en_1350 7 = .inl (cy 0, 13, .inl (upd f_1329 (d1318 + 1) (-1))) := by rw [hen_1350]; exact va_up_self _ _ _
                          have hI_1350 : RX cy cs ad en_1350 := by rw [hen_1350]; exact upr_nw hI_1348 ⟨(upd f_1329 (d1318 + 1) (-1)), rfl⟩
                          have hf_1350 : ∀ c, (c ≠ 0 ∧ c ≠ 6 ∧ c ≠ 7) → en_1350 c = en c := fun c hc => Eq.trans (show en_1350 c = en_1348 c from by rw [hen_1350, va_up_ne _ _ (by omega)]) (hf_1348 c hc)
                          have hkp_1350 : KP en en_1350 := KP_same hkp_1348 (show en_1350 0 = en_1348 0 from by rw [hen_1350, va_up_ne _ _ (by decide)])
                          have hno_1350 : ∀ i, i ≠ (d1318 + 1) → rdF (en_1350 7) i = rdF (en_1348 7) i := fun i hi => by rw [es1329_1350, es1329_1348]; exact pk_un hi
                          have hnv_1350 : rdF (en_1350 7) (d1318 + 1) = (-1) := by rw [es1329_1350]; exact pk_us
                          have ha_1350 : ∀ i, i < d1318 → rdF (en_1350 7) i = rdF (en_1318 7) i := fun i hi => (hno_1350 i (by omega)).trans (ha_1348 i hi)
                          have hwv_1350 : rdF (en_1350 7) d1318 = nI w1325 := (hno_1350 d1318 (by omega)).trans hwv_1348
                          refine lv_goto (tgt := 18) hx hb dX12_next_180 (by decide) ?_
                          have hNB_1351 := NWp_desc i1_1318 (by omega) ha_1350 hwv_1350 (by omega) (by omega) hnv_1350
                          exact ih_1318 (mm1318 - 1) (d1318 + 1) 0 en_1350 ls H locs (by omega) hI_1350 hf_1350 (⟨by rw [es1326_1350]; rfl, by omega⟩) (hNB_1351.1) (by have h1 := hNB_1351.2; have h2 := i2_1318; omega) (hkp_1350) (lv_sub hl [0, 1] rfl) hh
                        · have n_1349 : (d1318 + 1) = n := n_eq (a := (d1318 + 1)) (b := n) c_1349 (by omega) (by omega)
                          refine lv_iconst (v := 1) hx hb dX12_next_168 (by decide) ?_
                          have hNR_1352 := NWp_ret i1_1318 ha_1348 hwv_1348 (by omega) (by omega)
                          have hdn_1352 : n - 1 = d1318 := by omega
                          exact hp_iretM hx hb hr rfl hlocks hh (⟨hI_1348, hf_1348, Or.inr ⟨rfl, w1325 + 1, ⟨by omega, Or.inr ⟨by rw [es1326_1348]; exact congrArg nI (by omega), by omega⟩, by rw [hdn_1352]; exact hNR_1352.1⟩, by omega, by have h1 := hNR_1352.2; have h2 := i2_1318.2; rw [hdn_1352]; omega⟩, hkp_1348⟩) dX12_next_169
                      · have n_1346 : tb ≤ w1325 := n_nlt (a := w1325) (b := tb) c_1346 (by omega) (by omega)
                        exact absurd n_1346 (by omega)
                    · obtain rfl : r_1345 = 0 := Eq.trans hw_1345 (if_neg hp_1345)
                      refine lv_if_ne (tgt := 104) hx hb dX12_next_85 (by decide) (fun c_0 => absurd c_0 (by decide)) (fun _ => ?_)
                      refine lv_aload_n hx hb dX12_next_88 rfl (lv_at hl 0 rfl) ?_
                      refine hp_get hx hb hts ix12 hown hK hh (q := 0) rfl (hI.1 _ (by decide)) es1326 rfl 11 (by decide) (hts _ tw_890) (fun _ h9 => h9) rfl dX12_next_89 ?_
                      refine lv_aload_n hx hb dX12_next_92 rfl (lv_at hl 0 rfl) ?_
                      refine hp_get hx hb hts ix12 hown hK hh (q := 0) rfl (hI.1 _ (by decide)) es1326 rfl 14 (by decide) (hts _ tw_893) (fun _ h9 => h9) rfl dX12_next_93 ?_
                      refine lv_dup2_11 hx hb dX12_next_96 rfl rfl ?_
                      refine hp_iald hx hb hK hh (q := 7) rfl (hI.1 _ (by decide)) es1329 (vp_in_nI (n := d1318) (by omega) (by decide)) dX12_next_97 ?_
                      rw [nI_clamp (n := d1318) (by omega)]
                      rw [show f_1329 d1318 = nI w1325 from (show f_1329 d1318 = rdF (en_1325 7) d1318 from by rw [es1329]; rfl).trans i1_1325.1]
                      refine lv_iconst (v := 1) hx hb dX12_next_98 (by decide) ?_
                      refine lv_iadd hx hb dX12_next_99 ?_
                      rw [show (1 : Int32) = nI 1 from rfl, nI_add w1325 1]
                      refine hp_iast hx hb hK hh (q := 7) rfl (hI.1 _ (by decide)) es1329 (vp_in_nI (n := d1318) (by omega) (by decide)) dX12_next_100 (fun H locs en_1353 hen_1353 hh => ?_)
                      rw [nI_clamp (n := d1318) (by omega)] at hen_1353
                      have es1326_1353 : en_1353 0 = .inr (11, [.int fa_1326, .int hi_1326, .int (nI wd), .int (nI mo), .int (nI tb), .ref (ad 1), .ref (ad 2), .ref (ad 3), .ref (ad 4), .ref (ad 5), .ref (ad 6), .ref (ad 7), .ref (ad 8), .ref (ad 9), .int (nI d1318), .long many_1326, .long grt_1326, .long lst_1326, .long nou_1326, .ref (ad 10), .ref (ad 11), .ref (ad 12), .int rm_1326, .long rb_1326, .ref (ad 13), .int pr_1326, .ref (ad 14), .ref (ad 15), .ref (ad 16), .ref (ad 17), .int (nI wo), .ref (ad 18), .ref (ad 19)]) := by rw [hen_1353, va_up_ne _ _ (by decide)]; exact es1326
                      have es1329_1353 : en_1353 7 = .inl (cy 0, 13, .inl (upd f_1329 d1318 (nI (w1325 + 1)))) := by rw [hen_1353]; exact va_up_self _ _ _
                      have hI_1353 : RX cy cs ad en_1353 := by rw [hen_1353]; exact upr_nw hI_1325 ⟨(upd f_1329 d1318 (nI (w1325 + 1))), rfl⟩
                      have hf_1353 : ∀ c, (c ≠ 0 ∧ c ≠ 6 ∧ c ≠ 7) → en_1353 c = en c := fun c hc => Eq.trans (show en_1353 c = en_1325 c from by rw [hen_1353, va_up_ne _ _ (by omega)]) (hf_1325 c hc)
                      have hkp_1353 : KP en en_1353 := KP_same i4_1325 (show en_1353 0 = en_1325 0 from by rw [hen_1353, va_up_ne _ _ (by decide)])
                      have hno_1353 : ∀ i, i ≠ d1318 → rdF (en_1353 7) i = rdF (en_1325 7) i := fun i hi => by rw [es1329_1353, es1329]; exact pk_un hi
                      have hnv_1353 : rdF (en_1353 7) d1318 = (nI (w1325 + 1)) := by rw [es1329_1353]; exact pk_us
                      refine lv_goto (tgt := 38) hx hb dX12_next_101 (by decide) ?_
                      exact ih_1325 (mm1325 - 1) (w1325 + 1) en_1353 ls H locs (by omega) hI_1353 hf_1353 (by rw [es1326_1353]; rfl) (⟨hnv_1353, by omega, by omega⟩) (fun i hi => (hno_1353 i (by omega)).trans (i2_1325 i hi)) (by omega) (hkp_1353) (lv_sub hl [0, 1] rfl) hh
            exact loop_1325 (7 + 1) 7 u1318 en_1324 ls _ _ (by omega) hI_1324 hf_1324 (by rw [es1319_1324]; rfl) (⟨hnv_1324, by omega, i1_1318.2.2⟩) (fun i hi => hno_1324 i (by omega)) (by omega) (hkp_1324) (lv_sub hl [0, 1] rfl) hh
      exact loop_1318 (134217728 + 1) 134217728 d u en ls _ _ (by omega) hI hf0 (⟨by rw [es1316]; exact congrArg nI (by omega), by omega⟩) (hd3) (⟨by omega, Nat.le_of_eq rfl⟩) ((KP_rf en)) (lv_sub hl [0, 1] rfl) hh
    · have n_1317 : d = n := n_eq (a := d) (b := n) c_1317 (by omega) (by omega)
      exact absurd n_1317 (by omega)
  · have hdp : dp = nI n := (show dp = rdI (en 0) 14 from by rw [es1316]; rfl).trans hd2
    rw [hdp] at es1316
    refine lv_aload_n hx hb dX12_next_0 rfl (lv_at hl 0 rfl) ?_
    refine hp_get hx hb hts ix12 hown hK hh (q := 0) rfl (hI.1 _ (by decide)) es1316 rfl 14 (by decide) (hts _ tw_893) (fun _ h9 => h9) rfl dX12_next_1 ?_
    refine lv_iload_n hx hb dX12_next_4 rfl (lv_at hl 1 rfl) ?_
    refine lv_icmp_ne (tgt := 18) hx hb dX12_next_5 (by decide) (fun c_1354 => ?_) (fun c_1354 => ?_)
    · have n_1354 : n ≠ n := n_neq (a := n) (b := n) c_1354 (by omega) (by omega)
      exact absurd n_1354 (by omega)
    · have n_1354 : n = n := n_eq (a := n) (b := n) c_1354 (by omega) (by omega)
      refine lv_aload_n hx hb dX12_next_8 rfl (lv_at hl 0 rfl) ?_
      refine lv_dup hx hb dX12_next_9 rfl ?_
      refine hp_get hx hb hts ix12 hown hK hh (q := 0) rfl (hI.1 _ (by decide)) es1316 rfl 14 (by decide) (hts _ tw_893) (fun _ h9 => h9) rfl dX12_next_10 ?_
      refine lv_iconst (v := 1) hx hb dX12_next_13 (by decide) ?_
      refine lv_isub hx hb dX12_next_14 ?_
      rw [show (1 : Int32) = nI 1 from rfl, pk_sub (a := n) (b := 1) (by omega)]
      refine hp_put hx hb hts ix12 tyX12 tyX12_ok nmX12 hown hK hh (q := 0) rfl (hI.1 _ (by decide)) es1316 rfl 14 (by decide) (hts _ tw_893) (fun _ h9 => h9) rfl (ty := .int) (by decide +kernel) rfl rfl (Nat.le_of_ble_eq_true rfl) dX12_next_15 (fun H locs en_1355 hen_1355 hh => ?_)
      obtain ⟨f_1356, es1356⟩ := getr_nw hI
      have es1356_1355 : en_1355 7 = .inl (cy 0, 13, .inl f_1356) := by rw [hen_1355, va_up_ne _ _ (by decide)]; exact es1356
      have es1316_1355 : en_1355 0 = .inr (11, [.int fa, .int hi, .int (nI wd), .int (nI mo), .int (nI tb), .ref (ad 1), .ref (ad 2), .ref (ad 3), .ref (ad 4), .ref (ad 5), .ref (ad 6), .ref (ad 7), .ref (ad 8), .ref (ad 9), .int (nI (n - 1)), .long many, .long grt, .long lst, .long nou, .ref (ad 10), .ref (ad 11), .ref (ad 12), .int rm, .long rb, .ref (ad 13), .int pr, .ref (ad 14), .ref (ad 15), .ref (ad 16), .ref (ad 17), .int (nI wo), .ref (ad 18), .ref (ad 19)]) := by rw [hen_1355]; exact va_up_self _ _ _
      have hI_1355 : RX cy cs ad en_1355 := by rw [hen_1355]; exact upr_M hI ⟨fa, hi, wd, mo, tb, (nI (n - 1)), many, grt, lst, nou, rm, rb, pr, wo, rfl, hwd2, hwd3, hmo, htb, hwo⟩
      have hf_1355 : ∀ c, (c ≠ 0 ∧ c ≠ 6 ∧ c ≠ 7) → en_1355 c = en c := fun c hc => Eq.trans (show en_1355 c = en c from by rw [hen_1355, va_up_ne _ _ (by omega)]) (hf0 c hc)
      have hkp_1355 : KP en en_1355 := KP_fv (KP_rf en) es1316 es1316_1355 hi (nI wd) (nI mo) (nI tb) pr (nI wo) rfl rfl rfl rfl rfl rfl rfl rfl rfl rfl rfl rfl
      have loop_1357 : ∀ (fu mm1357 : Nat)  (d1357 : Nat) (u1357 : Nat) (en_1357 : Nat → va_E) (ls : Array Slot) (H : Heap) (locs : List Loc), mm1357 < fu → RX cy cs ad en_1357 → (∀ c, (c ≠ 0 ∧ c ≠ 6 ∧ c ≠ 7) → en_1357 c = en c) → (rdI (en_1357 0) 14 = nI d1357 ∧ d1357 < n) → (NWp (rdF (en_1357 7)) d1357 u1357) → (134217728 ≤ nmv (rdF (en_1357 7)) d1357 u1357 + mm1357 ∧ nmv (rdF (en 7)) d u ≤ nmv (rdF (en_1357 7)) d1357 u1357) → (KP en en_1357) → lv_has ls 2 [(0, .ref (ad 0)), (1, .int (nI n))] → Hp D (Af cs ad sz) (Af cs ad sz) s.heap H locs cs ad en_1357 → W p l e (headSpec (Cond.code yX12_next cX12_next 2 (some .boolean) :: TB) (rmN 2)).room s m ([.ref (ad 0), .int (nI n)] : List Value).toArray below meth c H locs 0 0 (MQ below (va_Qi (S := Nat → va_E) (fun r en1 => RX cy cs ad en1 ∧ (∀ c, (c ≠ 0 ∧ c ≠ 6 ∧ c ≠ 7) → en1 c = en c) ∧ (r = 0 ∨ (r = 1 ∧ ∃ u1, ND en1 n (n - 1) u1 ∧ 1 ≤ u1 ∧ nmv (rdF (en 7)) d u < nmv (rdF (en1 7)) (n - 1) u1)) ∧ KP en en1) (PostM D cs ad) (Af cs ad sz)) ([.ref (ad 0), .int (nI n)] : List Value).toArray s 0 0 (Af cs ad sz)) (F0 m 18 ls []) := by
        intro fu
        induction fu with
        | zero => intro mm1357 d1357 u1357 en_1357 ls H locs h2; exact absurd h2 (by omega)
        | succ fu ih_1357 =>
          intro mm1357 d1357 u1357 en_1357 ls H locs hmm_1357 hI_1357 hf_1357 i0_1357 i1_1357 i2_1357 i3_1357 hl hh
          have hlt_1357 := nmv_lt i1_1357 (by omega)
          refine lv_aload_n hx hb dX12_next_18 rfl (lv_at hl 0 rfl) ?_
          obtain ⟨fa_1358, hi_1358, wd_1358, mo_1358, tb_1358, dp_1358, many_1358, grt_1358, lst_1358, nou_1358, rm_1358, rb_1358, pr_1358, wo_1358, es1358, p0_1358, p1_1358, p2_1358, p3_1358, p4_1358⟩ := getr_M hI_1357
          have hq2_1359 : wd_1358 = wd := n_eq ((show nI wd_1358 = rdI (en_1357 0) 2 from by rw [es1358]; rfl).trans (i3_1357.2.1.trans (show rdI (en 0) 2 = nI wd from by rw [es1316]; rfl))) (by omega) (by omega)
          have hq3_1359 : mo_1358 = mo := n_eq ((show nI mo_1358 = rdI (en_1357 0) 3 from by rw [es1358]; rfl).trans (i3_1357.2.2.1.trans (show rdI (en 0) 3 = nI mo from by rw [es1316]; rfl))) (by omega) (by omega)
          have hq4_1359 : tb_1358 = tb := n_eq ((show nI tb_1358 = rdI (en_1357 0) 4 from by rw [es1358]; rfl).trans (i3_1357.2.2.2.1.trans (show rdI (en 0) 4 = nI tb from by rw [es1316]; rfl))) (by omega) (by omega)
          have hq30_1359 : wo_1358 = wo := n_eq ((show nI wo_1358 = rdI (en_1357 0) 30 from by rw [es1358]; rfl).trans (i3_1357.2.2.2.2.2.trans (show rdI (en 0) 30 = nI wo from by rw [es1316]; rfl))) (by omega) (by omega)
          rw [hq2_1359, hq3_1359, hq4_1359, hq30_1359] at es1358
          have hdp_1360 : dp_1358 = nI d1357 := (show dp_1358 = rdI (en_1357 0) 14 from by rw [es1358]; rfl).trans (i0_1357.1)
          rw [hdp_1360] at es1358
          refine hp_get hx hb hts ix12 hown hK hh (q := 0) rfl (hI.1 _ (by decide)) es1358 rfl 14 (by decide) (hts _ tw_893) (fun _ h9 => h9) rfl dX12_next_19 ?_
          refine lv_if_lt (tgt := 183) hx hb dX12_next_22 (by decide) (fun c_1361 => ?_) (fun c_1361 => ?_)
          · have n_1361 : d1357 < 0 := n_lt (a := d1357) (b := 0) c_1361 (by omega) (by decide)
            exact absurd n_1361 (by omega)
          · have n_1361 : 0 ≤ d1357 := n_nlt (a := d1357) (b := 0) c_1361 (by omega) (by decide)
            refine lv_aload_n hx hb dX12_next_25 rfl (lv_at hl 0 rfl) ?_
            refine hp_get hx hb hts ix12 hown hK hh (q := 0) rfl (hI.1 _ (by decide)) es1358 rfl 11 (by decide) (hts _ tw_890) (fun _ h9 => h9) rfl dX12_next_26 ?_
            refine lv_aload_n hx hb dX12_next_29 rfl (lv_at hl 0 rfl) ?_
            refine hp_get hx hb hts ix12 hown hK hh (q := 0) rfl (hI.1 _ (by decide)) es1358 rfl 14 (by decide) (hts _ tw_893) (fun _ h9 => h9) rfl dX12_next_30 ?_
            refine lv_dup2_11 hx hb dX12_next_33 rfl rfl ?_
            obtain ⟨f_1362, es1362⟩ := getr_nw hI_1357
            refine hp_iald hx hb hK hh (q := 7) rfl (hI.1 _ (by decide)) es1362 (vp_in_nI (n := d1357) (by omega) (by decide)) dX12_next_34 ?_
            rw [nI_clamp (n := d1357) (by omega)]
            refine lv_iconst (v := 1) hx hb dX12_next_35 (by decide) ?_
            refine lv_iadd hx hb dX12_next_36 ?_
            rw [show f_1362 d1357 + 1 = nI u1357 from (show f_1362 d1357 + 1 = rdF (en_1357 7) d1357 + 1 from by rw [es1362]; rfl).trans i1_1357.2.1]
            refine hp_iast hx hb hK hh (q := 7) rfl (hI.1 _ (by decide)) es1362 (vp_in_nI (n := d1357) (by omega) (by decide)) dX12_next_37 (fun H locs en_1363 hen_1363 hh => ?_)
            rw [nI_clamp (n := d1357) (by omega)] at hen_1363
            have es1358_1363 : en_1363 0 = .inr (11, [.int fa_1358, .int hi_1358, .int (nI wd), .int (nI mo), .int (nI tb), .ref (ad 1), .ref (ad 2), .ref (ad 3), .ref (ad 4), .ref (ad 5), .ref (ad 6), .ref (ad 7), .ref (ad 8), .ref (ad 9), .int (nI d1357), .long many_1358, .long grt_1358, .long lst_1358, .long nou_1358, .ref (ad 10), .ref (ad 11), .ref (ad 12), .int rm_1358, .long rb_1358, .ref (ad 13), .int pr_1358, .ref (ad 14), .ref (ad 15), .ref (ad 16), .ref (ad 17), .int (nI wo), .ref (ad 18), .ref (ad 19)]) := by rw [hen_1363, va_up_ne _ _ (by decide)]; exact es1358
            have es1362_1363 : en_1363 7 = .inl (cy 0, 13, .inl (upd f_1362 d1357 (nI u1357))) := by rw [hen_1363]; exact va_up_self _ _ _
            have hI_1363 : RX cy cs ad en_1363 := by rw [hen_1363]; exact upr_nw hI_1357 ⟨(upd f_1362 d1357 (nI u1357)), rfl⟩
            have hf_1363 : ∀ c, (c ≠ 0 ∧ c ≠ 6 ∧ c ≠ 7) → en_1363 c = en c := fun c hc => Eq.trans (show en_1363 c = en_1357 c from by rw [hen_1363, va_up_ne _ _ (by omega)]) (hf_1357 c hc)
            have hkp_1363 : KP en en_1363 := KP_same i3_1357 (show en_1363 0 = en_1357 0 from by rw [hen_1363, va_up_ne _ _ (by decide)])
            have hno_1363 : ∀ i, i ≠ d1357 → rdF (en_1363 7) i = rdF (en_1357 7) i := fun i hi => by rw [es1362_1363, es1362]; exact pk_un hi
            have hnv_1363 : rdF (en_1363 7) d1357 = (nI u1357) := by rw [es1362_1363]; exact pk_us
            have loop_1364 : ∀ (fu mm1364 : Nat)  (w1364 : Nat) (en_1364 : Nat → va_E) (ls : Array Slot) (H : Heap) (locs : List Loc), mm1364 < fu → RX cy cs ad en_1364 → (∀ c, (c ≠ 0 ∧ c ≠ 6 ∧ c ≠ 7) → en_1364 c = en c) → (rdI (en_1364 0) 14 = nI d1357) → (rdF (en_1364 7) d1357 = nI w1364 ∧ u1357 ≤ w1364 ∧ w1364 ≤ 6) → (∀ i, i < d1357 → rdF (en_1364 7) i = rdF (en_1357 7) i) → (7 ≤ w1364 + mm1364) → (KP en en_1364) → lv_has ls 2 [(0, .ref (ad 0)), (1, .int (nI n))] → Hp D (Af cs ad sz) (Af cs ad sz) s.heap H locs cs ad en_1364 → W p l e (headSpec (Cond.code yX12_next cX12_next 2 (some .boolean) :: TB) (rmN 2)).room s m ([.ref (ad 0), .int (nI n)] : List Value).toArray below meth c H locs 0 0 (MQ below (va_Qi (S := Nat → va_E) (fun r en1 => RX cy cs ad en1 ∧ (∀ c, (c ≠ 0 ∧ c ≠ 6 ∧ c ≠ 7) → en1 c = en c) ∧ (r = 0 ∨ (r = 1 ∧ ∃ u1, ND en1 n (n - 1) u1 ∧ 1 ≤ u1 ∧ nmv (rdF (en 7)) d u < nmv (rdF (en1 7)) (n - 1) u1)) ∧ KP en en1) (PostM D cs ad) (Af cs ad sz)) ([.ref (ad 0), .int (nI n)] : List Value).toArray s 0 0 (Af cs ad sz)) (F0 m 38 ls []) := by
              intro fu
              induction fu with
              | zero => intro mm1364 w1364 en_1364 ls H locs h2; exact absurd h2 (by omega)
              | succ fu ih_1364 =>
                intro mm1364 w1364 en_1364 ls H locs hmm_1364 hI_1364 hf_1364 i0_1364 i1_1364 i2_1364 i3_1364 i4_1364 hl hh
                refine lv_aload_n hx hb dX12_next_38 rfl (lv_at hl 0 rfl) ?_
                obtain ⟨fa_1365, hi_1365, wd_1365, mo_1365, tb_1365, dp_1365, many_1365, grt_1365, lst_1365, nou_1365, rm_1365, rb_1365, pr_1365, wo_1365, es1365, p0_1365, p1_1365, p2_1365, p3_1365, p4_1365⟩ := getr_M hI_1364
                have hq2_1366 : wd_1365 = wd := n_eq ((show nI wd_1365 = rdI (en_1364 0) 2 from by rw [es1365]; rfl).trans (i4_1364.2.1.trans (show rdI (en 0) 2 = nI wd from by rw [es1316]; rfl))) (by omega) (by omega)
                have hq3_1366 : mo_1365 = mo := n_eq ((show nI mo_1365 = rdI (en_1364 0) 3 from by rw [es1365]; rfl).trans (i4_1364.2.2.1.trans (show rdI (en 0) 3 = nI mo from by rw [es1316]; rfl))) (by omega) (by omega)
                have hq4_1366 : tb_1365 = tb := n_eq ((show nI tb_1365 = rdI (en_1364 0) 4 from by rw [es1365]; rfl).trans (i4_1364.2.2.2.1.trans (show rdI (en 0) 4 = nI tb from by rw [es1316]; rfl))) (by omega) (by omega)
                have hq30_1366 : wo_1365 = wo := n_eq ((show nI wo_1365 = rdI (en_1364 0) 30 from by rw [es1365]; rfl).trans (i4_1364.2.2.2.2.2.trans (show rdI (en 0) 30 = nI wo from by rw [es1316]; rfl))) (by omega) (by omega)
                rw [hq2_1366, hq3_1366, hq4_1366, hq30_1366] at es1365
                have hdp_1367 : dp_1365 = nI d1357 := (show dp_1365 = rdI (en_1364 0) 14 from by rw [es1365]; rfl).trans (i0_1364)
                rw [hdp_1367] at es1365
                refine hp_get hx hb hts ix12 hown hK hh (q := 0) rfl (hI.1 _ (by decide)) es1365 rfl 11 (by decide) (hts _ tw_890) (fun _ h9 => h9) rfl dX12_next_39 ?_
                refine lv_aload_n hx hb dX12_next_42 rfl (lv_at hl 0 rfl) ?_
                refine hp_get hx hb hts ix12 hown hK hh (q := 0) rfl (hI.1 _ (by decide)) es1365 rfl 14 (by decide) (hts _ tw_893) (fun _ h9 => h9) rfl dX12_next_43 ?_
                obtain ⟨f_1368, es1368⟩ := getr_nw hI_1364
                refine hp_iald hx hb hK hh (q := 7) rfl (hI.1 _ (by decide)) es1368 (vp_in_nI (n := d1357) (by omega) (by decide)) dX12_next_46 ?_
                rw [nI_clamp (n := d1357) (by omega)]
                rw [show f_1368 d1357 = nI w1364 from (show f_1368 d1357 = rdF (en_1364 7) d1357 from by rw [es1368]; rfl).trans i1_1364.1]
                refine lv_aload_n hx hb dX12_next_47 rfl (lv_at hl 0 rfl) ?_
                refine hp_get hx hb hts ix12 hown hK hh (q := 0) rfl (hI.1 _ (by decide)) es1365 rfl 4 (by decide) (hts _ tw_883) (fun _ h9 => h9) rfl dX12_next_48 ?_
                refine lv_icmp_ge (tgt := 104) hx hb dX12_next_51 (by decide) (fun c_1369 => ?_) (fun c_1369 => ?_)
                · have n_1369 : tb ≤ w1364 := n_le (a := tb) (b := w1364) c_1369 (by omega) (by omega)
                  refine lv_aload_n hx hb dX12_next_104 rfl (lv_at hl 0 rfl) ?_
                  refine hp_get hx hb hts ix12 hown hK hh (q := 0) rfl (hI.1 _ (by decide)) es1365 rfl 11 (by decide) (hts _ tw_890) (fun _ h9 => h9) rfl dX12_next_105 ?_
                  refine lv_aload_n hx hb dX12_next_108 rfl (lv_at hl 0 rfl) ?_
                  refine hp_get hx hb hts ix12 hown hK hh (q := 0) rfl (hI.1 _ (by decide)) es1365 rfl 14 (by decide) (hts _ tw_893) (fun _ h9 => h9) rfl dX12_next_109 ?_
                  refine hp_iald hx hb hK hh (q := 7) rfl (hI.1 _ (by decide)) es1368 (vp_in_nI (n := d1357) (by omega) (by decide)) dX12_next_112 ?_
                  rw [nI_clamp (n := d1357) (by omega)]
                  rw [show f_1368 d1357 = nI w1364 from (show f_1368 d1357 = rdF (en_1364 7) d1357 from by rw [es1368]; rfl).trans i1_1364.1]
                  refine lv_aload_n hx hb dX12_next_113 rfl (lv_at hl 0 rfl) ?_
                  refine hp_get hx hb hts ix12 hown hK hh (q := 0) rfl (hI.1 _ (by decide)) es1365 rfl 4 (by decide) (hts _ tw_883) (fun _ h9 => h9) rfl dX12_next_114 ?_
                  refine lv_icmp_lt (tgt := 133) hx hb dX12_next_117 (by decide) (fun c_1370 => ?_) (fun c_1370 => ?_)
                  · have n_1370 : w1364 < tb := n_lt (a := w1364) (b := tb) c_1370 (by omega) (by omega)
                    exact absurd n_1370 (by omega)
                  · have n_1370 : tb ≤ w1364 := n_nlt (a := w1364) (b := tb) c_1370 (by omega) (by omega)
                    rcases Nat.eq_zero_or_pos d1357 with hz9 | hz9
                    · have hz8 := hz9
                      refine lv_aload_n hx hb dX12_next_120 rfl (lv_at hl 0 rfl) ?_
                      refine lv_dup hx hb dX12_next_121 rfl ?_
                      refine hp_get hx hb hts ix12 hown hK hh (q := 0) rfl (hI.1 _ (by decide)) es1365 rfl 14 (by decide) (hts _ tw_893) (fun _ h9 => h9) rfl dX12_next_122 ?_
                      refine lv_iconst (v := 1) hx hb dX12_next_125 (by decide) ?_
                      refine lv_isub hx hb dX12_next_126 ?_
                      rw [show nI d1357 - (1 : Int32) = -1 from by rw [hz9]; decide]
                      refine hp_put hx hb hts ix12 tyX12 tyX12_ok nmX12 hown hK hh (q := 0) rfl (hI.1 _ (by decide)) es1365 rfl 14 (by decide) (hts _ tw_893) (fun _ h9 => h9) rfl (ty := .int) (by decide +kernel) rfl rfl (Nat.le_of_ble_eq_true rfl) dX12_next_127 (fun H locs en_1371 hen_1371 hh => ?_)
                      have es1368_1371 : en_1371 7 = .inl (cy 0, 13, .inl f_1368) := by rw [hen_1371, va_up_ne _ _ (by decide)]; exact es1368
                      have es1365_1371 : en_1371 0 = .inr (11, [.int fa_1365, .int hi_1365, .int (nI wd), .int (nI mo), .int (nI tb), .ref (ad 1), .ref (ad 2), .ref (ad 3), .ref (ad 4), .ref (ad 5), .ref (ad 6), .ref (ad 7), .ref (ad 8), .ref (ad 9), .int (-1), .long many_1365, .long grt_1365, .long lst_1365, .long nou_1365, .ref (ad 10), .ref (ad 11), .ref (ad 12), .int rm_1365, .long rb_1365, .ref (ad 13), .int pr_1365, .ref (ad 14), .ref (ad 15), .ref (ad 16), .ref (ad 17), .int (nI wo), .ref (ad 18), .ref (ad 19)]) := by rw [hen_1371]; exact va_up_self _ _ _
                      have hI_1371 : RX cy cs ad en_1371 := by rw [hen_1371]; exact upr_M hI_1364 ⟨fa_1365, hi_1365, wd, mo, tb, (-1), many_1365, grt_1365, lst_1365, nou_1365, rm_1365, rb_1365, pr_1365, wo, rfl, hwd2, hwd3, hmo, htb, hwo⟩
                      have hf_1371 : ∀ c, (c ≠ 0 ∧ c ≠ 6 ∧ c ≠ 7) → en_1371 c = en c := fun c hc => Eq.trans (show en_1371 c = en_1364 c from by rw [hen_1371, va_up_ne _ _ (by omega)]) (hf_1364 c hc)
                      have hkp_1371 : KP en en_1371 := KP_fv i4_1364 es1365 es1365_1371 hi_1365 (nI wd) (nI mo) (nI tb) pr_1365 (nI wo) rfl rfl rfl rfl rfl rfl rfl rfl rfl rfl rfl rfl
                      have hg7_1371 : ∀ i, rdF (en_1371 7) i = rdF (en_1364 7) i := fun i => by rw [hen_1371, va_up_ne _ _ (by decide)]
                      have ha_1371 : ∀ i, i < d1357 → rdF (en_1371 7) i = rdF (en_1357 7) i := fun i hi => (hg7_1371 i).trans (i2_1364 i hi)
                      have hwv_1371 : rdF (en_1371 7) d1357 = nI w1364 := (hg7_1371 d1357).trans i1_1364.1
                      refine lv_goto (tgt := 18) hx hb dX12_next_130 (by decide) ?_
                      refine lv_aload_n hx hb dX12_next_18 rfl (lv_at hl 0 rfl) ?_
                      refine hp_get hx hb hts ix12 hown hK hh (q := 0) rfl (hI.1 _ (by decide)) es1365_1371 rfl 14 (by decide) (hts _ tw_893) (fun _ h9 => h9) rfl dX12_next_19 ?_
                      refine lv_if_lt (tgt := 183) hx hb dX12_next_22 (by decide) (fun _ => ?_) (fun c_0 => absurd c_0 (by decide))
                      refine lv_iconst (v := 0) hx hb dX12_next_183 (by decide) ?_
                      exact hp_iretM hx hb hr rfl hlocks hh (⟨hI_1371, hf_1371, Or.inl rfl, hkp_1371⟩) dX12_next_184
                    · obtain ⟨v_1372, hv_1372, hve_1372⟩ := i1_1357.1 (d1357 - 1) (by omega)
                      refine lv_aload_n hx hb dX12_next_120 rfl (lv_at hl 0 rfl) ?_
                      refine lv_dup hx hb dX12_next_121 rfl ?_
                      refine hp_get hx hb hts ix12 hown hK hh (q := 0) rfl (hI.1 _ (by decide)) es1365 rfl 14 (by decide) (hts _ tw_893) (fun _ h9 => h9) rfl dX12_next_122 ?_
                      refine lv_iconst (v := 1) hx hb dX12_next_125 (by decide) ?_
                      refine lv_isub hx hb dX12_next_126 ?_
                      rw [show (1 : Int32) = nI 1 from rfl, pk_sub (a := d1357) (b := 1) (by omega)]
                      refine hp_put hx hb hts ix12 tyX12 tyX12_ok nmX12 hown hK hh (q := 0) rfl (hI.1 _ (by decide)) es1365 rfl 14 (by decide) (hts _ tw_893) (fun _ h9 => h9) rfl (ty := .int) (by decide +kernel) rfl rfl (Nat.le_of_ble_eq_true rfl) dX12_next_127 (fun H locs en_1373 hen_1373 hh => ?_)
                      have es1368_1373 : en_1373 7 = .inl (cy 0, 13, .inl f_1368) := by rw [hen_1373, va_up_ne _ _ (by decide)]; exact es1368
                      have es1365_1373 : en_1373 0 = .inr (11, [.int fa_1365, .int hi_1365, .int (nI wd), .int (nI mo), .int (nI tb), .ref (ad 1), .ref (ad 2), .ref (ad 3), .ref (ad 4), .ref (ad 5), .ref (ad 6), .ref (ad 7), .ref (ad 8), .ref (ad 9), .int (nI (d1357 - 1)), .long many_1365, .long grt_1365, .long lst_1365, .long nou_1365, .ref (ad 10), .ref (ad 11), .ref (ad 12), .int rm_1365, .long rb_1365, .ref (ad 13), .int pr_1365, .ref (ad 14), .ref (ad 15), .ref (ad 16), .ref (ad 17), .int (nI wo), .ref (ad 18), .ref (ad 19)]) := by rw [hen_1373]; exact va_up_self _ _ _
                      have hI_1373 : RX cy cs ad en_1373 := by rw [hen_1373]; exact upr_M hI_1364 ⟨fa_1365, hi_1365, wd, mo, tb, (nI (d1357 - 1)), many_1365, grt_1365, lst_1365, nou_1365, rm_1365, rb_1365, pr_1365, wo, rfl, hwd2, hwd3, hmo, htb, hwo⟩
                      have hf_1373 : ∀ c, (c ≠ 0 ∧ c ≠ 6 ∧ c ≠ 7) → en_1373 c = en c := fun c hc => Eq.trans (show en_1373 c = en_1364 c from by rw [hen_1373, va_up_ne _ _ (by omega)]) (hf_1364 c hc)
                      have hkp_1373 : KP en en_1373 := KP_fv i4_1364 es1365 es1365_1373 hi_1365 (nI wd) (nI mo) (nI tb) pr_1365 (nI wo) rfl rfl rfl rfl rfl rfl rfl rfl rfl rfl rfl rfl
                      have hg7_1373 : ∀ i, rdF (en_1373 7) i = rdF (en_1364 7) i := fun i => by rw [hen_1373, va_up_ne _ _ (by decide)]
                      have ha_1373 : ∀ i, i < d1357 → rdF (en_1373 7) i = rdF (en_1357 7) i := fun i hi => (hg7_1373 i).trans (i2_1364 i hi)
                      have hwv_1373 : rdF (en_1373 7) d1357 = nI w1364 := (hg7_1373 d1357).trans i1_1364.1
                      refine lv_goto (tgt := 18) hx hb dX12_next_130 (by decide) ?_
                      have hNB_1374 := NWp_back i1_1357 (by omega) (by omega) ha_1373 hv_1372 hve_1372
                      exact ih_1357 (mm1357 - 1) (d1357 - 1) (v_1372 + 1) en_1373 ls H locs (by omega) hI_1373 hf_1373 (⟨by rw [es1365_1373]; rfl, by omega⟩) (hNB_1374.1) (by have h1 := hNB_1374.2; have h2 := i2_1357; omega) (hkp_1373) (lv_sub hl [0, 1] rfl) hh
                · have n_1369 : w1364 < tb := n_nle (a := tb) (b := w1364) c_1369 (by omega) (by omega)
                  refine lv_aload_n hx hb dX12_next_54 rfl (lv_at hl 0 rfl) ?_
                  refine hp_get hx hb hts ix12 hown hK hh (q := 0) rfl (hI.1 _ (by decide)) es1365 rfl 14 (by decide) (hts _ tw_893) (fun _ h9 => h9) rfl dX12_next_55 ?_
                  refine lv_if_le (tgt := 104) hx hb dX12_next_58 (by decide) (fun c_1375 => ?_) (fun c_1375 => ?_)
                  · have n_1375 : d1357 ≤ 0 := n_le (a := d1357) (b := 0) c_1375 (by omega) (by decide)
                    refine lv_aload_n hx hb dX12_next_104 rfl (lv_at hl 0 rfl) ?_
                    refine hp_get hx hb hts ix12 hown hK hh (q := 0) rfl (hI.1 _ (by decide)) es1365 rfl 11 (by decide) (hts _ tw_890) (fun _ h9 => h9) rfl dX12_next_105 ?_
                    refine lv_aload_n hx hb dX12_next_108 rfl (lv_at hl 0 rfl) ?_
                    refine hp_get hx hb hts ix12 hown hK hh (q := 0) rfl (hI.1 _ (by decide)) es1365 rfl 14 (by decide) (hts _ tw_893) (fun _ h9 => h9) rfl dX12_next_109 ?_
                    refine hp_iald hx hb hK hh (q := 7) rfl (hI.1 _ (by decide)) es1368 (vp_in_nI (n := d1357) (by omega) (by decide)) dX12_next_112 ?_
                    rw [nI_clamp (n := d1357) (by omega)]
                    rw [show f_1368 d1357 = nI w1364 from (show f_1368 d1357 = rdF (en_1364 7) d1357 from by rw [es1368]; rfl).trans i1_1364.1]
                    refine lv_aload_n hx hb dX12_next_113 rfl (lv_at hl 0 rfl) ?_
                    refine hp_get hx hb hts ix12 hown hK hh (q := 0) rfl (hI.1 _ (by decide)) es1365 rfl 4 (by decide) (hts _ tw_883) (fun _ h9 => h9) rfl dX12_next_114 ?_
                    refine lv_icmp_lt (tgt := 133) hx hb dX12_next_117 (by decide) (fun c_1376 => ?_) (fun c_1376 => ?_)
                    · have n_1376 : w1364 < tb := n_lt (a := w1364) (b := tb) c_1376 (by omega) (by omega)
                      refine lv_aload_n hx hb dX12_next_133 rfl (lv_at hl 0 rfl) ?_
                      refine lv_aload_n hx hb dX12_next_134 rfl (lv_at hl 0 rfl) ?_
                      refine hp_get hx hb hts ix12 hown hK hh (q := 0) rfl (hI.1 _ (by decide)) es1365 rfl 14 (by decide) (hts _ tw_893) (fun _ h9 => h9) rfl dX12_next_135 ?_
                      refine lv_aload_n hx hb dX12_next_138 rfl (lv_at hl 0 rfl) ?_
                      refine hp_get hx hb hts ix12 hown hK hh (q := 0) rfl (hI.1 _ (by decide)) es1365 rfl 11 (by decide) (hts _ tw_890) (fun _ h9 => h9) rfl dX12_next_139 ?_
                      refine lv_aload_n hx hb dX12_next_142 rfl (lv_at hl 0 rfl) ?_
                      refine hp_get hx hb hts ix12 hown hK hh (q := 0) rfl (hI.1 _ (by decide)) es1365 rfl 14 (by decide) (hts _ tw_893) (fun _ h9 => h9) rfl dX12_next_143 ?_
                      refine hp_iald hx hb hK hh (q := 7) rfl (hI.1 _ (by decide)) es1368 (vp_in_nI (n := d1357) (by omega) (by decide)) dX12_next_146 ?_
                      rw [nI_clamp (n := d1357) (by omega)]
                      rw [show f_1368 d1357 = nI w1364 from (show f_1368 d1357 = rdF (en_1364 7) d1357 from by rw [es1368]; rfl).trans i1_1364.1]
                      refine hp_callMv (va_runV (As := [.int (nI d1357), .int (nI w1364)]) (rest := []) ⟨hx, hb, hml, hown, hts⟩ (c_X12_goOn l D cy _ cs ad en_1364 hI_1364 d1357 w1364 (by omega) (by omega)) (kw_X12_goOn hts tw_1050 ⟨by decide, by decide⟩) (preV_of hh hK (hI.1 _ (by decide)) es1365 rfl) rfl rfl hl.1 rfl (lv_room (Nat.le_of_ble_eq_true rfl)) dX12_next_147 ⟨Nat.le_of_ble_eq_true rfl, Nat.le_of_ble_eq_true rfl⟩) hh hA (fun H locs en_1377 hw_1377 hh => ?_)
                      obtain ⟨hI_1377, hu_1377, hx_1377⟩ := hw_1377
                      have es1365_1377 : en_1377 0 = .inr (11, [.int fa_1365, .int hi_1365, .int (nI wd), .int (nI mo), .int (nI tb), .ref (ad 1), .ref (ad 2), .ref (ad 3), .ref (ad 4), .ref (ad 5), .ref (ad 6), .ref (ad 7), .ref (ad 8), .ref (ad 9), .int (nI d1357), .long many_1365, .long grt_1365, .long lst_1365, .long nou_1365, .ref (ad 10), .ref (ad 11), .ref (ad 12), .int rm_1365, .long rb_1365, .ref (ad 13), .int pr_1365, .ref (ad 14), .ref (ad 15), .ref (ad 16), .ref (ad 17), .int (nI wo), .ref (ad 18), .ref (ad 19)]) := (hu_1377 0 (by omega)).trans es1365
                      have es1368_1377 : en_1377 7 = .inl (cy 0, 13, .inl f_1368) := (hu_1377 7 (by omega)).trans es1368
                      have hf_1377 : ∀ c, (c ≠ 0 ∧ c ≠ 6 ∧ c ≠ 7) → en_1377 c = en c := fun c hc => (hu_1377 c (by omega)).trans (hf_1364 c hc)
                      have hkp_1377 : KP en en_1377 := KP_same i4_1364 (hu_1377 0 (by omega))
                      have hg7_1377 : ∀ i, rdF (en_1377 7) i = rdF (en_1364 7) i := fun i => by rw [hu_1377 7 (by omega)]
                      have ha_1377 : ∀ i, i < d1357 → rdF (en_1377 7) i = rdF (en_1357 7) i := fun i hi => (hg7_1377 i).trans (i2_1364 i hi)
                      have hwv_1377 : rdF (en_1377 7) d1357 = nI w1364 := (hg7_1377 d1357).trans i1_1364.1
                      refine lv_aload_n hx hb dX12_next_150 rfl (lv_at hl 0 rfl) ?_
                      refine lv_dup hx hb dX12_next_151 rfl ?_
                      refine hp_get hx hb hts ix12 hown hK hh (q := 0) rfl (hI.1 _ (by decide)) es1365_1377 rfl 14 (by decide) (hts _ tw_893) (fun _ h9 => h9) rfl dX12_next_152 ?_
                      refine lv_iconst (v := 1) hx hb dX12_next_155 (by decide) ?_
                      refine lv_iadd hx hb dX12_next_156 ?_
                      rw [show (1 : Int32) = nI 1 from rfl, nI_add d1357 1]
                      refine hp_put hx hb hts ix12 tyX12 tyX12_ok nmX12 hown hK hh (q := 0) rfl (hI.1 _ (by decide)) es1365_1377 rfl 14 (by decide) (hts _ tw_893) (fun _ h9 => h9) rfl (ty := .int) (by decide +kernel) rfl rfl (Nat.le_of_ble_eq_true rfl) dX12_next_157 (fun H locs en_1378 hen_1378 hh => ?_)
                      have es1368_1378 : en_1378 7 = .inl (cy 0, 13, .inl f_1368) := by rw [hen_1378, va_up_ne _ _ (by decide)]; exact es1368_1377
                      have es1365_1378 : en_1378 0 = .inr (11, [.int fa_1365, .int hi_1365, .int (nI wd), .int (nI mo), .int (nI tb), .ref (ad 1), .ref (ad 2), .ref (ad 3), .ref (ad 4), .ref (ad 5), .ref (ad 6), .ref (ad 7), .ref (ad 8), .ref (ad 9), .int (nI (d1357 + 1)), .long many_1365, .long grt_1365, .long lst_1365, .long nou_1365, .ref (ad 10), .ref (ad 11), .ref (ad 12), .int rm_1365, .long rb_1365, .ref (ad 13), .int pr_1365, .ref (ad 14), .ref (ad 15), .ref (ad 16), .ref (ad 17), .int (nI wo), .ref (ad 18), .ref (ad 19)]) := by rw [hen_1378]; exact va_up_self _ _ _
                      have hI_1378 : RX cy cs ad en_1378 := by rw [hen_1378]; exact upr_M hI_1377 ⟨fa_1365, hi_1365, wd, mo, tb, (nI (d1357 + 1)), many_1365, grt_1365, lst_1365, nou_1365, rm_1365, rb_1365, pr_1365, wo, rfl, hwd2, hwd3, hmo, htb, hwo⟩
                      have hf_1378 : ∀ c, (c ≠ 0 ∧ c ≠ 6 ∧ c ≠ 7) → en_1378 c = en c := fun c hc => Eq.trans (show en_1378 c = en_1377 c from by rw [hen_1378, va_up_ne _ _ (by omega)]) (hf_1377 c hc)
                      have hkp_1378 : KP en en_1378 := KP_fv hkp_1377 es1365_1377 es1365_1378 hi_1365 (nI wd) (nI mo) (nI tb) pr_1365 (nI wo) rfl rfl rfl rfl rfl rfl rfl rfl rfl rfl rfl rfl
                      have hg7_1378 : ∀ i, rdF (en_1378 7) i = rdF (en_1377 7) i := fun i => by rw [hen_1378, va_up_ne _ _ (by decide)]
                      have ha_1378 : ∀ i, i < d1357 → rdF (en_1378 7) i = rdF (en_1357 7) i := fun i hi => (hg7_1378 i).trans (ha_1377 i hi)
                      have hwv_1378 : rdF (en_1378 7) d1357 = nI w1364 := (hg7_1378 d1357).trans hwv_1377
                      refine lv_aload_n hx hb dX12_next_160 rfl (lv_at hl 0 rfl) ?_
                      refine hp_get hx hb hts ix12 hown hK hh (q := 0) rfl (hI.1 _ (by decide)) es1365_1378 rfl 14 (by decide) (hts _ tw_893) (fun _ h9 => h9) rfl dX12_next_161 ?_
                      refine lv_iload_n hx hb dX12_next_164 rfl (lv_at hl 1 rfl) ?_
                      refine lv_icmp_ne (tgt := 170) hx hb dX12_next_165 (by decide) (fun c_1379 => ?_) (fun c_1379 => ?_)
                      · have n_1379 : (d1357 + 1) ≠ n := n_neq (a := (d1357 + 1)) (b := n) c_1379 (by omega) (by omega)
                        refine lv_aload_n hx hb dX12_next_170 rfl (lv_at hl 0 rfl) ?_
                        refine hp_get hx hb hts ix12 hown hK hh (q := 0) rfl (hI.1 _ (by decide)) es1365_1378 rfl 11 (by decide) (hts _ tw_890) (fun _ h9 => h9) rfl dX12_next_171 ?_
                        refine lv_aload_n hx hb dX12_next_174 rfl (lv_at hl 0 rfl) ?_
                        refine hp_get hx hb hts ix12 hown hK hh (q := 0) rfl (hI.1 _ (by decide)) es1365_1378 rfl 14 (by decide) (hts _ tw_893) (fun _ h9 => h9) rfl dX12_next_175 ?_
                        refine lv_iconst (v := (-1)) hx hb dX12_next_178 (by decide) ?_
                        refine hp_iast hx hb hK hh (q := 7) rfl (hI.1 _ (by decide)) es1368_1378 (vp_in_nI (n := (d1357 + 1)) (by omega) (by decide)) dX12_next_179 (fun H locs en_1380 hen_1380 hh => ?_)
                        rw [nI_clamp (n := (d1357 + 1)) (by omega)] at hen_1380
                        have es1365_1380 : en_1380 0 = .inr (11, [.int fa_1365, .int hi_1365, .int (nI wd), .int (nI mo), .int (nI tb), .ref (ad 1), .ref (ad 2), .ref (ad 3), .ref (ad 4), .ref (ad 5), .ref (ad 6), .ref (ad 7), .ref (ad 8), .ref (ad 9), .int (nI (d1357 + 1)), .long many_1365, .long grt_1365, .long lst_1365, .long nou_1365, .ref (ad 10), .ref (ad 11), .ref (ad 12), .int rm_1365, .long rb_1365, .ref (ad 13), .int pr_1365, .ref (ad 14), .ref (ad 15), .ref (ad 16), .ref (ad 17), .int (nI wo), .ref (ad 18), .ref (ad 19)]) := by rw [hen_1380, va_up_ne _ _ (by decide)]; exact es1365_1378
                        have es1368_1380 : en_1380 7 = .inl (cy 0, 13, .inl (upd f_1368 (d1357 + 1) (-1))) := by rw [hen_1380]; exact va_up_self _ _ _
                        have hI_1380 : RX cy cs ad en_1380 := by rw [hen_1380]; exact upr_nw hI_1378 ⟨(upd f_1368 (d1357 + 1) (-1)), rfl⟩
                        have hf_1380 : ∀ c, (c ≠ 0 ∧ c ≠ 6 ∧ c ≠ 7) → en_1380 c = en c := fun c hc => Eq.trans (show en_1380 c = en_1378 c from by rw [hen_1380, va_up_ne _ _ (by omega)]) (hf_1378 c hc)
                        have hkp_1380 : KP en en_1380 := KP_same hkp_1378 (show en_1380 0 = en_1378 0 from by rw [hen_1380, va_up_ne _ _ (by decide)])
                        have hno_1380 : ∀ i, i ≠ (d1357 + 1) → rdF (en_1380 7) i = rdF (en_1378 7) i := fun i hi => by rw [es1368_1380, es1368_1378]; exact pk_un hi
                        have hnv_1380 : rdF (en_1380 7) (d1357 + 1) = (-1) := by rw [es1368_1380]; exact pk_us
                        have ha_1380 : ∀ i, i < d1357 → rdF (en_1380 7) i = rdF (en_1357 7) i := fun i hi => (hno_1380 i (by omega)).trans (ha_1378 i hi)
                        have hwv_1380 : rdF (en_1380 7) d1357 = nI w1364 := (hno_1380 d1357 (by omega)).trans hwv_1378
                        refine lv_goto (tgt := 18) hx hb dX12_next_180 (by decide) ?_
                        have hNB_1381 := NWp_desc i1_1357 (by omega) ha_1380 hwv_1380 (by omega) (by omega) hnv_1380
                        exact ih_1357 (mm1357 - 1) (d1357 + 1) 0 en_1380 ls H locs (by omega) hI_1380 hf_1380 (⟨by rw [es1365_1380]; rfl, by omega⟩) (hNB_1381.1) (by have h1 := hNB_1381.2; have h2 := i2_1357; omega) (hkp_1380) (lv_sub hl [0, 1] rfl) hh
                      · have n_1379 : (d1357 + 1) = n := n_eq (a := (d1357 + 1)) (b := n) c_1379 (by omega) (by omega)
                        refine lv_iconst (v := 1) hx hb dX12_next_168 (by decide) ?_
                        have hNR_1382 := NWp_ret i1_1357 ha_1378 hwv_1378 (by omega) (by omega)
                        have hdn_1382 : n - 1 = d1357 := by omega
                        exact hp_iretM hx hb hr rfl hlocks hh (⟨hI_1378, hf_1378, Or.inr ⟨rfl, w1364 + 1, ⟨by omega, Or.inr ⟨by rw [es1365_1378]; exact congrArg nI (by omega), by omega⟩, by rw [hdn_1382]; exact hNR_1382.1⟩, by omega, by have h1 := hNR_1382.2; have h2 := i2_1357.2; rw [hdn_1382]; omega⟩, hkp_1378⟩) dX12_next_169
                    · have n_1376 : tb ≤ w1364 := n_nlt (a := w1364) (b := tb) c_1376 (by omega) (by omega)
                      exact absurd n_1376 (by omega)
                  · have n_1375 : 0 < d1357 := n_nle (a := d1357) (b := 0) c_1375 (by omega) (by decide)
                    refine lv_aload_n hx hb dX12_next_61 rfl (lv_at hl 0 rfl) ?_
                    refine lv_aload_n hx hb dX12_next_62 rfl (lv_at hl 0 rfl) ?_
                    refine hp_get hx hb hts ix12 hown hK hh (q := 0) rfl (hI.1 _ (by decide)) es1365 rfl 11 (by decide) (hts _ tw_890) (fun _ h9 => h9) rfl dX12_next_63 ?_
                    refine lv_aload_n hx hb dX12_next_66 rfl (lv_at hl 0 rfl) ?_
                    refine hp_get hx hb hts ix12 hown hK hh (q := 0) rfl (hI.1 _ (by decide)) es1365 rfl 14 (by decide) (hts _ tw_893) (fun _ h9 => h9) rfl dX12_next_67 ?_
                    refine lv_iconst (v := 1) hx hb dX12_next_70 (by decide) ?_
                    refine lv_isub hx hb dX12_next_71 ?_
                    rw [show (1 : Int32) = nI 1 from rfl, pk_sub (a := d1357) (b := 1) (by omega)]
                    refine hp_iald hx hb hK hh (q := 7) rfl (hI.1 _ (by decide)) es1368 (vp_in_nI (n := (d1357 - 1)) (by omega) (by decide)) dX12_next_72 ?_
                    rw [nI_clamp (n := (d1357 - 1)) (by omega)]
                    obtain ⟨v_1383, hv_1383, hve_1383⟩ := i1_1357.1 (d1357 - 1) (by omega)
                    rw [show f_1368 (d1357 - 1) = nI v_1383 from (show f_1368 (d1357 - 1) = rdF (en_1364 7) (d1357 - 1) from by rw [es1368]; rfl).trans ((i2_1364 (d1357 - 1) (by omega)).trans hve_1383)]
                    refine lv_aload_n hx hb dX12_next_73 rfl (lv_at hl 0 rfl) ?_
                    refine hp_get hx hb hts ix12 hown hK hh (q := 0) rfl (hI.1 _ (by decide)) es1365 rfl 11 (by decide) (hts _ tw_890) (fun _ h9 => h9) rfl dX12_next_74 ?_
                    refine lv_aload_n hx hb dX12_next_77 rfl (lv_at hl 0 rfl) ?_
                    refine hp_get hx hb hts ix12 hown hK hh (q := 0) rfl (hI.1 _ (by decide)) es1365 rfl 14 (by decide) (hts _ tw_893) (fun _ h9 => h9) rfl dX12_next_78 ?_
                    refine hp_iald hx hb hK hh (q := 7) rfl (hI.1 _ (by decide)) es1368 (vp_in_nI (n := d1357) (by omega) (by decide)) dX12_next_81 ?_
                    rw [nI_clamp (n := d1357) (by omega)]
                    rw [show f_1368 d1357 = nI w1364 from (show f_1368 d1357 = rdF (en_1364 7) d1357 from by rw [es1368]; rfl).trans i1_1364.1]
                    refine hp_callRi (va_runV (As := [.int (nI v_1383), .int (nI w1364)]) (rest := []) ⟨hx, hb, hml, hown, hts⟩ (c_X12_mayFollow l D cy _ cs ad en_1364 hI_1364 v_1383 w1364 (by omega) (by omega)) (kw_X12_mayFollow hts tw_1029 ⟨by decide, by decide⟩) (preV_of hh hK (hI.1 _ (by decide)) es1365 rfl) rfl rfl hl.1 rfl (lv_room (Nat.le_of_ble_eq_true rfl)) dX12_next_82 ⟨Nat.le_of_ble_eq_true rfl, Nat.le_of_ble_eq_true rfl⟩) hh hA (fun r_1384 H locs hw_1384 hh => ?_)
                    rcases Decidable.em (rdF (en_1364 2) (6 * v_1383 + w1364) = 0) with hp_1384 | hp_1384
                    · obtain rfl : r_1384 = 1 := Eq.trans hw_1384 (if_pos hp_1384)
                      refine lv_if_ne (tgt := 104) hx hb dX12_next_85 (by decide) (fun _ => ?_) (fun c_0 => absurd c_0 (by decide))
                      refine lv_aload_n hx hb dX12_next_104 rfl (lv_at hl 0 rfl) ?_
                      refine hp_get hx hb hts ix12 hown hK hh (q := 0) rfl (hI.1 _ (by decide)) es1365 rfl 11 (by decide) (hts _ tw_890) (fun _ h9 => h9) rfl dX12_next_105 ?_
                      refine lv_aload_n hx hb dX12_next_108 rfl (lv_at hl 0 rfl) ?_
                      refine hp_get hx hb hts ix12 hown hK hh (q := 0) rfl (hI.1 _ (by decide)) es1365 rfl 14 (by decide) (hts _ tw_893) (fun _ h9 => h9) rfl dX12_next_109 ?_
                      refine hp_iald hx hb hK hh (q := 7) rfl (hI.1 _ (by decide)) es1368 (vp_in_nI (n := d1357) (by omega) (by decide)) dX12_next_112 ?_
                      rw [nI_clamp (n := d1357) (by omega)]
                      rw [show f_1368 d1357 = nI w1364 from (show f_1368 d1357 = rdF (en_1364 7) d1357 from by rw [es1368]; rfl).trans i1_1364.1]
                      refine lv_aload_n hx hb dX12_next_113 rfl (lv_at hl 0 rfl) ?_
                      refine hp_get hx hb hts ix12 hown hK hh (q := 0) rfl (hI.1 _ (by decide)) es1365 rfl 4 (by decide) (hts _ tw_883) (fun _ h9 => h9) rfl dX12_next_114 ?_
                      refine lv_icmp_lt (tgt := 133) hx hb dX12_next_117 (by decide) (fun c_1385 => ?_) (fun c_1385 => ?_)
                      · have n_1385 : w1364 < tb := n_lt (a := w1364) (b := tb) c_1385 (by omega) (by omega)
                        refine lv_aload_n hx hb dX12_next_133 rfl (lv_at hl 0 rfl) ?_
                        refine lv_aload_n hx hb dX12_next_134 rfl (lv_at hl 0 rfl) ?_
                        refine hp_get hx hb hts ix12 hown hK hh (q := 0) rfl (hI.1 _ (by decide)) es1365 rfl 14 (by decide) (hts _ tw_893) (fun _ h9 => h9) rfl dX12_next_135 ?_
                        refine lv_aload_n hx hb dX12_next_138 rfl (lv_at hl 0 rfl) ?_
                        refine hp_get hx hb hts ix12 hown hK hh (q := 0) rfl (hI.1 _ (by decide)) es1365 rfl 11 (by decide) (hts _ tw_890) (fun _ h9 => h9) rfl dX12_next_139 ?_
                        refine lv_aload_n hx hb dX12_next_142 rfl (lv_at hl 0 rfl) ?_
                        refine hp_get hx hb hts ix12 hown hK hh (q := 0) rfl (hI.1 _ (by decide)) es1365 rfl 14 (by decide) (hts _ tw_893) (fun _ h9 => h9) rfl dX12_next_143 ?_
                        refine hp_iald hx hb hK hh (q := 7) rfl (hI.1 _ (by decide)) es1368 (vp_in_nI (n := d1357) (by omega) (by decide)) dX12_next_146 ?_
                        rw [nI_clamp (n := d1357) (by omega)]
                        rw [show f_1368 d1357 = nI w1364 from (show f_1368 d1357 = rdF (en_1364 7) d1357 from by rw [es1368]; rfl).trans i1_1364.1]
                        refine hp_callMv (va_runV (As := [.int (nI d1357), .int (nI w1364)]) (rest := []) ⟨hx, hb, hml, hown, hts⟩ (c_X12_goOn l D cy _ cs ad en_1364 hI_1364 d1357 w1364 (by omega) (by omega)) (kw_X12_goOn hts tw_1050 ⟨by decide, by decide⟩) (preV_of hh hK (hI.1 _ (by decide)) es1365 rfl) rfl rfl hl.1 rfl (lv_room (Nat.le_of_ble_eq_true rfl)) dX12_next_147 ⟨Nat.le_of_ble_eq_true rfl, Nat.le_of_ble_eq_true rfl⟩) hh hA (fun H locs en_1386 hw_1386 hh => ?_)
                        obtain ⟨hI_1386, hu_1386, hx_1386⟩ := hw_1386
                        have es1365_1386 : en_1386 0 = .inr (11, [.int fa_1365, .int hi_1365, .int (nI wd), .int (nI mo), .int (nI tb), .ref (ad 1), .ref (ad 2), .ref (ad 3), .ref (ad 4), .ref (ad 5), .ref (ad 6), .ref (ad 7), .ref (ad 8), .ref (ad 9), .int (nI d1357), .long many_1365, .long grt_1365, .long lst_1365, .long nou_1365, .ref (ad 10), .ref (ad 11), .ref (ad 12), .int rm_1365, .long rb_1365, .ref (ad 13), .int pr_1365, .ref (ad 14), .ref (ad 15), .ref (ad 16), .ref (ad 17), .int (nI wo), .ref (ad 18), .ref (ad 19)]) := (hu_1386 0 (by omega)).trans es1365
                        have es1368_1386 : en_1386 7 = .inl (cy 0, 13, .inl f_1368) := (hu_1386 7 (by omega)).trans es1368
                        have hf_1386 : ∀ c, (c ≠ 0 ∧ c ≠ 6 ∧ c ≠ 7) → en_1386 c = en c := fun c hc => (hu_1386 c (by omega)).trans (hf_1364 c hc)
                        have hkp_1386 : KP en en_1386 := KP_same i4_1364 (hu_1386 0 (by omega))
                        have hg7_1386 : ∀ i, rdF (en_1386 7) i = rdF (en_1364 7) i := fun i => by rw [hu_1386 7 (by omega)]
                        have ha_1386 : ∀ i, i < d1357 → rdF (en_1386 7) i = rdF (en_1357 7) i := fun i hi => (hg7_1386 i).trans (i2_1364 i hi)
                        have hwv_1386 : rdF (en_1386 7) d1357 = nI w1364 := (hg7_1386 d1357).trans i1_1364.1
                        refine lv_aload_n hx hb dX12_next_150 rfl (lv_at hl 0 rfl) ?_
                        refine lv_dup hx hb dX12_next_151 rfl ?_
                        refine hp_get hx hb hts ix12 hown hK hh (q := 0) rfl (hI.1 _ (by decide)) es1365_1386 rfl 14 (by decide) (hts _ tw_893) (fun _ h9 => h9) rfl dX12_next_152 ?_
                        refine lv_iconst (v := 1) hx hb dX12_next_155 (by decide) ?_
                        refine lv_iadd hx hb dX12_next_156 ?_
                        rw [show (1 : Int32) = nI 1 from rfl, nI_add d1357 1]
                        refine hp_put hx hb hts ix12 tyX12 tyX12_ok nmX12 hown hK hh (q := 0) rfl (hI.1 _ (by decide)) es1365_1386 rfl 14 (by decide) (hts _ tw_893) (fun _ h9 => h9) rfl (ty := .int) (by decide +kernel) rfl rfl (Nat.le_of_ble_eq_true rfl) dX12_next_157 (fun H locs en_1387 hen_1387 hh => ?_)
                        have es1368_1387 : en_1387 7 = .inl (cy 0, 13, .inl f_1368) := by rw [hen_1387, va_up_ne _ _ (by decide)]; exact es1368_1386
                        have es1365_1387 : en_1387 0 = .inr (11, [.int fa_1365, .int hi_1365, .int (nI wd), .int (nI mo), .int (nI tb), .ref (ad 1), .ref (ad 2), .ref (ad 3), .ref (ad 4), .ref (ad 5), .ref (ad 6), .ref (ad 7), .ref (ad 8), .ref (ad 9), .int (nI (d1357 + 1)), .long many_1365, .long grt_1365, .long lst_1365, .long nou_1365, .ref (ad 10), .ref (ad 11), .ref (ad 12), .int rm_1365, .long rb_1365, .ref (ad 13), .int pr_1365, .ref (ad 14), .ref (ad 15), .ref (ad 16), .ref (ad 17), .int (nI wo), .ref (ad 18), .ref (ad 19)]) := by rw [hen_1387]; exact va_up_self _ _ _
                        have hI_1387 : RX cy cs ad en_1387 := by rw [hen_1387]; exact upr_M hI_1386 ⟨fa_1365, hi_1365, wd, mo, tb, (nI (d1357 + 1)), many_1365, grt_1365, lst_1365, nou_1365, rm_1365, rb_1365, pr_1365, wo, rfl, hwd2, hwd3, hmo, htb, hwo⟩
                        have hf_1387 : ∀ c, (c ≠ 0 ∧ c ≠ 6 ∧ c ≠ 7) → en_1387 c = en c := fun c hc => Eq.trans (show en_1387 c = en_1386 c from by rw [hen_1387, va_up_ne _ _ (by omega)]) (hf_1386 c hc)
                        have hkp_1387 : KP en en_1387 := KP_fv hkp_1386 es1365_1386 es1365_1387 hi_1365 (nI wd) (nI mo) (nI tb) pr_1365 (nI wo) rfl rfl rfl rfl rfl rfl rfl rfl rfl rfl rfl rfl
                        have hg7_1387 : ∀ i, rdF (en_1387 7) i = rdF (en_1386 7) i := fun i => by rw [hen_1387, va_up_ne _ _ (by decide)]
                        have ha_1387 : ∀ i, i < d1357 → rdF (en_1387 7) i = rdF (en_1357 7) i := fun i hi => (hg7_1387 i).trans (ha_1386 i hi)
                        have hwv_1387 : rdF (en_1387 7) d1357 = nI w1364 := (hg7_1387 d1357).trans hwv_1386
                        refine lv_aload_n hx hb dX12_next_160 rfl (lv_at hl 0 rfl) ?_
                        refine hp_get hx hb hts ix12 hown hK hh (q := 0) rfl (hI.1 _ (by decide)) es1365_1387 rfl 14 (by decide) (hts _ tw_893) (fun _ h9 => h9) rfl dX12_next_161 ?_
                        refine lv_iload_n hx hb dX12_next_164 rfl (lv_at hl 1 rfl) ?_
                        refine lv_icmp_ne (tgt := 170) hx hb dX12_next_165 (by decide) (fun c_1388 => ?_) (fun c_1388 => ?_)
                        · have n_1388 : (d1357 + 1) ≠ n := n_neq (a := (d1357 + 1)) (b := n) c_1388 (by omega) (by omega)
                          refine lv_aload_n hx hb dX12_next_170 rfl (lv_at hl 0 rfl) ?_
                          refine hp_get hx hb hts ix12 hown hK hh (q := 0) rfl (hI.1 _ (by decide)) es1365_1387 rfl 11 (by decide) (hts _ tw_890) (fun _ h9 => h9) rfl dX12_next_171 ?_
                          refine lv_aload_n hx hb dX12_next_174 rfl (lv_at hl 0 rfl) ?_
                          refine hp_get hx hb hts ix12 hown hK hh (q := 0) rfl (hI.1 _ (by decide)) es1365_1387 rfl 14 (by decide) (hts _ tw_893) (fun _ h9 => h9) rfl dX12_next_175 ?_
                          refine lv_iconst (v := (-1)) hx hb dX12_next_178 (by decide) ?_
                          refine hp_iast hx hb hK hh (q := 7) rfl (hI.1 _ (by decide)) es1368_1387 (vp_in_nI (n := (d1357 + 1)) (by omega) (by decide)) dX12_next_179 (fun H locs en_1389 hen_1389 hh => ?_)
                          rw [nI_clamp (n := (d1357 + 1)) (by omega)] at hen_1389
                          have es1365_1389 : en_1389 0 = .inr (11, [.int fa_1365, .int hi_1365, .int (nI wd), .int (nI mo), .int (nI tb), .ref (ad 1), .ref (ad 2), .ref (ad 3), .ref (ad 4), .ref (ad 5), .ref (ad 6), .ref (ad 7), .ref (ad 8), .ref (ad 9), .int (nI (d1357 + 1)), .long many_1365, .long grt_1365, .long lst_1365, .long nou_1365, .ref (ad 10), .ref (ad 11), .ref (ad 12), .int rm_1365, .long rb_1365, .ref (ad 13), .int pr_1365, .ref (ad 14), .ref (ad 15), .ref (ad 16), .ref (ad 17), .int (nI wo), .ref (ad 18), .ref (ad 19)]) := by rw [hen_1389, va_up_ne _ _ (by decide)]; exact es1365_1387
                          have es1368_1389 : en_1389 7 = .inl (cy 0, 13, .inl (upd f_1368 (d1357 + 1) (-1))) := by rw [hen_1389]; exact va_up_self _ _ _
                          have hI_1389 : RX cy cs ad en_1389 := by rw [hen_1389]; exact upr_nw hI_1387 ⟨(upd f_1368 (d1357 + 1) (-1)), rfl⟩
                          have hf_1389 : ∀ c, (c ≠ 0 ∧ c ≠ 6 ∧ c ≠ 7) → en_1389 c = en c := fun c hc => Eq.trans (show en_1389 c = en_1387 c from by rw [hen_1389, va_up_ne _ _ (by omega)]) (hf_1387 c hc)
                          have hkp_1389 : KP en en_1389 := KP_same hkp_1387 (show en_1389 0 = en_1387 0 from by rw [hen_1389, va_up_ne _ _ (by decide)])
                          have hno_1389 : ∀ i, i ≠ (d1357 + 1) → rdF (en_1389 7) i = rdF (en_1387 7) i := fun i hi => by rw [es1368_1389, es1368_1387]; exact pk_un hi
                          have hnv_1389 : rdF (en_1389 7) (d1357 + 1) = (-1) := by rw [es1368_1389]; exact pk_us
                          have ha_1389 : ∀ i, i < d1357 → rdF (en_1389 7) i = rdF (en_1357 7) i := fun i hi => (hno_1389 i (by omega)).trans (ha_1387 i hi)
                          have hwv_1389 : rdF (en_1389 7) d1357 = nI w1364 := (hno_1389 d1357 (by omega)).trans hwv_1387
                          refine lv_goto (tgt := 18) hx hb dX12_next_180 (by decide) ?_
                          have hNB_1390 := NWp_desc i1_1357 (by omega) ha_1389 hwv_1389 (by omega) (by omega) hnv_1389
                          exact ih_1357 (mm1357 - 1) (d1357 + 1) 0 en_1389 ls H locs (by omega) hI_1389 hf_1389 (⟨by rw [es1365_1389]; rfl, by omega⟩) (hNB_1390.1) (by have h1 := hNB_1390.2; have h2 := i2_1357; omega) (hkp_1389) (lv_sub hl [0, 1] rfl) hh
                        · have n_1388 : (d1357 + 1) = n := n_eq (a := (d1357 + 1)) (b := n) c_1388 (by omega) (by omega)
                          refine lv_iconst (v := 1) hx hb dX12_next_168 (by decide) ?_
                          have hNR_1391 := NWp_ret i1_1357 ha_1387 hwv_1387 (by omega) (by omega)
                          have hdn_1391 : n - 1 = d1357 := by omega
                          exact hp_iretM hx hb hr rfl hlocks hh (⟨hI_1387, hf_1387, Or.inr ⟨rfl, w1364 + 1, ⟨by omega, Or.inr ⟨by rw [es1365_1387]; exact congrArg nI (by omega), by omega⟩, by rw [hdn_1391]; exact hNR_1391.1⟩, by omega, by have h1 := hNR_1391.2; have h2 := i2_1357.2; rw [hdn_1391]; omega⟩, hkp_1387⟩) dX12_next_169
                      · have n_1385 : tb ≤ w1364 := n_nlt (a := w1364) (b := tb) c_1385 (by omega) (by omega)
                        exact absurd n_1385 (by omega)
                    · obtain rfl : r_1384 = 0 := Eq.trans hw_1384 (if_neg hp_1384)
                      refine lv_if_ne (tgt := 104) hx hb dX12_next_85 (by decide) (fun c_0 => absurd c_0 (by decide)) (fun _ => ?_)
                      refine lv_aload_n hx hb dX12_next_88 rfl (lv_at hl 0 rfl) ?_
                      refine hp_get hx hb hts ix12 hown hK hh (q := 0) rfl (hI.1 _ (by decide)) es1365 rfl 11 (by decide) (hts _ tw_890) (fun _ h9 => h9) rfl dX12_next_89 ?_
                      refine lv_aload_n hx hb dX12_next_92 rfl (lv_at hl 0 rfl) ?_
                      refine hp_get hx hb hts ix12 hown hK hh (q := 0) rfl (hI.1 _ (by decide)) es1365 rfl 14 (by decide) (hts _ tw_893) (fun _ h9 => h9) rfl dX12_next_93 ?_
                      refine lv_dup2_11 hx hb dX12_next_96 rfl rfl ?_
                      refine hp_iald hx hb hK hh (q := 7) rfl (hI.1 _ (by decide)) es1368 (vp_in_nI (n := d1357) (by omega) (by decide)) dX12_next_97 ?_
                      rw [nI_clamp (n := d1357) (by omega)]
                      rw [show f_1368 d1357 = nI w1364 from (show f_1368 d1357 = rdF (en_1364 7) d1357 from by rw [es1368]; rfl).trans i1_1364.1]
                      refine lv_iconst (v := 1) hx hb dX12_next_98 (by decide) ?_
                      refine lv_iadd hx hb dX12_next_99 ?_
                      rw [show (1 : Int32) = nI 1 from rfl, nI_add w1364 1]
                      refine hp_iast hx hb hK hh (q := 7) rfl (hI.1 _ (by decide)) es1368 (vp_in_nI (n := d1357) (by omega) (by decide)) dX12_next_100 (fun H locs en_1392 hen_1392 hh => ?_)
                      rw [nI_clamp (n := d1357) (by omega)] at hen_1392
                      have es1365_1392 : en_1392 0 = .inr (11, [.int fa_1365, .int hi_1365, .int (nI wd), .int (nI mo), .int (nI tb), .ref (ad 1), .ref (ad 2), .ref (ad 3), .ref (ad 4), .ref (ad 5), .ref (ad 6), .ref (ad 7), .ref (ad 8), .ref (ad 9), .int (nI d1357), .long many_1365, .long grt_1365, .long lst_1365, .long nou_1365, .ref (ad 10), .ref (ad 11), .ref (ad 12), .int rm_1365, .long rb_1365, .ref (ad 13), .int pr_1365, .ref (ad 14), .ref (ad 15), .ref (ad 16), .ref (ad 17), .int (nI wo), .ref (ad 18), .ref (ad 19)]) := by rw [hen_1392, va_up_ne _ _ (by decide)]; exact es1365
                      have es1368_1392 : en_1392 7 = .inl (cy 0, 13, .inl (upd f_1368 d1357 (nI (w1364 + 1)))) := by rw [hen_1392]; exact va_up_self _ _ _
                      have hI_1392 : RX cy cs ad en_1392 := by rw [hen_1392]; exact upr_nw hI_1364 ⟨(upd f_1368 d1357 (nI (w1364 + 1))), rfl⟩
                      have hf_1392 : ∀ c, (c ≠ 0 ∧ c ≠ 6 ∧ c ≠ 7) → en_1392 c = en c := fun c hc => Eq.trans (show en_1392 c = en_1364 c from by rw [hen_1392, va_up_ne _ _ (by omega)]) (hf_1364 c hc)
                      have hkp_1392 : KP en en_1392 := KP_same i4_1364 (show en_1392 0 = en_1364 0 from by rw [hen_1392, va_up_ne _ _ (by decide)])
                      have hno_1392 : ∀ i, i ≠ d1357 → rdF (en_1392 7) i = rdF (en_1364 7) i := fun i hi => by rw [es1368_1392, es1368]; exact pk_un hi
                      have hnv_1392 : rdF (en_1392 7) d1357 = (nI (w1364 + 1)) := by rw [es1368_1392]; exact pk_us
                      refine lv_goto (tgt := 38) hx hb dX12_next_101 (by decide) ?_
                      exact ih_1364 (mm1364 - 1) (w1364 + 1) en_1392 ls H locs (by omega) hI_1392 hf_1392 (by rw [es1365_1392]; rfl) (⟨hnv_1392, by omega, by omega⟩) (fun i hi => (hno_1392 i (by omega)).trans (i2_1364 i hi)) (by omega) (hkp_1392) (lv_sub hl [0, 1] rfl) hh
            exact loop_1364 (7 + 1) 7 u1357 en_1363 ls _ _ (by omega) hI_1363 hf_1363 (by rw [es1358_1363]; rfl) (⟨hnv_1363, by omega, i1_1357.2.2⟩) (fun i hi => hno_1363 i (by omega)) (by omega) (hkp_1363) (lv_sub hl [0, 1] rfl) hh
      exact loop_1357 (134217728 + 1) 134217728 d u en_1355 ls _ _ (by omega) hI_1355 hf_1355 (⟨by rw [es1316_1355]; exact congrArg nI (by omega), by omega⟩) ((by rw [show en_1355 7 = en 7 from by rw [hen_1355, va_up_ne _ _ (by decide)]]; exact hd3)) (⟨by omega, Nat.le_of_eq (by rw [show en_1355 7 = en 7 from by rw [hen_1355, va_up_ne _ _ (by decide)]])⟩) (hkp_1355) (lv_sub hl [0, 1] rfl) hh
theorem kw_X12_next {R : Room} {s : State} {args : Array Value} {own : String} {idx : Nat} (hts : ∀ w ∈ TB, w.before args s = true) (hl : Cond.methodLink own idx yX12_next ∈ TB) (hR : 2 + 1 ≤ R.frames ∧ 8 + (2 + 11) + 40 * 2 ≤ R.locals) : CallW R s args own RX12 idx yX12_next cX12_next 2 (some .boolean) (Cond.code yX12_next cX12_next 2 (some .boolean) :: TB) (rmN 2) 0 0 1 := cwV 1 hts (TB_V hl tw_1048 ts_40 tw_9 tw_1049) rfl rfl rfl (by decide +kernel) hR
