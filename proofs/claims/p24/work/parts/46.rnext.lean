set_option maxHeartbeats 4000000 in
set_option maxRecDepth 100000 in
/-- beginWords -/
theorem c_X12_beginWords (l : Launch) (D : va_G) (cy : Nat → ClassId) (sz : Nat) (cs : List Nat) (ad : Nat → Nat) (en : Nat → va_E) (hI : RX cy cs ad en)    : Met l yX12_beginWords (Cond.code yX12_beginWords cX12_beginWords 1 none :: TB) (rmN 1) (va_Pc [.ref (ad 0)] (Pre D cy cs ad en sz)) (va_Qv (S := Nat → va_E) (fun en1 => RX cy cs ad en1 ∧ (∀ c, (c ≠ 0 ∧ c ≠ 6 ∧ c ≠ 7) → en1 c = en c) ∧ rdI (en1 0) 14 = nI 0 ∧ rdF (en1 7) 0 = -1 ∧ KP en en1) (PostM D cs ad) (Af cs ad sz)) 0 0 (Af cs ad sz) := by
  refine Met.ofW (cc := cX12_beginWords) (maxL := 1) (ret := none) (by decide) rfl ?_
  intro p e s m args below meth c s₁ B hml hv
  obtain ⟨rfl, hsz, hP, hK, hD0⟩ := hv
  have hx := B.exec
  have hb := B.bytes
  have hr := B.returns
  have hts : ∀ w ∈ TB, w.before _ s = true := fun w h => atoms_spec (ws := _ :: TB) B.pre w (List.mem_cons_of_mem _ h)
  have hown : s.vm.findClass RX12 = some m.cls := findClass_of_methodNamed B.named
  have hlocks := B.notSynchronized
  have hh : Hp D (Af cs ad sz) (Af cs ad sz) s.heap s.heap [] cs ad en := ⟨hP, Af_self hD0, va_S.rf⟩
  have hA : ∀ q : Nat, s.heap.size ≤ q → Af cs ad sz q := fun q h => Or.inr (by rw [hsz] at h; exact h)
  have hl := lv_entry ([.ref (ad 0)]) (n := 1) (Nat.le_of_ble_eq_true rfl)
  rw [lg_entry_eq]
  generalize (lg_sl ([.ref (ad 0)]) ++ List.replicate (1 - (lg_sl ([.ref (ad 0)])).length) Slot.unset).toArray = ls at hl ⊢
  have hl : lv_has ls 1 [(0, .ref (ad 0))] := hl
  have hf0 : ∀ c, (c ≠ 0 ∧ c ≠ 6 ∧ c ≠ 7) → en c = en c := fun _ _ => rfl
  obtain ⟨fa, hi, wd, mo, tb, dp, many, grt, lst, nou, rm, rb, pr, wo, es1313, hwd2, hwd3, hmo, htb, hwo⟩ := getr_M hI
  refine lv_aload_n hx hb dX12_beginWords_0 rfl (lv_at hl 0 rfl) ?_
  refine hp_callMv (va_runV (As := []) (rest := []) ⟨hx, hb, hml, hown, hts⟩ (c_X12_beginLevels l D cy _ cs ad en hI  ) (kw_X12_beginLevels hts tw_1042 ⟨by decide, by decide⟩) (preV_of hh hK (hI.1 _ (by decide)) es1313 rfl) rfl rfl hl.1 rfl (lv_room (Nat.le_of_ble_eq_true rfl)) dX12_beginWords_1 ⟨Nat.le_of_ble_eq_true rfl, Nat.le_of_ble_eq_true rfl⟩) hh hA (fun H locs en_1314 hw_1314 hh => ?_)
  obtain ⟨hI_1314, hu_1314⟩ := hw_1314
  have es1313_1314 : en_1314 0 = .inr (11, [.int fa, .int hi, .int (nI wd), .int (nI mo), .int (nI tb), .ref (ad 1), .ref (ad 2), .ref (ad 3), .ref (ad 4), .ref (ad 5), .ref (ad 6), .ref (ad 7), .ref (ad 8), .ref (ad 9), .int dp, .long many, .long grt, .long lst, .long nou, .ref (ad 10), .ref (ad 11), .ref (ad 12), .int rm, .long rb, .ref (ad 13), .int pr, .ref (ad 14), .ref (ad 15), .ref (ad 16), .ref (ad 17), .int (nI wo), .ref (ad 18), .ref (ad 19)]) := (hu_1314 0 (by omega)).trans es1313
  have hf_1314 : ∀ c, (c ≠ 0 ∧ c ≠ 6 ∧ c ≠ 7) → en_1314 c = en c := fun c hc => (hu_1314 c (by omega)).trans (hf0 c hc)
  have hkp_1314 : KP en en_1314 := KP_same (KP_rf en) (hu_1314 0 (by omega))
  refine lv_aload_n hx hb dX12_beginWords_4 rfl (lv_at hl 0 rfl) ?_
  refine lv_iconst (v := 0) hx hb dX12_beginWords_5 (by decide) ?_
  refine hp_put hx hb hts ix12 tyX12 tyX12_ok nmX12 hown hK hh (q := 0) rfl (hI.1 _ (by decide)) es1313_1314 rfl 14 (by decide) (hts _ tw_893) (fun _ h9 => h9) rfl (ty := .int) (by decide +kernel) rfl rfl (Nat.le_of_ble_eq_true rfl) dX12_beginWords_6 (fun H locs en_1315 hen_1315 hh => ?_)
  have es1313_1315 : en_1315 0 = .inr (11, [.int fa, .int hi, .int (nI wd), .int (nI mo), .int (nI tb), .ref (ad 1), .ref (ad 2), .ref (ad 3), .ref (ad 4), .ref (ad 5), .ref (ad 6), .ref (ad 7), .ref (ad 8), .ref (ad 9), .int 0, .long many, .long grt, .long lst, .long nou, .ref (ad 10), .ref (ad 11), .ref (ad 12), .int rm, .long rb, .ref (ad 13), .int pr, .ref (ad 14), .ref (ad 15), .ref (ad 16), .ref (ad 17), .int (nI wo), .ref (ad 18), .ref (ad 19)]) := by rw [hen_1315]; exact va_up_self _ _ _
  have hI_1315 : RX cy cs ad en_1315 := by rw [hen_1315]; exact upr_M hI_1314 ⟨fa, hi, wd, mo, tb, 0, many, grt, lst, nou, rm, rb, pr, wo, rfl, hwd2, hwd3, hmo, htb, hwo⟩
  have hf_1315 : ∀ c, (c ≠ 0 ∧ c ≠ 6 ∧ c ≠ 7) → en_1315 c = en c := fun c hc => Eq.trans (show en_1315 c = en_1314 c from by rw [hen_1315, va_up_ne _ _ (by omega)]) (hf_1314 c hc)
  have hkp_1315 : KP en en_1315 := KP_fv hkp_1314 es1313_1314 es1313_1315 hi (nI wd) (nI mo) (nI tb) pr (nI wo) rfl rfl rfl rfl rfl rfl rfl rfl rfl rfl rfl rfl
  refine lv_aload_n hx hb dX12_beginWords_9 rfl (lv_at hl 0 rfl) ?_
  refine hp_get hx hb hts ix12 hown hK hh (q := 0) rfl (hI.1 _ (by decide)) es1313_1315 rfl 11 (by decide) (hts _ tw_890) (fun _ h9 => h9) rfl dX12_beginWords_10 ?_
  refine lv_iconst (v := 0) hx hb dX12_beginWords_13 (by decide) ?_
  refine lv_iconst (v := (-1)) hx hb dX12_beginWords_14 (by decide) ?_
  obtain ⟨f_1316, es1316⟩ := getr_nw hI_1315
  rw [show (0 : Int32) = nI 0 from rfl]
  refine hp_iast hx hb hK hh (q := 7) rfl (hI.1 _ (by decide)) es1316 (vp_in_nI (n := 0) (by decide) (by decide)) dX12_beginWords_15 (fun H locs en_1317 hen_1317 hh => ?_)
  rw [nI_clamp (n := 0) (by decide)] at hen_1317
  have es1313_1317 : en_1317 0 = .inr (11, [.int fa, .int hi, .int (nI wd), .int (nI mo), .int (nI tb), .ref (ad 1), .ref (ad 2), .ref (ad 3), .ref (ad 4), .ref (ad 5), .ref (ad 6), .ref (ad 7), .ref (ad 8), .ref (ad 9), .int 0, .long many, .long grt, .long lst, .long nou, .ref (ad 10), .ref (ad 11), .ref (ad 12), .int rm, .long rb, .ref (ad 13), .int pr, .ref (ad 14), .ref (ad 15), .ref (ad 16), .ref (ad 17), .int (nI wo), .ref (ad 18), .ref (ad 19)]) := by rw [hen_1317, va_up_ne _ _ (by decide)]; exact es1313_1315
  have es1316_1317 : en_1317 7 = .inl (cy 0, 13, .inl (upd f_1316 0 (-1))) := by rw [hen_1317]; exact va_up_self _ _ _
  have hI_1317 : RX cy cs ad en_1317 := by rw [hen_1317]; exact upr_nw hI_1315 ⟨(upd f_1316 0 (-1)), rfl⟩
  have hf_1317 : ∀ c, (c ≠ 0 ∧ c ≠ 6 ∧ c ≠ 7) → en_1317 c = en c := fun c hc => Eq.trans (show en_1317 c = en_1315 c from by rw [hen_1317, va_up_ne _ _ (by omega)]) (hf_1315 c hc)
  have hkp_1317 : KP en en_1317 := KP_same hkp_1315 (show en_1317 0 = en_1315 0 from by rw [hen_1317, va_up_ne _ _ (by decide)])
  exact hp_vretM hx hb hr hlocks hh (⟨hI_1317, hf_1317, (by rw [es1313_1317]; rfl), (by rw [es1316_1317]; exact pk_us), hkp_1317⟩) dX12_beginWords_16
theorem kw_X12_beginWords {R : Room} {s : State} {args : Array Value} {own : String} {idx : Nat} (hts : ∀ w ∈ TB, w.before args s = true) (hl : Cond.methodLink own idx yX12_beginWords ∈ TB) (hR : 1 + 1 ≤ R.frames ∧ 8 + (1 + 11) + 40 * 1 ≤ R.locals) : CallW R s args own RX12 idx yX12_beginWords cX12_beginWords 1 none (Cond.code yX12_beginWords cX12_beginWords 1 none :: TB) (rmN 1) 0 0 0 := cwV 0 hts (TB_V hl tw_1040 ts_38 tw_9 tw_1041) rfl rfl rfl (by decide +kernel) hR
set_option maxHeartbeats 4000000 in
set_option maxRecDepth 100000 in
/-- next -/
theorem c_X12_next (l : Launch) (D : va_G) (cy : Nat → ClassId) (sz : Nat) (cs : List Nat) (ad : Nat → Nat) (en : Nat → va_E) (hI : RX cy cs ad en) (n : Nat) (hn1 : 1 ≤ n) (hn8 : n ≤ 8) (d u : Nat) (hND : ND en n d u)   : Met l yX12_next (Cond.code yX12_next cX12_next 2 (some .boolean) :: TB) (rmN 2) (va_Pc [.ref (ad 0), .int (nI n)] (Pre D cy cs ad en sz)) (va_Qi (S := Nat → va_E) (fun r en1 => RX cy cs ad en1 ∧ (∀ c, (c ≠ 0 ∧ c ≠ 6 ∧ c ≠ 7) → en1 c = en c) ∧ (r = 0 ∨ (r = 1 ∧ ∃ u1, ND en1 n (n - 1) u1 ∧ 1 ≤ u1 ∧ nmv (rdF (en 7)) d u < nmv (rdF (en1 7)) (n - 1) u1)) ∧ KP en en1) (PostM D cs ad) (Af cs ad sz)) 0 0 (Af cs ad sz) := by
  refine Met.ofW (cc := cX12_next) (maxL := 2) (ret := (some .boolean)) (by decide) rfl ?_
  intro p e s m args below meth c s₁ B hml hv
  obtain ⟨rfl, hsz, hP, hK, hD0⟩ := hv
  have hx := B.exec
  have hb := B.bytes
  have hr := B.returns
  have hts : ∀ w ∈ TB, w.before _ s = true := fun w h => atoms_spec (ws := _ :: TB) B.pre w (List.mem_cons_of_mem _ h)
  have hown : s.vm.findClass RX12 = some m.cls := findClass_of_methodNamed B.named
  have hlocks := B.notSynchronized
  have hh : Hp D (Af cs ad sz) (Af cs ad sz) s.heap s.heap [] cs ad en := ⟨hP, Af_self hD0, va_S.rf⟩
  have hA : ∀ q : Nat, s.heap.size ≤ q → Af cs ad sz q := fun q h => Or.inr (by rw [hsz] at h; exact h)
  have hl := lv_entry ([.ref (ad 0), .int (nI n)]) (n := 2) (Nat.le_of_ble_eq_true rfl)
  rw [lg_entry_eq]
  generalize (lg_sl ([.ref (ad 0), .int (nI n)]) ++ List.replicate (2 - (lg_sl ([.ref (ad 0), .int (nI n)])).length) Slot.unset).toArray = ls at hl ⊢
  have hl : lv_has ls 2 [(0, .ref (ad 0)), (1, .int (nI n))] := hl
  have hf0 : ∀ c, (c ≠ 0 ∧ c ≠ 6 ∧ c ≠ 7) → en c = en c := fun _ _ => rfl
  obtain ⟨fa, hi, wd, mo, tb, dp, many, grt, lst, nou, rm, rb, pr, wo, es1318, hwd2, hwd3, hmo, htb, hwo⟩ := getr_M hI
  obtain ⟨hd1, hd2, hd3⟩ := hND
  rcases hd2 with hd2 | ⟨hd2, hd4⟩
  · have hdp : dp = nI d := (show dp = rdI (en 0) 14 from by rw [es1318]; rfl).trans hd2
    rw [hdp] at es1318
    refine lv_aload_n hx hb dX12_next_0 rfl (lv_at hl 0 rfl) ?_
    refine hp_get hx hb hts ix12 hown hK hh (q := 0) rfl (hI.1 _ (by decide)) es1318 rfl 14 (by decide) (hts _ tw_893) (fun _ h9 => h9) rfl dX12_next_1 ?_
    refine lv_iload_n hx hb dX12_next_4 rfl (lv_at hl 1 rfl) ?_
    refine lv_icmp_ne (tgt := 18) hx hb dX12_next_5 (by decide) (fun c_1319 => ?_) (fun c_1319 => ?_)
    · have n_1319 : d ≠ n := n_neq (a := d) (b := n) c_1319 (by omega) (by omega)
      have loop_1320 : ∀ (fu mm1320 : Nat)  (d1320 : Nat) (u1320 : Nat) (en_1320 : Nat → va_E) (ls : Array Slot) (H : Heap) (locs : List Loc), mm1320 < fu → RX cy cs ad en_1320 → (∀ c, (c ≠ 0 ∧ c ≠ 6 ∧ c ≠ 7) → en_1320 c = en c) → (rdI (en_1320 0) 14 = nI d1320 ∧ d1320 < n) → (NWp (rdF (en_1320 7)) d1320 u1320) → (134217728 ≤ nmv (rdF (en_1320 7)) d1320 u1320 + mm1320 ∧ nmv (rdF (en 7)) d u ≤ nmv (rdF (en_1320 7)) d1320 u1320) → (KP en en_1320) → lv_has ls 2 [(0, .ref (ad 0)), (1, .int (nI n))] → Hp D (Af cs ad sz) (Af cs ad sz) s.heap H locs cs ad en_1320 → W p l e (headSpec (Cond.code yX12_next cX12_next 2 (some .boolean) :: TB) (rmN 2)).room s m ([.ref (ad 0), .int (nI n)] : List Value).toArray below meth c H locs 0 0 (MQ below (va_Qi (S := Nat → va_E) (fun r en1 => RX cy cs ad en1 ∧ (∀ c, (c ≠ 0 ∧ c ≠ 6 ∧ c ≠ 7) → en1 c = en c) ∧ (r = 0 ∨ (r = 1 ∧ ∃ u1, ND en1 n (n - 1) u1 ∧ 1 ≤ u1 ∧ nmv (rdF (en 7)) d u < nmv (rdF (en1 7)) (n - 1) u1)) ∧ KP en en1) (PostM D cs ad) (Af cs ad sz)) ([.ref (ad 0), .int (nI n)] : List Value).toArray s 0 0 (Af cs ad sz)) (F0 m 18 ls []) := by
        intro fu
        induction fu with
        | zero => intro mm1320 d1320 u1320 en_1320 ls H locs h2; exact absurd h2 (by omega)
        | succ fu ih_1320 =>
          intro mm1320 d1320 u1320 en_1320 ls H locs hmm_1320 hI_1320 hf_1320 i0_1320 i1_1320 i2_1320 i3_1320 hl hh
          have hlt_1320 := nmv_lt i1_1320 (by omega)
          refine lv_aload_n hx hb dX12_next_18 rfl (lv_at hl 0 rfl) ?_
          obtain ⟨fa_1321, hi_1321, wd_1321, mo_1321, tb_1321, dp_1321, many_1321, grt_1321, lst_1321, nou_1321, rm_1321, rb_1321, pr_1321, wo_1321, es1321, p0_1321, p1_1321, p2_1321, p3_1321, p4_1321⟩ := getr_M hI_1320
          have hq2_1322 : wd_1321 = wd := n_eq ((show nI wd_1321 = rdI (en_1320 0) 2 from by rw [es1321]; rfl).trans (i3_1320.2.1.trans (show rdI (en 0) 2 = nI wd from by rw [es1318]; rfl))) (by omega) (by omega)
          have hq3_1322 : mo_1321 = mo := n_eq ((show nI mo_1321 = rdI (en_1320 0) 3 from by rw [es1321]; rfl).trans (i3_1320.2.2.1.trans (show rdI (en 0) 3 = nI mo from by rw [es1318]; rfl))) (by omega) (by omega)
          have hq4_1322 : tb_1321 = tb := n_eq ((show nI tb_1321 = rdI (en_1320 0) 4 from by rw [es1321]; rfl).trans (i3_1320.2.2.2.1.trans (show rdI (en 0) 4 = nI tb from by rw [es1318]; rfl))) (by omega) (by omega)
          have hq30_1322 : wo_1321 = wo := n_eq ((show nI wo_1321 = rdI (en_1320 0) 30 from by rw [es1321]; rfl).trans (i3_1320.2.2.2.2.2.trans (show rdI (en 0) 30 = nI wo from by rw [es1318]; rfl))) (by omega) (by omega)
          rw [hq2_1322, hq3_1322, hq4_1322, hq30_1322] at es1321
          have hdp_1323 : dp_1321 = nI d1320 := (show dp_1321 = rdI (en_1320 0) 14 from by rw [es1321]; rfl).trans (i0_1320.1)
          rw [hdp_1323] at es1321
          refine hp_get hx hb hts ix12 hown hK hh (q := 0) rfl (hI.1 _ (by decide)) es1321 rfl 14 (by decide) (hts _ tw_893) (fun _ h9 => h9) rfl dX12_next_19 ?_
          refine lv_if_lt (tgt := 183) hx hb dX12_next_22 (by decide) (fun c_1324 => ?_) (fun c_1324 => ?_)
          · have n_1324 : d1320 < 0 := n_lt (a := d1320) (b := 0) c_1324 (by omega) (by decide)
            exact absurd n_1324 (by omega)
          · have n_1324 : 0 ≤ d1320 := n_nlt (a := d1320) (b := 0) c_1324 (by omega) (by decide)
            refine lv_aload_n hx hb dX12_next_25 rfl (lv_at hl 0 rfl) ?_
            refine hp_get hx hb hts ix12 hown hK hh (q := 0) rfl (hI.1 _ (by decide)) es1321 rfl 11 (by decide) (hts _ tw_890) (fun _ h9 => h9) rfl dX12_next_26 ?_
            refine lv_aload_n hx hb dX12_next_29 rfl (lv_at hl 0 rfl) ?_
            refine hp_get hx hb hts ix12 hown hK hh (q := 0) rfl (hI.1 _ (by decide)) es1321 rfl 14 (by decide) (hts _ tw_893) (fun _ h9 => h9) rfl dX12_next_30 ?_
            refine lv_dup2_11 hx hb dX12_next_33 rfl rfl ?_
            obtain ⟨f_1325, es1325⟩ := getr_nw hI_1320
            refine hp_iald hx hb hK hh (q := 7) rfl (hI.1 _ (by decide)) es1325 (vp_in_nI (n := d1320) (by omega) (by decide)) dX12_next_34 ?_
            rw [nI_clamp (n := d1320) (by omega)]
            refine lv_iconst (v := 1) hx hb dX12_next_35 (by decide) ?_
            refine lv_iadd hx hb dX12_next_36 ?_
            rw [show f_1325 d1320 + 1 = nI u1320 from (show f_1325 d1320 + 1 = rdF (en_1320 7) d1320 + 1 from by rw [es1325]; rfl).trans i1_1320.2.1]
            refine hp_iast hx hb hK hh (q := 7) rfl (hI.1 _ (by decide)) es1325 (vp_in_nI (n := d1320) (by omega) (by decide)) dX12_next_37 (fun H locs en_1326 hen_1326 hh => ?_)
            rw [nI_clamp (n := d1320) (by omega)] at hen_1326
            have es1321_1326 : en_1326 0 = .inr (11, [.int fa_1321, .int hi_1321, .int (nI wd), .int (nI mo), .int (nI tb), .ref (ad 1), .ref (ad 2), .ref (ad 3), .ref (ad 4), .ref (ad 5), .ref (ad 6), .ref (ad 7), .ref (ad 8), .ref (ad 9), .int (nI d1320), .long many_1321, .long grt_1321, .long lst_1321, .long nou_1321, .ref (ad 10), .ref (ad 11), .ref (ad 12), .int rm_1321, .long rb_1321, .ref (ad 13), .int pr_1321, .ref (ad 14), .ref (ad 15), .ref (ad 16), .ref (ad 17), .int (nI wo), .ref (ad 18), .ref (ad 19)]) := by rw [hen_1326, va_up_ne _ _ (by decide)]; exact es1321
            have es1325_1326 : en_1326 7 = .inl (cy 0, 13, .inl (upd f_1325 d1320 (nI u1320))) := by rw [hen_1326]; exact va_up_self _ _ _
            have hI_1326 : RX cy cs ad en_1326 := by rw [hen_1326]; exact upr_nw hI_1320 ⟨(upd f_1325 d1320 (nI u1320)), rfl⟩
            have hf_1326 : ∀ c, (c ≠ 0 ∧ c ≠ 6 ∧ c ≠ 7) → en_1326 c = en c := fun c hc => Eq.trans (show en_1326 c = en_1320 c from by rw [hen_1326, va_up_ne _ _ (by omega)]) (hf_1320 c hc)
            have hkp_1326 : KP en en_1326 := KP_same i3_1320 (show en_1326 0 = en_1320 0 from by rw [hen_1326, va_up_ne _ _ (by decide)])
            have hno_1326 : ∀ i, i ≠ d1320 → rdF (en_1326 7) i = rdF (en_1320 7) i := fun i hi => by rw [es1325_1326, es1325]; exact pk_un hi
            have hnv_1326 : rdF (en_1326 7) d1320 = (nI u1320) := by rw [es1325_1326]; exact pk_us
            have loop_1327 : ∀ (fu mm1327 : Nat)  (w1327 : Nat) (en_1327 : Nat → va_E) (ls : Array Slot) (H : Heap) (locs : List Loc), mm1327 < fu → RX cy cs ad en_1327 → (∀ c, (c ≠ 0 ∧ c ≠ 6 ∧ c ≠ 7) → en_1327 c = en c) → (rdI (en_1327 0) 14 = nI d1320) → (rdF (en_1327 7) d1320 = nI w1327 ∧ u1320 ≤ w1327 ∧ w1327 ≤ 6) → (∀ i, i < d1320 → rdF (en_1327 7) i = rdF (en_1320 7) i) → (7 ≤ w1327 + mm1327) → (KP en en_1327) → lv_has ls 2 [(0, .ref (ad 0)), (1, .int (nI n))] → Hp D (Af cs ad sz) (Af cs ad sz) s.heap H locs cs ad en_1327 → W p l e (headSpec (Cond.code yX12_next cX12_next 2 (some .boolean) :: TB) (rmN 2)).room s m ([.ref (ad 0), .int (nI n)] : List Value).toArray below meth c H locs 0 0 (MQ below (va_Qi (S := Nat → va_E) (fun r en1 => RX cy cs ad en1 ∧ (∀ c, (c ≠ 0 ∧ c ≠ 6 ∧ c ≠ 7) → en1 c = en c) ∧ (r = 0 ∨ (r = 1 ∧ ∃ u1, ND en1 n (n - 1) u1 ∧ 1 ≤ u1 ∧ nmv (rdF (en 7)) d u < nmv (rdF (en1 7)) (n - 1) u1)) ∧ KP en en1) (PostM D cs ad) (Af cs ad sz)) ([.ref (ad 0), .int (nI n)] : List Value).toArray s 0 0 (Af cs ad sz)) (F0 m 38 ls []) := by
              intro fu
              induction fu with
              | zero => intro mm1327 w1327 en_1327 ls H locs h2; exact absurd h2 (by omega)
              | succ fu ih_1327 =>
                intro mm1327 w1327 en_1327 ls H locs hmm_1327 hI_1327 hf_1327 i0_1327 i1_1327 i2_1327 i3_1327 i4_1327 hl hh
                refine lv_aload_n hx hb dX12_next_38 rfl (lv_at hl 0 rfl) ?_
                obtain ⟨fa_1328, hi_1328, wd_1328, mo_1328, tb_1328, dp_1328, many_1328, grt_1328, lst_1328, nou_1328, rm_1328, rb_1328, pr_1328, wo_1328, es1328, p0_1328, p1_1328, p2_1328, p3_1328, p4_1328⟩ := getr_M hI_1327
                have hq2_1329 : wd_1328 = wd := n_eq ((show nI wd_1328 = rdI (en_1327 0) 2 from by rw [es1328]; rfl).trans (i4_1327.2.1.trans (show rdI (en 0) 2 = nI wd from by rw [es1318]; rfl))) (by omega) (by omega)
                have hq3_1329 : mo_1328 = mo := n_eq ((show nI mo_1328 = rdI (en_1327 0) 3 from by rw [es1328]; rfl).trans (i4_1327.2.2.1.trans (show rdI (en 0) 3 = nI mo from by rw [es1318]; rfl))) (by omega) (by omega)
                have hq4_1329 : tb_1328 = tb := n_eq ((show nI tb_1328 = rdI (en_1327 0) 4 from by rw [es1328]; rfl).trans (i4_1327.2.2.2.1.trans (show rdI (en 0) 4 = nI tb from by rw [es1318]; rfl))) (by omega) (by omega)
                have hq30_1329 : wo_1328 = wo := n_eq ((show nI wo_1328 = rdI (en_1327 0) 30 from by rw [es1328]; rfl).trans (i4_1327.2.2.2.2.2.trans (show rdI (en 0) 30 = nI wo from by rw [es1318]; rfl))) (by omega) (by omega)
                rw [hq2_1329, hq3_1329, hq4_1329, hq30_1329] at es1328
                have hdp_1330 : dp_1328 = nI d1320 := (show dp_1328 = rdI (en_1327 0) 14 from by rw [es1328]; rfl).trans (i0_1327)
                rw [hdp_1330] at es1328
                refine hp_get hx hb hts ix12 hown hK hh (q := 0) rfl (hI.1 _ (by decide)) es1328 rfl 11 (by decide) (hts _ tw_890) (fun _ h9 => h9) rfl dX12_next_39 ?_
                refine lv_aload_n hx hb dX12_next_42 rfl (lv_at hl 0 rfl) ?_
                refine hp_get hx hb hts ix12 hown hK hh (q := 0) rfl (hI.1 _ (by decide)) es1328 rfl 14 (by decide) (hts _ tw_893) (fun _ h9 => h9) rfl dX12_next_43 ?_
                obtain ⟨f_1331, es1331⟩ := getr_nw hI_1327
                refine hp_iald hx hb hK hh (q := 7) rfl (hI.1 _ (by decide)) es1331 (vp_in_nI (n := d1320) (by omega) (by decide)) dX12_next_46 ?_
                rw [nI_clamp (n := d1320) (by omega)]
                rw [show f_1331 d1320 = nI w1327 from (show f_1331 d1320 = rdF (en_1327 7) d1320 from by rw [es1331]; rfl).trans i1_1327.1]
                refine lv_aload_n hx hb dX12_next_47 rfl (lv_at hl 0 rfl) ?_
                refine hp_get hx hb hts ix12 hown hK hh (q := 0) rfl (hI.1 _ (by decide)) es1328 rfl 4 (by decide) (hts _ tw_883) (fun _ h9 => h9) rfl dX12_next_48 ?_
                refine lv_icmp_ge (tgt := 104) hx hb dX12_next_51 (by decide) (fun c_1332 => ?_) (fun c_1332 => ?_)
                · have n_1332 : tb ≤ w1327 := n_le (a := tb) (b := w1327) c_1332 (by omega) (by omega)
                  refine lv_aload_n hx hb dX12_next_104 rfl (lv_at hl 0 rfl) ?_
                  refine hp_get hx hb hts ix12 hown hK hh (q := 0) rfl (hI.1 _ (by decide)) es1328 rfl 11 (by decide) (hts _ tw_890) (fun _ h9 => h9) rfl dX12_next_105 ?_
                  refine lv_aload_n hx hb dX12_next_108 rfl (lv_at hl 0 rfl) ?_
                  refine hp_get hx hb hts ix12 hown hK hh (q := 0) rfl (hI.1 _ (by decide)) es1328 rfl 14 (by decide) (hts _ tw_893) (fun _ h9 => h9) rfl dX12_next_109 ?_
                  refine hp_iald hx hb hK hh (q := 7) rfl (hI.1 _ (by decide)) es1331 (vp_in_nI (n := d1320) (by omega) (by decide)) dX12_next_112 ?_
                  rw [nI_clamp (n := d1320) (by omega)]
                  rw [show f_1331 d1320 = nI w1327 from (show f_1331 d1320 = rdF (en_1327 7) d1320 from by rw [es1331]; rfl).trans i1_1327.1]
                  refine lv_aload_n hx hb dX12_next_113 rfl (lv_at hl 0 rfl) ?_
                  refine hp_get hx hb hts ix12 hown hK hh (q := 0) rfl (hI.1 _ (by decide)) es1328 rfl 4 (by decide) (hts _ tw_883) (fun _ h9 => h9) rfl dX12_next_114 ?_
                  refine lv_icmp_lt (tgt := 133) hx hb dX12_next_117 (by decide) (fun c_1333 => ?_) (fun c_1333 => ?_)
                  · have n_1333 : w1327 < tb := n_lt (a := w1327) (b := tb) c_1333 (by omega) (by omega)
                    exact absurd n_1333 (by omega)
                  · have n_1333 : tb ≤ w1327 := n_nlt (a := w1327) (b := tb) c_1333 (by omega) (by omega)
                    rcases Nat.eq_zero_or_pos d1320 with hz9 | hz9
                    · have hz8 := hz9
                      refine lv_aload_n hx hb dX12_next_120 rfl (lv_at hl 0 rfl) ?_
                      refine lv_dup hx hb dX12_next_121 rfl ?_
                      refine hp_get hx hb hts ix12 hown hK hh (q := 0) rfl (hI.1 _ (by decide)) es1328 rfl 14 (by decide) (hts _ tw_893) (fun _ h9 => h9) rfl dX12_next_122 ?_
                      refine lv_iconst (v := 1) hx hb dX12_next_125 (by decide) ?_
                      refine lv_isub hx hb dX12_next_126 ?_
                      rw [show nI d1320 - (1 : Int32) = -1 from by rw [hz9]; decide]
                      refine hp_put hx hb hts ix12 tyX12 tyX12_ok nmX12 hown hK hh (q := 0) rfl (hI.1 _ (by decide)) es1328 rfl 14 (by decide) (hts _ tw_893) (fun _ h9 => h9) rfl (ty := .int) (by decide +kernel) rfl rfl (Nat.le_of_ble_eq_true rfl) dX12_next_127 (fun H locs en_1334 hen_1334 hh => ?_)
                      have es1331_1334 : en_1334 7 = .inl (cy 0, 13, .inl f_1331) := by rw [hen_1334, va_up_ne _ _ (by decide)]; exact es1331
                      have es1328_1334 : en_1334 0 = .inr (11, [.int fa_1328, .int hi_1328, .int (nI wd), .int (nI mo), .int (nI tb), .ref (ad 1), .ref (ad 2), .ref (ad 3), .ref (ad 4), .ref (ad 5), .ref (ad 6), .ref (ad 7), .ref (ad 8), .ref (ad 9), .int (-1), .long many_1328, .long grt_1328, .long lst_1328, .long nou_1328, .ref (ad 10), .ref (ad 11), .ref (ad 12), .int rm_1328, .long rb_1328, .ref (ad 13), .int pr_1328, .ref (ad 14), .ref (ad 15), .ref (ad 16), .ref (ad 17), .int (nI wo), .ref (ad 18), .ref (ad 19)]) := by rw [hen_1334]; exact va_up_self _ _ _
                      have hI_1334 : RX cy cs ad en_1334 := by rw [hen_1334]; exact upr_M hI_1327 ⟨fa_1328, hi_1328, wd, mo, tb, (-1), many_1328, grt_1328, lst_1328, nou_1328, rm_1328, rb_1328, pr_1328, wo, rfl, hwd2, hwd3, hmo, htb, hwo⟩
                      have hf_1334 : ∀ c, (c ≠ 0 ∧ c ≠ 6 ∧ c ≠ 7) → en_1334 c = en c := fun c hc => Eq.trans (show en_1334 c = en_1327 c from by rw [hen_1334, va_up_ne _ _ (by omega)]) (hf_1327 c hc)
                      have hkp_1334 : KP en en_1334 := KP_fv i4_1327 es1328 es1328_1334 hi_1328 (nI wd) (nI mo) (nI tb) pr_1328 (nI wo) rfl rfl rfl rfl rfl rfl rfl rfl rfl rfl rfl rfl
                      have hg7_1334 : ∀ i, rdF (en_1334 7) i = rdF (en_1327 7) i := fun i => by rw [hen_1334, va_up_ne _ _ (by decide)]
                      have ha_1334 : ∀ i, i < d1320 → rdF (en_1334 7) i = rdF (en_1320 7) i := fun i hi => (hg7_1334 i).trans (i2_1327 i hi)
                      have hwv_1334 : rdF (en_1334 7) d1320 = nI w1327 := (hg7_1334 d1320).trans i1_1327.1
                      refine lv_goto (tgt := 18) hx hb dX12_next_130 (by decide) ?_
                      refine lv_aload_n hx hb dX12_next_18 rfl (lv_at hl 0 rfl) ?_
                      refine hp_get hx hb hts ix12 hown hK hh (q := 0) rfl (hI.1 _ (by decide)) es1328_1334 rfl 14 (by decide) (hts _ tw_893) (fun _ h9 => h9) rfl dX12_next_19 ?_
                      refine lv_if_lt (tgt := 183) hx hb dX12_next_22 (by decide) (fun _ => ?_) (fun c_0 => absurd c_0 (by decide))
                      refine lv_iconst (v := 0) hx hb dX12_next_183 (by decide) ?_
                      exact hp_iretM hx hb hr rfl hlocks hh (⟨hI_1334, hf_1334, Or.inl rfl, hkp_1334⟩) dX12_next_184
                    · obtain ⟨v_1335, hv_1335, hve_1335⟩ := i1_1320.1 (d1320 - 1) (by omega)
                      refine lv_aload_n hx hb dX12_next_120 rfl (lv_at hl 0 rfl) ?_
                      refine lv_dup hx hb dX12_next_121 rfl ?_
                      refine hp_get hx hb hts ix12 hown hK hh (q := 0) rfl (hI.1 _ (by decide)) es1328 rfl 14 (by decide) (hts _ tw_893) (fun _ h9 => h9) rfl dX12_next_122 ?_
                      refine lv_iconst (v := 1) hx hb dX12_next_125 (by decide) ?_
                      refine lv_isub hx hb dX12_next_126 ?_
                      rw [show (1 : Int32) = nI 1 from rfl, pk_sub (a := d1320) (b := 1) (by omega)]
                      refine hp_put hx hb hts ix12 tyX12 tyX12_ok nmX12 hown hK hh (q := 0) rfl (hI.1 _ (by decide)) es1328 rfl 14 (by decide) (hts _ tw_893) (fun _ h9 => h9) rfl (ty := .int) (by decide +kernel) rfl rfl (Nat.le_of_ble_eq_true rfl) dX12_next_127 (fun H locs en_1336 hen_1336 hh => ?_)
                      have es1331_1336 : en_1336 7 = .inl (cy 0, 13, .inl f_1331) := by rw [hen_1336, va_up_ne _ _ (by decide)]; exact es1331
                      have es1328_1336 : en_1336 0 = .inr (11, [.int fa_1328, .int hi_1328, .int (nI wd), .int (nI mo), .int (nI tb), .ref (ad 1), .ref (ad 2), .ref (ad 3), .ref (ad 4), .ref (ad 5), .ref (ad 6), .ref (ad 7), .ref (ad 8), .ref (ad 9), .int (nI (d1320 - 1)), .long many_1328, .long grt_1328, .long lst_1328, .long nou_1328, .ref (ad 10), .ref (ad 11), .ref (ad 12), .int rm_1328, .long rb_1328, .ref (ad 13), .int pr_1328, .ref (ad 14), .ref (ad 15), .ref (ad 16), .ref (ad 17), .int (nI wo), .ref (ad 18), .ref (ad 19)]) := by rw [hen_1336]; exact va_up_self _ _ _
                      have hI_1336 : RX cy cs ad en_1336 := by rw [hen_1336]; exact upr_M hI_1327 ⟨fa_1328, hi_1328, wd, mo, tb, (nI (d1320 - 1)), many_1328, grt_1328, lst_1328, nou_1328, rm_1328, rb_1328, pr_1328, wo, rfl, hwd2, hwd3, hmo, htb, hwo⟩
                      have hf_1336 : ∀ c, (c ≠ 0 ∧ c ≠ 6 ∧ c ≠ 7) → en_1336 c = en c := fun c hc => Eq.trans (show en_1336 c = en_1327 c from by rw [hen_1336, va_up_ne _ _ (by omega)]) (hf_1327 c hc)
                      have hkp_1336 : KP en en_1336 := KP_fv i4_1327 es1328 es1328_1336 hi_1328 (nI wd) (nI mo) (nI tb) pr_1328 (nI wo) rfl rfl rfl rfl rfl rfl rfl rfl rfl rfl rfl rfl
                      have hg7_1336 : ∀ i, rdF (en_1336 7) i = rdF (en_1327 7) i := fun i => by rw [hen_1336, va_up_ne _ _ (by decide)]
                      have ha_1336 : ∀ i, i < d1320 → rdF (en_1336 7) i = rdF (en_1320 7) i := fun i hi => (hg7_1336 i).trans (i2_1327 i hi)
                      have hwv_1336 : rdF (en_1336 7) d1320 = nI w1327 := (hg7_1336 d1320).trans i1_1327.1
                      refine lv_goto (tgt := 18) hx hb dX12_next_130 (by decide) ?_
                      have hNB_1337 := NWp_back i1_1320 (by omega) (by omega) ha_1336 hv_1335 hve_1335
                      exact ih_1320 (mm1320 - 1) (d1320 - 1) (v_1335 + 1) en_1336 ls H locs (by omega) hI_1336 hf_1336 (⟨by rw [es1328_1336]; rfl, by omega⟩) (hNB_1337.1) (by have h1 := hNB_1337.2; have h2 := i2_1320; omega) (hkp_1336) (lv_sub hl [0, 1] rfl) hh
                · have n_1332 : w1327 < tb := n_nle (a := tb) (b := w1327) c_1332 (by omega) (by omega)
                  refine lv_aload_n hx hb dX12_next_54 rfl (lv_at hl 0 rfl) ?_
                  refine hp_get hx hb hts ix12 hown hK hh (q := 0) rfl (hI.1 _ (by decide)) es1328 rfl 14 (by decide) (hts _ tw_893) (fun _ h9 => h9) rfl dX12_next_55 ?_
                  refine lv_if_le (tgt := 104) hx hb dX12_next_58 (by decide) (fun c_1338 => ?_) (fun c_1338 => ?_)
                  · have n_1338 : d1320 ≤ 0 := n_le (a := d1320) (b := 0) c_1338 (by omega) (by decide)
                    refine lv_aload_n hx hb dX12_next_104 rfl (lv_at hl 0 rfl) ?_
                    refine hp_get hx hb hts ix12 hown hK hh (q := 0) rfl (hI.1 _ (by decide)) es1328 rfl 11 (by decide) (hts _ tw_890) (fun _ h9 => h9) rfl dX12_next_105 ?_
                    refine lv_aload_n hx hb dX12_next_108 rfl (lv_at hl 0 rfl) ?_
                    refine hp_get hx hb hts ix12 hown hK hh (q := 0) rfl (hI.1 _ (by decide)) es1328 rfl 14 (by decide) (hts _ tw_893) (fun _ h9 => h9) rfl dX12_next_109 ?_
                    refine hp_iald hx hb hK hh (q := 7) rfl (hI.1 _ (by decide)) es1331 (vp_in_nI (n := d1320) (by omega) (by decide)) dX12_next_112 ?_
                    rw [nI_clamp (n := d1320) (by omega)]
                    rw [show f_1331 d1320 = nI w1327 from (show f_1331 d1320 = rdF (en_1327 7) d1320 from by rw [es1331]; rfl).trans i1_1327.1]
                    refine lv_aload_n hx hb dX12_next_113 rfl (lv_at hl 0 rfl) ?_
                    refine hp_get hx hb hts ix12 hown hK hh (q := 0) rfl (hI.1 _ (by decide)) es1328 rfl 4 (by decide) (hts _ tw_883) (fun _ h9 => h9) rfl dX12_next_114 ?_
                    refine lv_icmp_lt (tgt := 133) hx hb dX12_next_117 (by decide) (fun c_1339 => ?_) (fun c_1339 => ?_)
                    · have n_1339 : w1327 < tb := n_lt (a := w1327) (b := tb) c_1339 (by omega) (by omega)
                      refine lv_aload_n hx hb dX12_next_133 rfl (lv_at hl 0 rfl) ?_
                      refine lv_aload_n hx hb dX12_next_134 rfl (lv_at hl 0 rfl) ?_
                      refine hp_get hx hb hts ix12 hown hK hh (q := 0) rfl (hI.1 _ (by decide)) es1328 rfl 14 (by decide) (hts _ tw_893) (fun _ h9 => h9) rfl dX12_next_135 ?_
                      refine lv_aload_n hx hb dX12_next_138 rfl (lv_at hl 0 rfl) ?_
                      refine hp_get hx hb hts ix12 hown hK hh (q := 0) rfl (hI.1 _ (by decide)) es1328 rfl 11 (by decide) (hts _ tw_890) (fun _ h9 => h9) rfl dX12_next_139 ?_
                      refine lv_aload_n hx hb dX12_next_142 rfl (lv_at hl 0 rfl) ?_
                      refine hp_get hx hb hts ix12 hown hK hh (q := 0) rfl (hI.1 _ (by decide)) es1328 rfl 14 (by decide) (hts _ tw_893) (fun _ h9 => h9) rfl dX12_next_143 ?_
                      refine hp_iald hx hb hK hh (q := 7) rfl (hI.1 _ (by decide)) es1331 (vp_in_nI (n := d1320) (by omega) (by decide)) dX12_next_146 ?_
                      rw [nI_clamp (n := d1320) (by omega)]
                      rw [show f_1331 d1320 = nI w1327 from (show f_1331 d1320 = rdF (en_1327 7) d1320 from by rw [es1331]; rfl).trans i1_1327.1]
                      refine hp_callMv (va_runV (As := [.int (nI d1320), .int (nI w1327)]) (rest := []) ⟨hx, hb, hml, hown, hts⟩ (c_X12_goOn l D cy _ cs ad en_1327 hI_1327 d1320 w1327 (by omega) (by omega)) (kw_X12_goOn hts tw_1050 ⟨by decide, by decide⟩) (preV_of hh hK (hI.1 _ (by decide)) es1328 rfl) rfl rfl hl.1 rfl (lv_room (Nat.le_of_ble_eq_true rfl)) dX12_next_147 ⟨Nat.le_of_ble_eq_true rfl, Nat.le_of_ble_eq_true rfl⟩) hh hA (fun H locs en_1340 hw_1340 hh => ?_)
                      obtain ⟨hI_1340, hu_1340⟩ := hw_1340
                      have es1328_1340 : en_1340 0 = .inr (11, [.int fa_1328, .int hi_1328, .int (nI wd), .int (nI mo), .int (nI tb), .ref (ad 1), .ref (ad 2), .ref (ad 3), .ref (ad 4), .ref (ad 5), .ref (ad 6), .ref (ad 7), .ref (ad 8), .ref (ad 9), .int (nI d1320), .long many_1328, .long grt_1328, .long lst_1328, .long nou_1328, .ref (ad 10), .ref (ad 11), .ref (ad 12), .int rm_1328, .long rb_1328, .ref (ad 13), .int pr_1328, .ref (ad 14), .ref (ad 15), .ref (ad 16), .ref (ad 17), .int (nI wo), .ref (ad 18), .ref (ad 19)]) := (hu_1340 0 (by omega)).trans es1328
                      have es1331_1340 : en_1340 7 = .inl (cy 0, 13, .inl f_1331) := (hu_1340 7 (by omega)).trans es1331
                      have hf_1340 : ∀ c, (c ≠ 0 ∧ c ≠ 6 ∧ c ≠ 7) → en_1340 c = en c := fun c hc => (hu_1340 c (by omega)).trans (hf_1327 c hc)
                      have hkp_1340 : KP en en_1340 := KP_same i4_1327 (hu_1340 0 (by omega))
                      have hg7_1340 : ∀ i, rdF (en_1340 7) i = rdF (en_1327 7) i := fun i => by rw [hu_1340 7 (by omega)]
                      have ha_1340 : ∀ i, i < d1320 → rdF (en_1340 7) i = rdF (en_1320 7) i := fun i hi => (hg7_1340 i).trans (i2_1327 i hi)
                      have hwv_1340 : rdF (en_1340 7) d1320 = nI w1327 := (hg7_1340 d1320).trans i1_1327.1
                      refine lv_aload_n hx hb dX12_next_150 rfl (lv_at hl 0 rfl) ?_
                      refine lv_dup hx hb dX12_next_151 rfl ?_
                      refine hp_get hx hb hts ix12 hown hK hh (q := 0) rfl (hI.1 _ (by decide)) es1328_1340 rfl 14 (by decide) (hts _ tw_893) (fun _ h9 => h9) rfl dX12_next_152 ?_
                      refine lv_iconst (v := 1) hx hb dX12_next_155 (by decide) ?_
                      refine lv_iadd hx hb dX12_next_156 ?_
                      rw [show (1 : Int32) = nI 1 from rfl, nI_add d1320 1]
                      refine hp_put hx hb hts ix12 tyX12 tyX12_ok nmX12 hown hK hh (q := 0) rfl (hI.1 _ (by decide)) es1328_1340 rfl 14 (by decide) (hts _ tw_893) (fun _ h9 => h9) rfl (ty := .int) (by decide +kernel) rfl rfl (Nat.le_of_ble_eq_true rfl) dX12_next_157 (fun H locs en_1341 hen_1341 hh => ?_)
                      have es1331_1341 : en_1341 7 = .inl (cy 0, 13, .inl f_1331) := by rw [hen_1341, va_up_ne _ _ (by decide)]; exact es1331_1340
                      have es1328_1341 : en_1341 0 = .inr (11, [.int fa_1328, .int hi_1328, .int (nI wd), .int (nI mo), .int (nI tb), .ref (ad 1), .ref (ad 2), .ref (ad 3), .ref (ad 4), .ref (ad 5), .ref (ad 6), .ref (ad 7), .ref (ad 8), .ref (ad 9), .int (nI (d1320 + 1)), .long many_1328, .long grt_1328, .long lst_1328, .long nou_1328, .ref (ad 10), .ref (ad 11), .ref (ad 12), .int rm_1328, .long rb_1328, .ref (ad 13), .int pr_1328, .ref (ad 14), .ref (ad 15), .ref (ad 16), .ref (ad 17), .int (nI wo), .ref (ad 18), .ref (ad 19)]) := by rw [hen_1341]; exact va_up_self _ _ _
                      have hI_1341 : RX cy cs ad en_1341 := by rw [hen_1341]; exact upr_M hI_1340 ⟨fa_1328, hi_1328, wd, mo, tb, (nI (d1320 + 1)), many_1328, grt_1328, lst_1328, nou_1328, rm_1328, rb_1328, pr_1328, wo, rfl, hwd2, hwd3, hmo, htb, hwo⟩
                      have hf_1341 : ∀ c, (c ≠ 0 ∧ c ≠ 6 ∧ c ≠ 7) → en_1341 c = en c := fun c hc => Eq.trans (show en_1341 c = en_1340 c from by rw [hen_1341, va_up_ne _ _ (by omega)]) (hf_1340 c hc)
                      have hkp_1341 : KP en en_1341 := KP_fv hkp_1340 es1328_1340 es1328_1341 hi_1328 (nI wd) (nI mo) (nI tb) pr_1328 (nI wo) rfl rfl rfl rfl rfl rfl rfl rfl rfl rfl rfl rfl
                      have hg7_1341 : ∀ i, rdF (en_1341 7) i = rdF (en_1340 7) i := fun i => by rw [hen_1341, va_up_ne _ _ (by decide)]
                      have ha_1341 : ∀ i, i < d1320 → rdF (en_1341 7) i = rdF (en_1320 7) i := fun i hi => (hg7_1341 i).trans (ha_1340 i hi)
                      have hwv_1341 : rdF (en_1341 7) d1320 = nI w1327 := (hg7_1341 d1320).trans hwv_1340
                      refine lv_aload_n hx hb dX12_next_160 rfl (lv_at hl 0 rfl) ?_
                      refine hp_get hx hb hts ix12 hown hK hh (q := 0) rfl (hI.1 _ (by decide)) es1328_1341 rfl 14 (by decide) (hts _ tw_893) (fun _ h9 => h9) rfl dX12_next_161 ?_
                      refine lv_iload_n hx hb dX12_next_164 rfl (lv_at hl 1 rfl) ?_
                      refine lv_icmp_ne (tgt := 170) hx hb dX12_next_165 (by decide) (fun c_1342 => ?_) (fun c_1342 => ?_)
                      · have n_1342 : (d1320 + 1) ≠ n := n_neq (a := (d1320 + 1)) (b := n) c_1342 (by omega) (by omega)
                        refine lv_aload_n hx hb dX12_next_170 rfl (lv_at hl 0 rfl) ?_
                        refine hp_get hx hb hts ix12 hown hK hh (q := 0) rfl (hI.1 _ (by decide)) es1328_1341 rfl 11 (by decide) (hts _ tw_890) (fun _ h9 => h9) rfl dX12_next_171 ?_
                        refine lv_aload_n hx hb dX12_next_174 rfl (lv_at hl 0 rfl) ?_
                        refine hp_get hx hb hts ix12 hown hK hh (q := 0) rfl (hI.1 _ (by decide)) es1328_1341 rfl 14 (by decide) (hts _ tw_893) (fun _ h9 => h9) rfl dX12_next_175 ?_
                        refine lv_iconst (v := (-1)) hx hb dX12_next_178 (by decide) ?_
                        refine hp_iast hx hb hK hh (q := 7) rfl (hI.1 _ (by decide)) es1331_1341 (vp_in_nI (n := (d1320 + 1)) (by omega) (by decide)) dX12_next_179 (fun H locs en_1343 hen_1343 hh => ?_)
                        rw [nI_clamp (n := (d1320 + 1)) (by omega)] at hen_1343
                        have es1328_1343 : en_1343 0 = .inr (11, [.int fa_1328, .int hi_1328, .int (nI wd), .int (nI mo), .int (nI tb), .ref (ad 1), .ref (ad 2), .ref (ad 3), .ref (ad 4), .ref (ad 5), .ref (ad 6), .ref (ad 7), .ref (ad 8), .ref (ad 9), .int (nI (d1320 + 1)), .long many_1328, .long grt_1328, .long lst_1328, .long nou_1328, .ref (ad 10), .ref (ad 11), .ref (ad 12), .int rm_1328, .long rb_1328, .ref (ad 13), .int pr_1328, .ref (ad 14), .ref (ad 15), .ref (ad 16), .ref (ad 17), .int (nI wo), .ref (ad 18), .ref (ad 19)]) := by rw [hen_1343, va_up_ne _ _ (by decide)]; exact es1328_1341
                        have es1331_1343 : en_1343 7 = .inl (cy 0, 13, .inl (upd f_1331 (d1320 + 1) (-1))) := by rw [hen_1343]; exact va_up_self _ _ _
                        have hI_1343 : RX cy cs ad en_1343 := by rw [hen_1343]; exact upr_nw hI_1341 ⟨(upd f_1331 (d1320 + 1) (-1)), rfl⟩
                        have hf_1343 : ∀ c, (c ≠ 0 ∧ c ≠ 6 ∧ c ≠ 7) → en_1343 c = en c := fun c hc => Eq.trans (show en_1343 c = en_1341 c from by rw [hen_1343, va_up_ne _ _ (by omega)]) (hf_1341 c hc)
                        have hkp_1343 : KP en en_1343 := KP_same hkp_1341 (show en_1343 0 = en_1341 0 from by rw [hen_1343, va_up_ne _ _ (by decide)])
                        have hno_1343 : ∀ i, i ≠ (d1320 + 1) → rdF (en_1343 7) i = rdF (en_1341 7) i := fun i hi => by rw [es1331_1343, es1331_1341]; exact pk_un hi
                        have hnv_1343 : rdF (en_1343 7) (d1320 + 1) = (-1) := by rw [es1331_1343]; exact pk_us
                        have ha_1343 : ∀ i, i < d1320 → rdF (en_1343 7) i = rdF (en_1320 7) i := fun i hi => (hno_1343 i (by omega)).trans (ha_1341 i hi)
                        have hwv_1343 : rdF (en_1343 7) d1320 = nI w1327 := (hno_1343 d1320 (by omega)).trans hwv_1341
                        refine lv_goto (tgt := 18) hx hb dX12_next_180 (by decide) ?_
                        have hNB_1344 := NWp_desc i1_1320 (by omega) ha_1343 hwv_1343 (by omega) (by omega) hnv_1343
                        exact ih_1320 (mm1320 - 1) (d1320 + 1) 0 en_1343 ls H locs (by omega) hI_1343 hf_1343 (⟨by rw [es1328_1343]; rfl, by omega⟩) (hNB_1344.1) (by have h1 := hNB_1344.2; have h2 := i2_1320; omega) (hkp_1343) (lv_sub hl [0, 1] rfl) hh
                      · have n_1342 : (d1320 + 1) = n := n_eq (a := (d1320 + 1)) (b := n) c_1342 (by omega) (by omega)
                        refine lv_iconst (v := 1) hx hb dX12_next_168 (by decide) ?_
                        have hNR_1345 := NWp_ret i1_1320 ha_1341 hwv_1341 (by omega) (by omega)
                        have hdn_1345 : n - 1 = d1320 := by omega
                        exact hp_iretM hx hb hr rfl hlocks hh (⟨hI_1341, hf_1341, Or.inr ⟨rfl, w1327 + 1, ⟨by omega, Or.inr ⟨by rw [es1328_1341]; exact congrArg nI (by omega), by omega⟩, by rw [hdn_1345]; exact hNR_1345.1⟩, by omega, by have h1 := hNR_1345.2; have h2 := i2_1320.2; rw [hdn_1345]; omega⟩, hkp_1341⟩) dX12_next_169
                    · have n_1339 : tb ≤ w1327 := n_nlt (a := w1327) (b := tb) c_1339 (by omega) (by omega)
                      exact absurd n_1339 (by omega)
                  · have n_1338 : 0 < d1320 := n_nle (a := d1320) (b := 0) c_1338 (by omega) (by decide)
                    refine lv_aload_n hx hb dX12_next_61 rfl (lv_at hl 0 rfl) ?_
                    refine lv_aload_n hx hb dX12_next_62 rfl (lv_at hl 0 rfl) ?_
                    refine hp_get hx hb hts ix12 hown hK hh (q := 0) rfl (hI.1 _ (by decide)) es1328 rfl 11 (by decide) (hts _ tw_890) (fun _ h9 => h9) rfl dX12_next_63 ?_
                    refine lv_aload_n hx hb dX12_next_66 rfl (lv_at hl 0 rfl) ?_
                    refine hp_get hx hb hts ix12 hown hK hh (q := 0) rfl (hI.1 _ (by decide)) es1328 rfl 14 (by decide) (hts _ tw_893) (fun _ h9 => h9) rfl dX12_next_67 ?_
                    refine lv_iconst (v := 1) hx hb dX12_next_70 (by decide) ?_
                    refine lv_isub hx hb dX12_next_71 ?_
                    rw [show (1 : Int32) = nI 1 from rfl, pk_sub (a := d1320) (b := 1) (by omega)]
                    refine hp_iald hx hb hK hh (q := 7) rfl (hI.1 _ (by decide)) es1331 (vp_in_nI (n := (d1320 - 1)) (by omega) (by decide)) dX12_next_72 ?_
                    rw [nI_clamp (n := (d1320 - 1)) (by omega)]
                    obtain ⟨v_1346, hv_1346, hve_1346⟩ := i1_1320.1 (d1320 - 1) (by omega)
                    rw [show f_1331 (d1320 - 1) = nI v_1346 from (show f_1331 (d1320 - 1) = rdF (en_1327 7) (d1320 - 1) from by rw [es1331]; rfl).trans ((i2_1327 (d1320 - 1) (by omega)).trans hve_1346)]
                    refine lv_aload_n hx hb dX12_next_73 rfl (lv_at hl 0 rfl) ?_
                    refine hp_get hx hb hts ix12 hown hK hh (q := 0) rfl (hI.1 _ (by decide)) es1328 rfl 11 (by decide) (hts _ tw_890) (fun _ h9 => h9) rfl dX12_next_74 ?_
                    refine lv_aload_n hx hb dX12_next_77 rfl (lv_at hl 0 rfl) ?_
                    refine hp_get hx hb hts ix12 hown hK hh (q := 0) rfl (hI.1 _ (by decide)) es1328 rfl 14 (by decide) (hts _ tw_893) (fun _ h9 => h9) rfl dX12_next_78 ?_
                    refine hp_iald hx hb hK hh (q := 7) rfl (hI.1 _ (by decide)) es1331 (vp_in_nI (n := d1320) (by omega) (by decide)) dX12_next_81 ?_
                    rw [nI_clamp (n := d1320) (by omega)]
                    rw [show f_1331 d1320 = nI w1327 from (show f_1331 d1320 = rdF (en_1327 7) d1320 from by rw [es1331]; rfl).trans i1_1327.1]
                    refine hp_callRi (va_runV (As := [.int (nI v_1346), .int (nI w1327)]) (rest := []) ⟨hx, hb, hml, hown, hts⟩ (c_X12_mayFollow l D cy _ cs ad en_1327 hI_1327 v_1346 w1327 (by omega) (by omega)) (kw_X12_mayFollow hts tw_1029 ⟨by decide, by decide⟩) (preV_of hh hK (hI.1 _ (by decide)) es1328 rfl) rfl rfl hl.1 rfl (lv_room (Nat.le_of_ble_eq_true rfl)) dX12_next_82 ⟨Nat.le_of_ble_eq_true rfl, Nat.le_of_ble_eq_true rfl⟩) hh hA (fun r_1347 H locs hw_1347 hh => ?_)
                    rcases Decidable.em (rdF (en_1327 2) (6 * v_1346 + w1327) = 0) with hp_1347 | hp_1347
                    · obtain rfl : r_1347 = 1 := Eq.trans hw_1347 (if_pos hp_1347)
                      refine lv_if_ne (tgt := 104) hx hb dX12_next_85 (by decide) (fun _ => ?_) (fun c_0 => absurd c_0 (by decide))
                      refine lv_aload_n hx hb dX12_next_104 rfl (lv_at hl 0 rfl) ?_
                      refine hp_get hx hb hts ix12 hown hK hh (q := 0) rfl (hI.1 _ (by decide)) es1328 rfl 11 (by decide) (hts _ tw_890) (fun _ h9 => h9) rfl dX12_next_105 ?_
                      refine lv_aload_n hx hb dX12_next_108 rfl (lv_at hl 0 rfl) ?_
                      refine hp_get hx hb hts ix12 hown hK hh (q := 0) rfl (hI.1 _ (by decide)) es1328 rfl 14 (by decide) (hts _ tw_893) (fun _ h9 => h9) rfl dX12_next_109 ?_
                      refine hp_iald hx hb hK hh (q := 7) rfl (hI.1 _ (by decide)) es1331 (vp_in_nI (n := d1320) (by omega) (by decide)) dX12_next_112 ?_
                      rw [nI_clamp (n := d1320) (by omega)]
                      rw [show f_1331 d1320 = nI w1327 from (show f_1331 d1320 = rdF (en_1327 7) d1320 from by rw [es1331]; rfl).trans i1_1327.1]
                      refine lv_aload_n hx hb dX12_next_113 rfl (lv_at hl 0 rfl) ?_
                      refine hp_get hx hb hts ix12 hown hK hh (q := 0) rfl (hI.1 _ (by decide)) es1328 rfl 4 (by decide) (hts _ tw_883) (fun _ h9 => h9) rfl dX12_next_114 ?_
                      refine lv_icmp_lt (tgt := 133) hx hb dX12_next_117 (by decide) (fun c_1348 => ?_) (fun c_1348 => ?_)
                      · have n_1348 : w1327 < tb := n_lt (a := w1327) (b := tb) c_1348 (by omega) (by omega)
                        refine lv_aload_n hx hb dX12_next_133 rfl (lv_at hl 0 rfl) ?_
                        refine lv_aload_n hx hb dX12_next_134 rfl (lv_at hl 0 rfl) ?_
                        refine hp_get hx hb hts ix12 hown hK hh (q := 0) rfl (hI.1 _ (by decide)) es1328 rfl 14 (by decide) (hts _ tw_893) (fun _ h9 => h9) rfl dX12_next_135 ?_
                        refine lv_aload_n hx hb dX12_next_138 rfl (lv_at hl 0 rfl) ?_
                        refine hp_get hx hb hts ix12 hown hK hh (q := 0) rfl (hI.1 _ (by decide)) es1328 rfl 11 (by decide) (hts _ tw_890) (fun _ h9 => h9) rfl dX12_next_139 ?_
                        refine lv_aload_n hx hb dX12_next_142 rfl (lv_at hl 0 rfl) ?_
                        refine hp_get hx hb hts ix12 hown hK hh (q := 0) rfl (hI.1 _ (by decide)) es1328 rfl 14 (by decide) (hts _ tw_893) (fun _ h9 => h9) rfl dX12_next_143 ?_
                        refine hp_iald hx hb hK hh (q := 7) rfl (hI.1 _ (by decide)) es1331 (vp_in_nI (n := d1320) (by omega) (by decide)) dX12_next_146 ?_
                        rw [nI_clamp (n := d1320) (by omega)]
                        rw [show f_1331 d1320 = nI w1327 from (show f_1331 d1320 = rdF (en_1327 7) d1320 from by rw [es1331]; rfl).trans i1_1327.1]
                        refine hp_callMv (va_runV (As := [.int (nI d1320), .int (nI w1327)]) (rest := []) ⟨hx, hb, hml, hown, hts⟩ (c_X12_goOn l D cy _ cs ad en_1327 hI_1327 d1320 w1327 (by omega) (by omega)) (kw_X12_goOn hts tw_1050 ⟨by decide, by decide⟩) (preV_of hh hK (hI.1 _ (by decide)) es1328 rfl) rfl rfl hl.1 rfl (lv_room (Nat.le_of_ble_eq_true rfl)) dX12_next_147 ⟨Nat.le_of_ble_eq_true rfl, Nat.le_of_ble_eq_true rfl⟩) hh hA (fun H locs en_1349 hw_1349 hh => ?_)
                        obtain ⟨hI_1349, hu_1349⟩ := hw_1349
                        have es1328_1349 : en_1349 0 = .inr (11, [.int fa_1328, .int hi_1328, .int (nI wd), .int (nI mo), .int (nI tb), .ref (ad 1), .ref (ad 2), .ref (ad 3), .ref (ad 4), .ref (ad 5), .ref (ad 6), .ref (ad 7), .ref (ad 8), .ref (ad 9), .int (nI d1320), .long many_1328, .long grt_1328, .long lst_1328, .long nou_1328, .ref (ad 10), .ref (ad 11), .ref (ad 12), .int rm_1328, .long rb_1328, .ref (ad 13), .int pr_1328, .ref (ad 14), .ref (ad 15), .ref (ad 16), .ref (ad 17), .int (nI wo), .ref (ad 18), .ref (ad 19)]) := (hu_1349 0 (by omega)).trans es1328
                        have es1331_1349 : en_1349 7 = .inl (cy 0, 13, .inl f_1331) := (hu_1349 7 (by omega)).trans es1331
                        have hf_1349 : ∀ c, (c ≠ 0 ∧ c ≠ 6 ∧ c ≠ 7) → en_1349 c = en c := fun c hc => (hu_1349 c (by omega)).trans (hf_1327 c hc)
                        have hkp_1349 : KP en en_1349 := KP_same i4_1327 (hu_1349 0 (by omega))
                        have hg7_1349 : ∀ i, rdF (en_1349 7) i = rdF (en_1327 7) i := fun i => by rw [hu_1349 7 (by omega)]
                        have ha_1349 : ∀ i, i < d1320 → rdF (en_1349 7) i = rdF (en_1320 7) i := fun i hi => (hg7_1349 i).trans (i2_1327 i hi)
                        have hwv_1349 : rdF (en_1349 7) d1320 = nI w1327 := (hg7_1349 d1320).trans i1_1327.1
                        refine lv_aload_n hx hb dX12_next_150 rfl (lv_at hl 0 rfl) ?_
                        refine lv_dup hx hb dX12_next_151 rfl ?_
                        refine hp_get hx hb hts ix12 hown hK hh (q := 0) rfl (hI.1 _ (by decide)) es1328_1349 rfl 14 (by decide) (hts _ tw_893) (fun _ h9 => h9) rfl dX12_next_152 ?_
                        refine lv_iconst (v := 1) hx hb dX12_next_155 (by decide) ?_
                        refine lv_iadd hx hb dX12_next_156 ?_
                        rw [show (1 : Int32) = nI 1 from rfl, nI_add d1320 1]
                        refine hp_put hx hb hts ix12 tyX12 tyX12_ok nmX12 hown hK hh (q := 0) rfl (hI.1 _ (by decide)) es1328_1349 rfl 14 (by decide) (hts _ tw_893) (fun _ h9 => h9) rfl (ty := .int) (by decide +kernel) rfl rfl (Nat.le_of_ble_eq_true rfl) dX12_next_157 (fun H locs en_1350 hen_1350 hh => ?_)
                        have es1331_1350 : en_1350 7 = .inl (cy 0, 13, .inl f_1331) := by rw [hen_1350, va_up_ne _ _ (by decide)]; exact es1331_1349
                        have es1328_1350 : en_1350 0 = .inr (11, [.int fa_1328, .int hi_1328, .int (nI wd), .int (nI mo), .int (nI tb), .ref (ad 1), .ref (ad 2), .ref (ad 3), .ref (ad 4), .ref (ad 5), .ref (ad 6), .ref (ad 7), .ref (ad 8), .ref (ad 9), .int (nI (d1320 + 1)), .long many_1328, .long grt_1328, .long lst_1328, .long nou_1328, .ref (ad 10), .ref (ad 11), .ref (ad 12), .int rm_1328, .long rb_1328, .ref (ad 13), .int pr_1328, .ref (ad 14), .ref (ad 15), .ref (ad 16), .ref (ad 17), .int (nI wo), .ref (ad 18), .ref (ad 19)]) := by rw [hen_1350]; exact va_up_self _ _ _
                        have hI_1350 : RX cy cs ad en_1350 := by rw [hen_1350]; exact upr_M hI_1349 ⟨fa_1328, hi_1328, wd, mo, tb, (nI (d1320 + 1)), many_1328, grt_1328, lst_1328, nou_1328, rm_1328, rb_1328, pr_1328, wo, rfl, hwd2, hwd3, hmo, htb, hwo⟩
                        have hf_1350 : ∀ c, (c ≠ 0 ∧ c ≠ 6 ∧ c ≠ 7) → en_1350 c = en c := fun c hc => Eq.trans (show en_1350 c = en_1349 c from by rw [hen_1350, va_up_ne _ _ (by omega)]) (hf_1349 c hc)
                        have hkp_1350 : KP en en_1350 := KP_fv hkp_1349 es1328_1349 es1328_1350 hi_1328 (nI wd) (nI mo) (nI tb) pr_1328 (nI wo) rfl rfl rfl rfl rfl rfl rfl rfl rfl rfl rfl rfl
                        have hg7_1350 : ∀ i, rdF (en_1350 7) i = rdF (en_1349 7) i := fun i => by rw [hen_1350, va_up_ne _ _ (by decide)]
                        have ha_1350 : ∀ i, i < d1320 → rdF (en_1350 7) i = rdF (en_1320 7) i := fun i hi => (hg7_1350 i).trans (ha_1349 i hi)
                        have hwv_1350 : rdF (en_1350 7) d1320 = nI w1327 := (hg7_1350 d1320).trans hwv_1349
                        refine lv_aload_n hx hb dX12_next_160 rfl (lv_at hl 0 rfl) ?_
                        refine hp_get hx hb hts ix12 hown hK hh (q := 0) rfl (hI.1 _ (by decide)) es1328_1350 rfl 14 (by decide) (hts _ tw_893) (fun _ h9 => h9) rfl dX12_next_161 ?_
                        refine lv_iload_n hx hb dX12_next_164 rfl (lv_at hl 1 rfl) ?_
                        refine lv_icmp_ne (tgt := 170) hx hb dX12_next_165 (by decide) (fun c_1351 => ?_) (fun c_1351 => ?_)
                        · have n_1351 : (d1320 + 1) ≠ n := n_neq (a := (d1320 + 1)) (b := n) c_1351 (by omega) (by omega)
                          refine lv_aload_n hx hb dX12_next_170 rfl (lv_at hl 0 rfl) ?_
                          refine hp_get hx hb hts ix12 hown hK hh (q := 0) rfl (hI.1 _ (by decide)) es1328_1350 rfl 11 (by decide) (hts _ tw_890) (fun _ h9 => h9) rfl dX12_next_171 ?_
                          refine lv_aload_n hx hb dX12_next_174 rfl (lv_at hl 0 rfl) ?_
                          refine hp_get hx hb hts ix12 hown hK hh (q := 0) rfl (hI.1 _ (by decide)) es1328_1350 rfl 14 (by decide) (hts _ tw_893) (fun _ h9 => h9) rfl dX12_next_175 ?_
                          refine lv_iconst (v := (-1)) hx hb dX12_next_178 (by decide) ?_
                          refine hp_iast hx hb hK hh (q := 7) rfl (hI.1 _ (by decide)) es1331_1350 (vp_in_nI (n := (d1320 + 1)) (by omega) (by decide)) dX12_next_179 (fun H locs en_1352 hen_1352 hh => ?_)
                          rw [nI_clamp (n := (d1320 + 1)) (by omega)] at hen_1352
                          have es1328_1352 : en_1352 0 = .inr (11, [.int fa_1328, .int hi_1328, .int (nI wd), .int (nI mo), .int (nI tb), .ref (ad 1), .ref (ad 2), .ref (ad 3), .ref (ad 4), .ref (ad 5), .ref (ad 6), .ref (ad 7), .ref (ad 8), .ref (ad 9), .int (nI (d1320 + 1)), .long many_1328, .long grt_1328, .long lst_1328, .long nou_1328, .ref (ad 10), .ref (ad 11), .ref (ad 12), .int rm_1328, .long rb_1328, .ref (ad 13), .int pr_1328, .ref (ad 14), .ref (ad 15), .ref (ad 16), .ref (ad 17), .int (nI wo), .ref (ad 18), .ref (ad 19)]) := by rw [hen_1352, va_up_ne _ _ (by decide)]; exact es1328_1350
                          have es1331_1352 : en_1352 7 = .inl (cy 0, 13, .inl (upd f_1331 (d1320 + 1) (-1))) := by rw [hen_1352]; exact va_up_self _ _ _
                          have hI_1352 : RX cy cs ad en_1352 := by rw [hen_1352]; exact upr_nw hI_1350 ⟨(upd f_1331 (d1320 + 1) (-1)), rfl⟩
                          have hf_1352 : ∀ c, (c ≠ 0 ∧ c ≠ 6 ∧ c ≠ 7) → en_1352 c = en c := fun c hc => Eq.trans (show en_1352 c = en_1350 c from by rw [hen_1352, va_up_ne _ _ (by omega)]) (hf_1350 c hc)
                          have hkp_1352 : KP en en_1352 := KP_same hkp_1350 (show en_1352 0 = en_1350 0 from by rw [hen_1352, va_up_ne _ _ (by decide)])
                          have hno_1352 : ∀ i, i ≠ (d1320 + 1) → rdF (en_1352 7) i = rdF (en_1350 7) i := fun i hi => by rw [es1331_1352, es1331_1350]; exact pk_un hi
                          have hnv_1352 : rdF (en_1352 7) (d1320 + 1) = (-1) := by rw [es1331_1352]; exact pk_us
                          have ha_1352 : ∀ i, i < d1320 → rdF (en_1352 7) i = rdF (en_1320 7) i := fun i hi => (hno_1352 i (by omega)).trans (ha_1350 i hi)
                          have hwv_1352 : rdF (en_1352 7) d1320 = nI w1327 := (hno_1352 d1320 (by omega)).trans hwv_1350
                          refine lv_goto (tgt := 18) hx hb dX12_next_180 (by decide) ?_
                          have hNB_1353 := NWp_desc i1_1320 (by omega) ha_1352 hwv_1352 (by omega) (by omega) hnv_1352
                          exact ih_1320 (mm1320 - 1) (d1320 + 1) 0 en_1352 ls H locs (by omega) hI_1352 hf_1352 (⟨by rw [es1328_1352]; rfl, by omega⟩) (hNB_1353.1) (by have h1 := hNB_1353.2; have h2 := i2_1320; omega) (hkp_1352) (lv_sub hl [0, 1] rfl) hh
                        · have n_1351 : (d1320 + 1) = n := n_eq (a := (d1320 + 1)) (b := n) c_1351 (by omega) (by omega)
                          refine lv_iconst (v := 1) hx hb dX12_next_168 (by decide) ?_
                          have hNR_1354 := NWp_ret i1_1320 ha_1350 hwv_1350 (by omega) (by omega)
                          have hdn_1354 : n - 1 = d1320 := by omega
                          exact hp_iretM hx hb hr rfl hlocks hh (⟨hI_1350, hf_1350, Or.inr ⟨rfl, w1327 + 1, ⟨by omega, Or.inr ⟨by rw [es1328_1350]; exact congrArg nI (by omega), by omega⟩, by rw [hdn_1354]; exact hNR_1354.1⟩, by omega, by have h1 := hNR_1354.2; have h2 := i2_1320.2; rw [hdn_1354]; omega⟩, hkp_1350⟩) dX12_next_169
                      · have n_1348 : tb ≤ w1327 := n_nlt (a := w1327) (b := tb) c_1348 (by omega) (by omega)
                        exact absurd n_1348 (by omega)
                    · obtain rfl : r_1347 = 0 := Eq.trans hw_1347 (if_neg hp_1347)
                      refine lv_if_ne (tgt := 104) hx hb dX12_next_85 (by decide) (fun c_0 => absurd c_0 (by decide)) (fun _ => ?_)
                      refine lv_aload_n hx hb dX12_next_88 rfl (lv_at hl 0 rfl) ?_
                      refine hp_get hx hb hts ix12 hown hK hh (q := 0) rfl (hI.1 _ (by decide)) es1328 rfl 11 (by decide) (hts _ tw_890) (fun _ h9 => h9) rfl dX12_next_89 ?_
                      refine lv_aload_n hx hb dX12_next_92 rfl (lv_at hl 0 rfl) ?_
                      refine hp_get hx hb hts ix12 hown hK hh (q := 0) rfl (hI.1 _ (by decide)) es1328 rfl 14 (by decide) (hts _ tw_893) (fun _ h9 => h9) rfl dX12_next_93 ?_
                      refine lv_dup2_11 hx hb dX12_next_96 rfl rfl ?_
                      refine hp_iald hx hb hK hh (q := 7) rfl (hI.1 _ (by decide)) es1331 (vp_in_nI (n := d1320) (by omega) (by decide)) dX12_next_97 ?_
                      rw [nI_clamp (n := d1320) (by omega)]
                      rw [show f_1331 d1320 = nI w1327 from (show f_1331 d1320 = rdF (en_1327 7) d1320 from by rw [es1331]; rfl).trans i1_1327.1]
                      refine lv_iconst (v := 1) hx hb dX12_next_98 (by decide) ?_
                      refine lv_iadd hx hb dX12_next_99 ?_
                      rw [show (1 : Int32) = nI 1 from rfl, nI_add w1327 1]
                      refine hp_iast hx hb hK hh (q := 7) rfl (hI.1 _ (by decide)) es1331 (vp_in_nI (n := d1320) (by omega) (by decide)) dX12_next_100 (fun H locs en_1355 hen_1355 hh => ?_)
                      rw [nI_clamp (n := d1320) (by omega)] at hen_1355
                      have es1328_1355 : en_1355 0 = .inr (11, [.int fa_1328, .int hi_1328, .int (nI wd), .int (nI mo), .int (nI tb), .ref (ad 1), .ref (ad 2), .ref (ad 3), .ref (ad 4), .ref (ad 5), .ref (ad 6), .ref (ad 7), .ref (ad 8), .ref (ad 9), .int (nI d1320), .long many_1328, .long grt_1328, .long lst_1328, .long nou_1328, .ref (ad 10), .ref (ad 11), .ref (ad 12), .int rm_1328, .long rb_1328, .ref (ad 13), .int pr_1328, .ref (ad 14), .ref (ad 15), .ref (ad 16), .ref (ad 17), .int (nI wo), .ref (ad 18), .ref (ad 19)]) := by rw [hen_1355, va_up_ne _ _ (by decide)]; exact es1328
                      have es1331_1355 : en_1355 7 = .inl (cy 0, 13, .inl (upd f_1331 d1320 (nI (w1327 + 1)))) := by rw [hen_1355]; exact va_up_self _ _ _
                      have hI_1355 : RX cy cs ad en_1355 := by rw [hen_1355]; exact upr_nw hI_1327 ⟨(upd f_1331 d1320 (nI (w1327 + 1))), rfl⟩
                      have hf_1355 : ∀ c, (c ≠ 0 ∧ c ≠ 6 ∧ c ≠ 7) → en_1355 c = en c := fun c hc => Eq.trans (show en_1355 c = en_1327 c from by rw [hen_1355, va_up_ne _ _ (by omega)]) (hf_1327 c hc)
                      have hkp_1355 : KP en en_1355 := KP_same i4_1327 (show en_1355 0 = en_1327 0 from by rw [hen_1355, va_up_ne _ _ (by decide)])
                      have hno_1355 : ∀ i, i ≠ d1320 → rdF (en_1355 7) i = rdF (en_1327 7) i := fun i hi => by rw [es1331_1355, es1331]; exact pk_un hi
                      have hnv_1355 : rdF (en_1355 7) d1320 = (nI (w1327 + 1)) := by rw [es1331_1355]; exact pk_us
                      refine lv_goto (tgt := 38) hx hb dX12_next_101 (by decide) ?_
                      exact ih_1327 (mm1327 - 1) (w1327 + 1) en_1355 ls H locs (by omega) hI_1355 hf_1355 (by rw [es1328_1355]; rfl) (⟨hnv_1355, by omega, by omega⟩) (fun i hi => (hno_1355 i (by omega)).trans (i2_1327 i hi)) (by omega) (hkp_1355) (lv_sub hl [0, 1] rfl) hh
            exact loop_1327 (7 + 1) 7 u1320 en_1326 ls _ _ (by omega) hI_1326 hf_1326 (by rw [es1321_1326]; rfl) (⟨hnv_1326, by omega, i1_1320.2.2⟩) (fun i hi => hno_1326 i (by omega)) (by omega) (hkp_1326) (lv_sub hl [0, 1] rfl) hh
      exact loop_1320 (134217728 + 1) 134217728 d u en ls _ _ (by omega) hI hf0 (⟨by rw [es1318]; exact congrArg nI (by omega), by omega⟩) (hd3) (⟨by omega, Nat.le_of_eq rfl⟩) ((KP_rf en)) (lv_sub hl [0, 1] rfl) hh
    · have n_1319 : d = n := n_eq (a := d) (b := n) c_1319 (by omega) (by omega)
      exact absurd n_1319 (by omega)
  · have hdp : dp = nI n := (show dp = rdI (en 0) 14 from by rw [es1318]; rfl).trans hd2
    rw [hdp] at es1318
    refine lv_aload_n hx hb dX12_next_0 rfl (lv_at hl 0 rfl) ?_
    refine hp_get hx hb hts ix12 hown hK hh (q := 0) rfl (hI.1 _ (by decide)) es1318 rfl 14 (by decide) (hts _ tw_893) (fun _ h9 => h9) rfl dX12_next_1 ?_
    refine lv_iload_n hx hb dX12_next_4 rfl (lv_at hl 1 rfl) ?_
    refine lv_icmp_ne (tgt := 18) hx hb dX12_next_5 (by decide) (fun c_1356 => ?_) (fun c_1356 => ?_)
    · have n_1356 : n ≠ n := n_neq (a := n) (b := n) c_1356 (by omega) (by omega)
      exact absurd n_1356 (by omega)
    · have n_1356 : n = n := n_eq (a := n) (b := n) c_1356 (by omega) (by omega)
      refine lv_aload_n hx hb dX12_next_8 rfl (lv_at hl 0 rfl) ?_
      refine lv_dup hx hb dX12_next_9 rfl ?_
      refine hp_get hx hb hts ix12 hown hK hh (q := 0) rfl (hI.1 _ (by decide)) es1318 rfl 14 (by decide) (hts _ tw_893) (fun _ h9 => h9) rfl dX12_next_10 ?_
      refine lv_iconst (v := 1) hx hb dX12_next_13 (by decide) ?_
      refine lv_isub hx hb dX12_next_14 ?_
      rw [show (1 : Int32) = nI 1 from rfl, pk_sub (a := n) (b := 1) (by omega)]
      refine hp_put hx hb hts ix12 tyX12 tyX12_ok nmX12 hown hK hh (q := 0) rfl (hI.1 _ (by decide)) es1318 rfl 14 (by decide) (hts _ tw_893) (fun _ h9 => h9) rfl (ty := .int) (by decide +kernel) rfl rfl (Nat.le_of_ble_eq_true rfl) dX12_next_15 (fun H locs en_1357 hen_1357 hh => ?_)
      obtain ⟨f_1358, es1358⟩ := getr_nw hI
      have es1358_1357 : en_1357 7 = .inl (cy 0, 13, .inl f_1358) := by rw [hen_1357, va_up_ne _ _ (by decide)]; exact es1358
      have es1318_1357 : en_1357 0 = .inr (11, [.int fa, .int hi, .int (nI wd), .int (nI mo), .int (nI tb), .ref (ad 1), .ref (ad 2), .ref (ad 3), .ref (ad 4), .ref (ad 5), .ref (ad 6), .ref (ad 7), .ref (ad 8), .ref (ad 9), .int (nI (n - 1)), .long many, .long grt, .long lst, .long nou, .ref (ad 10), .ref (ad 11), .ref (ad 12), .int rm, .long rb, .ref (ad 13), .int pr, .ref (ad 14), .ref (ad 15), .ref (ad 16), .ref (ad 17), .int (nI wo), .ref (ad 18), .ref (ad 19)]) := by rw [hen_1357]; exact va_up_self _ _ _
      have hI_1357 : RX cy cs ad en_1357 := by rw [hen_1357]; exact upr_M hI ⟨fa, hi, wd, mo, tb, (nI (n - 1)), many, grt, lst, nou, rm, rb, pr, wo, rfl, hwd2, hwd3, hmo, htb, hwo⟩
      have hf_1357 : ∀ c, (c ≠ 0 ∧ c ≠ 6 ∧ c ≠ 7) → en_1357 c = en c := fun c hc => Eq.trans (show en_1357 c = en c from by rw [hen_1357, va_up_ne _ _ (by omega)]) (hf0 c hc)
      have hkp_1357 : KP en en_1357 := KP_fv (KP_rf en) es1318 es1318_1357 hi (nI wd) (nI mo) (nI tb) pr (nI wo) rfl rfl rfl rfl rfl rfl rfl rfl rfl rfl rfl rfl
      have loop_1359 : ∀ (fu mm1359 : Nat)  (d1359 : Nat) (u1359 : Nat) (en_1359 : Nat → va_E) (ls : Array Slot) (H : Heap) (locs : List Loc), mm1359 < fu → RX cy cs ad en_1359 → (∀ c, (c ≠ 0 ∧ c ≠ 6 ∧ c ≠ 7) → en_1359 c = en c) → (rdI (en_1359 0) 14 = nI d1359 ∧ d1359 < n) → (NWp (rdF (en_1359 7)) d1359 u1359) → (134217728 ≤ nmv (rdF (en_1359 7)) d1359 u1359 + mm1359 ∧ nmv (rdF (en 7)) d u ≤ nmv (rdF (en_1359 7)) d1359 u1359) → (KP en en_1359) → lv_has ls 2 [(0, .ref (ad 0)), (1, .int (nI n))] → Hp D (Af cs ad sz) (Af cs ad sz) s.heap H locs cs ad en_1359 → W p l e (headSpec (Cond.code yX12_next cX12_next 2 (some .boolean) :: TB) (rmN 2)).room s m ([.ref (ad 0), .int (nI n)] : List Value).toArray below meth c H locs 0 0 (MQ below (va_Qi (S := Nat → va_E) (fun r en1 => RX cy cs ad en1 ∧ (∀ c, (c ≠ 0 ∧ c ≠ 6 ∧ c ≠ 7) → en1 c = en c) ∧ (r = 0 ∨ (r = 1 ∧ ∃ u1, ND en1 n (n - 1) u1 ∧ 1 ≤ u1 ∧ nmv (rdF (en 7)) d u < nmv (rdF (en1 7)) (n - 1) u1)) ∧ KP en en1) (PostM D cs ad) (Af cs ad sz)) ([.ref (ad 0), .int (nI n)] : List Value).toArray s 0 0 (Af cs ad sz)) (F0 m 18 ls []) := by
        intro fu
        induction fu with
        | zero => intro mm1359 d1359 u1359 en_1359 ls H locs h2; exact absurd h2 (by omega)
        | succ fu ih_1359 =>
          intro mm1359 d1359 u1359 en_1359 ls H locs hmm_1359 hI_1359 hf_1359 i0_1359 i1_1359 i2_1359 i3_1359 hl hh
          have hlt_1359 := nmv_lt i1_1359 (by omega)
          refine lv_aload_n hx hb dX12_next_18 rfl (lv_at hl 0 rfl) ?_
          obtain ⟨fa_1360, hi_1360, wd_1360, mo_1360, tb_1360, dp_1360, many_1360, grt_1360, lst_1360, nou_1360, rm_1360, rb_1360, pr_1360, wo_1360, es1360, p0_1360, p1_1360, p2_1360, p3_1360, p4_1360⟩ := getr_M hI_1359
          have hq2_1361 : wd_1360 = wd := n_eq ((show nI wd_1360 = rdI (en_1359 0) 2 from by rw [es1360]; rfl).trans (i3_1359.2.1.trans (show rdI (en 0) 2 = nI wd from by rw [es1318]; rfl))) (by omega) (by omega)
          have hq3_1361 : mo_1360 = mo := n_eq ((show nI mo_1360 = rdI (en_1359 0) 3 from by rw [es1360]; rfl).trans (i3_1359.2.2.1.trans (show rdI (en 0) 3 = nI mo from by rw [es1318]; rfl))) (by omega) (by omega)
          have hq4_1361 : tb_1360 = tb := n_eq ((show nI tb_1360 = rdI (en_1359 0) 4 from by rw [es1360]; rfl).trans (i3_1359.2.2.2.1.trans (show rdI (en 0) 4 = nI tb from by rw [es1318]; rfl))) (by omega) (by omega)
          have hq30_1361 : wo_1360 = wo := n_eq ((show nI wo_1360 = rdI (en_1359 0) 30 from by rw [es1360]; rfl).trans (i3_1359.2.2.2.2.2.trans (show rdI (en 0) 30 = nI wo from by rw [es1318]; rfl))) (by omega) (by omega)
          rw [hq2_1361, hq3_1361, hq4_1361, hq30_1361] at es1360
          have hdp_1362 : dp_1360 = nI d1359 := (show dp_1360 = rdI (en_1359 0) 14 from by rw [es1360]; rfl).trans (i0_1359.1)
          rw [hdp_1362] at es1360
          refine hp_get hx hb hts ix12 hown hK hh (q := 0) rfl (hI.1 _ (by decide)) es1360 rfl 14 (by decide) (hts _ tw_893) (fun _ h9 => h9) rfl dX12_next_19 ?_
          refine lv_if_lt (tgt := 183) hx hb dX12_next_22 (by decide) (fun c_1363 => ?_) (fun c_1363 => ?_)
          · have n_1363 : d1359 < 0 := n_lt (a := d1359) (b := 0) c_1363 (by omega) (by decide)
            exact absurd n_1363 (by omega)
          · have n_1363 : 0 ≤ d1359 := n_nlt (a := d1359) (b := 0) c_1363 (by omega) (by decide)
            refine lv_aload_n hx hb dX12_next_25 rfl (lv_at hl 0 rfl) ?_
            refine hp_get hx hb hts ix12 hown hK hh (q := 0) rfl (hI.1 _ (by decide)) es1360 rfl 11 (by decide) (hts _ tw_890) (fun _ h9 => h9) rfl dX12_next_26 ?_
            refine lv_aload_n hx hb dX12_next_29 rfl (lv_at hl 0 rfl) ?_
            refine hp_get hx hb hts ix12 hown hK hh (q := 0) rfl (hI.1 _ (by decide)) es1360 rfl 14 (by decide) (hts _ tw_893) (fun _ h9 => h9) rfl dX12_next_30 ?_
            refine lv_dup2_11 hx hb dX12_next_33 rfl rfl ?_
            obtain ⟨f_1364, es1364⟩ := getr_nw hI_1359
            refine hp_iald hx hb hK hh (q := 7) rfl (hI.1 _ (by decide)) es1364 (vp_in_nI (n := d1359) (by omega) (by decide)) dX12_next_34 ?_
            rw [nI_clamp (n := d1359) (by omega)]
            refine lv_iconst (v := 1) hx hb dX12_next_35 (by decide) ?_
            refine lv_iadd hx hb dX12_next_36 ?_
            rw [show f_1364 d1359 + 1 = nI u1359 from (show f_1364 d1359 + 1 = rdF (en_1359 7) d1359 + 1 from by rw [es1364]; rfl).trans i1_1359.2.1]
            refine hp_iast hx hb hK hh (q := 7) rfl (hI.1 _ (by decide)) es1364 (vp_in_nI (n := d1359) (by omega) (by decide)) dX12_next_37 (fun H locs en_1365 hen_1365 hh => ?_)
            rw [nI_clamp (n := d1359) (by omega)] at hen_1365
            have es1360_1365 : en_1365 0 = .inr (11, [.int fa_1360, .int hi_1360, .int (nI wd), .int (nI mo), .int (nI tb), .ref (ad 1), .ref (ad 2), .ref (ad 3), .ref (ad 4), .ref (ad 5), .ref (ad 6), .ref (ad 7), .ref (ad 8), .ref (ad 9), .int (nI d1359), .long many_1360, .long grt_1360, .long lst_1360, .long nou_1360, .ref (ad 10), .ref (ad 11), .ref (ad 12), .int rm_1360, .long rb_1360, .ref (ad 13), .int pr_1360, .ref (ad 14), .ref (ad 15), .ref (ad 16), .ref (ad 17), .int (nI wo), .ref (ad 18), .ref (ad 19)]) := by rw [hen_1365, va_up_ne _ _ (by decide)]; exact es1360
            have es1364_1365 : en_1365 7 = .inl (cy 0, 13, .inl (upd f_1364 d1359 (nI u1359))) := by rw [hen_1365]; exact va_up_self _ _ _
            have hI_1365 : RX cy cs ad en_1365 := by rw [hen_1365]; exact upr_nw hI_1359 ⟨(upd f_1364 d1359 (nI u1359)), rfl⟩
            have hf_1365 : ∀ c, (c ≠ 0 ∧ c ≠ 6 ∧ c ≠ 7) → en_1365 c = en c := fun c hc => Eq.trans (show en_1365 c = en_1359 c from by rw [hen_1365, va_up_ne _ _ (by omega)]) (hf_1359 c hc)
            have hkp_1365 : KP en en_1365 := KP_same i3_1359 (show en_1365 0 = en_1359 0 from by rw [hen_1365, va_up_ne _ _ (by decide)])
            have hno_1365 : ∀ i, i ≠ d1359 → rdF (en_1365 7) i = rdF (en_1359 7) i := fun i hi => by rw [es1364_1365, es1364]; exact pk_un hi
            have hnv_1365 : rdF (en_1365 7) d1359 = (nI u1359) := by rw [es1364_1365]; exact pk_us
            have loop_1366 : ∀ (fu mm1366 : Nat)  (w1366 : Nat) (en_1366 : Nat → va_E) (ls : Array Slot) (H : Heap) (locs : List Loc), mm1366 < fu → RX cy cs ad en_1366 → (∀ c, (c ≠ 0 ∧ c ≠ 6 ∧ c ≠ 7) → en_1366 c = en c) → (rdI (en_1366 0) 14 = nI d1359) → (rdF (en_1366 7) d1359 = nI w1366 ∧ u1359 ≤ w1366 ∧ w1366 ≤ 6) → (∀ i, i < d1359 → rdF (en_1366 7) i = rdF (en_1359 7) i) → (7 ≤ w1366 + mm1366) → (KP en en_1366) → lv_has ls 2 [(0, .ref (ad 0)), (1, .int (nI n))] → Hp D (Af cs ad sz) (Af cs ad sz) s.heap H locs cs ad en_1366 → W p l e (headSpec (Cond.code yX12_next cX12_next 2 (some .boolean) :: TB) (rmN 2)).room s m ([.ref (ad 0), .int (nI n)] : List Value).toArray below meth c H locs 0 0 (MQ below (va_Qi (S := Nat → va_E) (fun r en1 => RX cy cs ad en1 ∧ (∀ c, (c ≠ 0 ∧ c ≠ 6 ∧ c ≠ 7) → en1 c = en c) ∧ (r = 0 ∨ (r = 1 ∧ ∃ u1, ND en1 n (n - 1) u1 ∧ 1 ≤ u1 ∧ nmv (rdF (en 7)) d u < nmv (rdF (en1 7)) (n - 1) u1)) ∧ KP en en1) (PostM D cs ad) (Af cs ad sz)) ([.ref (ad 0), .int (nI n)] : List Value).toArray s 0 0 (Af cs ad sz)) (F0 m 38 ls []) := by
              intro fu
              induction fu with
              | zero => intro mm1366 w1366 en_1366 ls H locs h2; exact absurd h2 (by omega)
              | succ fu ih_1366 =>
                intro mm1366 w1366 en_1366 ls H locs hmm_1366 hI_1366 hf_1366 i0_1366 i1_1366 i2_1366 i3_1366 i4_1366 hl hh
                refine lv_aload_n hx hb dX12_next_38 rfl (lv_at hl 0 rfl) ?_
                obtain ⟨fa_1367, hi_1367, wd_1367, mo_1367, tb_1367, dp_1367, many_1367, grt_1367, lst_1367, nou_1367, rm_1367, rb_1367, pr_1367, wo_1367, es1367, p0_1367, p1_1367, p2_1367, p3_1367, p4_1367⟩ := getr_M hI_1366
                have hq2_1368 : wd_1367 = wd := n_eq ((show nI wd_1367 = rdI (en_1366 0) 2 from by rw [es1367]; rfl).trans (i4_1366.2.1.trans (show rdI (en 0) 2 = nI wd from by rw [es1318]; rfl))) (by omega) (by omega)
                have hq3_1368 : mo_1367 = mo := n_eq ((show nI mo_1367 = rdI (en_1366 0) 3 from by rw [es1367]; rfl).trans (i4_1366.2.2.1.trans (show rdI (en 0) 3 = nI mo from by rw [es1318]; rfl))) (by omega) (by omega)
                have hq4_1368 : tb_1367 = tb := n_eq ((show nI tb_1367 = rdI (en_1366 0) 4 from by rw [es1367]; rfl).trans (i4_1366.2.2.2.1.trans (show rdI (en 0) 4 = nI tb from by rw [es1318]; rfl))) (by omega) (by omega)
                have hq30_1368 : wo_1367 = wo := n_eq ((show nI wo_1367 = rdI (en_1366 0) 30 from by rw [es1367]; rfl).trans (i4_1366.2.2.2.2.2.trans (show rdI (en 0) 30 = nI wo from by rw [es1318]; rfl))) (by omega) (by omega)
                rw [hq2_1368, hq3_1368, hq4_1368, hq30_1368] at es1367
                have hdp_1369 : dp_1367 = nI d1359 := (show dp_1367 = rdI (en_1366 0) 14 from by rw [es1367]; rfl).trans (i0_1366)
                rw [hdp_1369] at es1367
                refine hp_get hx hb hts ix12 hown hK hh (q := 0) rfl (hI.1 _ (by decide)) es1367 rfl 11 (by decide) (hts _ tw_890) (fun _ h9 => h9) rfl dX12_next_39 ?_
                refine lv_aload_n hx hb dX12_next_42 rfl (lv_at hl 0 rfl) ?_
                refine hp_get hx hb hts ix12 hown hK hh (q := 0) rfl (hI.1 _ (by decide)) es1367 rfl 14 (by decide) (hts _ tw_893) (fun _ h9 => h9) rfl dX12_next_43 ?_
                obtain ⟨f_1370, es1370⟩ := getr_nw hI_1366
                refine hp_iald hx hb hK hh (q := 7) rfl (hI.1 _ (by decide)) es1370 (vp_in_nI (n := d1359) (by omega) (by decide)) dX12_next_46 ?_
                rw [nI_clamp (n := d1359) (by omega)]
                rw [show f_1370 d1359 = nI w1366 from (show f_1370 d1359 = rdF (en_1366 7) d1359 from by rw [es1370]; rfl).trans i1_1366.1]
                refine lv_aload_n hx hb dX12_next_47 rfl (lv_at hl 0 rfl) ?_
                refine hp_get hx hb hts ix12 hown hK hh (q := 0) rfl (hI.1 _ (by decide)) es1367 rfl 4 (by decide) (hts _ tw_883) (fun _ h9 => h9) rfl dX12_next_48 ?_
                refine lv_icmp_ge (tgt := 104) hx hb dX12_next_51 (by decide) (fun c_1371 => ?_) (fun c_1371 => ?_)
                · have n_1371 : tb ≤ w1366 := n_le (a := tb) (b := w1366) c_1371 (by omega) (by omega)
                  refine lv_aload_n hx hb dX12_next_104 rfl (lv_at hl 0 rfl) ?_
                  refine hp_get hx hb hts ix12 hown hK hh (q := 0) rfl (hI.1 _ (by decide)) es1367 rfl 11 (by decide) (hts _ tw_890) (fun _ h9 => h9) rfl dX12_next_105 ?_
                  refine lv_aload_n hx hb dX12_next_108 rfl (lv_at hl 0 rfl) ?_
                  refine hp_get hx hb hts ix12 hown hK hh (q := 0) rfl (hI.1 _ (by decide)) es1367 rfl 14 (by decide) (hts _ tw_893) (fun _ h9 => h9) rfl dX12_next_109 ?_
                  refine hp_iald hx hb hK hh (q := 7) rfl (hI.1 _ (by decide)) es1370 (vp_in_nI (n := d1359) (by omega) (by decide)) dX12_next_112 ?_
                  rw [nI_clamp (n := d1359) (by omega)]
                  rw [show f_1370 d1359 = nI w1366 from (show f_1370 d1359 = rdF (en_1366 7) d1359 from by rw [es1370]; rfl).trans i1_1366.1]
                  refine lv_aload_n hx hb dX12_next_113 rfl (lv_at hl 0 rfl) ?_
                  refine hp_get hx hb hts ix12 hown hK hh (q := 0) rfl (hI.1 _ (by decide)) es1367 rfl 4 (by decide) (hts _ tw_883) (fun _ h9 => h9) rfl dX12_next_114 ?_
                  refine lv_icmp_lt (tgt := 133) hx hb dX12_next_117 (by decide) (fun c_1372 => ?_) (fun c_1372 => ?_)
                  · have n_1372 : w1366 < tb := n_lt (a := w1366) (b := tb) c_1372 (by omega) (by omega)
                    exact absurd n_1372 (by omega)
                  · have n_1372 : tb ≤ w1366 := n_nlt (a := w1366) (b := tb) c_1372 (by omega) (by omega)
                    rcases Nat.eq_zero_or_pos d1359 with hz9 | hz9
                    · have hz8 := hz9
                      refine lv_aload_n hx hb dX12_next_120 rfl (lv_at hl 0 rfl) ?_
                      refine lv_dup hx hb dX12_next_121 rfl ?_
                      refine hp_get hx hb hts ix12 hown hK hh (q := 0) rfl (hI.1 _ (by decide)) es1367 rfl 14 (by decide) (hts _ tw_893) (fun _ h9 => h9) rfl dX12_next_122 ?_
                      refine lv_iconst (v := 1) hx hb dX12_next_125 (by decide) ?_
                      refine lv_isub hx hb dX12_next_126 ?_
                      rw [show nI d1359 - (1 : Int32) = -1 from by rw [hz9]; decide]
                      refine hp_put hx hb hts ix12 tyX12 tyX12_ok nmX12 hown hK hh (q := 0) rfl (hI.1 _ (by decide)) es1367 rfl 14 (by decide) (hts _ tw_893) (fun _ h9 => h9) rfl (ty := .int) (by decide +kernel) rfl rfl (Nat.le_of_ble_eq_true rfl) dX12_next_127 (fun H locs en_1373 hen_1373 hh => ?_)
                      have es1370_1373 : en_1373 7 = .inl (cy 0, 13, .inl f_1370) := by rw [hen_1373, va_up_ne _ _ (by decide)]; exact es1370
                      have es1367_1373 : en_1373 0 = .inr (11, [.int fa_1367, .int hi_1367, .int (nI wd), .int (nI mo), .int (nI tb), .ref (ad 1), .ref (ad 2), .ref (ad 3), .ref (ad 4), .ref (ad 5), .ref (ad 6), .ref (ad 7), .ref (ad 8), .ref (ad 9), .int (-1), .long many_1367, .long grt_1367, .long lst_1367, .long nou_1367, .ref (ad 10), .ref (ad 11), .ref (ad 12), .int rm_1367, .long rb_1367, .ref (ad 13), .int pr_1367, .ref (ad 14), .ref (ad 15), .ref (ad 16), .ref (ad 17), .int (nI wo), .ref (ad 18), .ref (ad 19)]) := by rw [hen_1373]; exact va_up_self _ _ _
                      have hI_1373 : RX cy cs ad en_1373 := by rw [hen_1373]; exact upr_M hI_1366 ⟨fa_1367, hi_1367, wd, mo, tb, (-1), many_1367, grt_1367, lst_1367, nou_1367, rm_1367, rb_1367, pr_1367, wo, rfl, hwd2, hwd3, hmo, htb, hwo⟩
                      have hf_1373 : ∀ c, (c ≠ 0 ∧ c ≠ 6 ∧ c ≠ 7) → en_1373 c = en c := fun c hc => Eq.trans (show en_1373 c = en_1366 c from by rw [hen_1373, va_up_ne _ _ (by omega)]) (hf_1366 c hc)
                      have hkp_1373 : KP en en_1373 := KP_fv i4_1366 es1367 es1367_1373 hi_1367 (nI wd) (nI mo) (nI tb) pr_1367 (nI wo) rfl rfl rfl rfl rfl rfl rfl rfl rfl rfl rfl rfl
                      have hg7_1373 : ∀ i, rdF (en_1373 7) i = rdF (en_1366 7) i := fun i => by rw [hen_1373, va_up_ne _ _ (by decide)]
                      have ha_1373 : ∀ i, i < d1359 → rdF (en_1373 7) i = rdF (en_1359 7) i := fun i hi => (hg7_1373 i).trans (i2_1366 i hi)
                      have hwv_1373 : rdF (en_1373 7) d1359 = nI w1366 := (hg7_1373 d1359).trans i1_1366.1
                      refine lv_goto (tgt := 18) hx hb dX12_next_130 (by decide) ?_
                      refine lv_aload_n hx hb dX12_next_18 rfl (lv_at hl 0 rfl) ?_
                      refine hp_get hx hb hts ix12 hown hK hh (q := 0) rfl (hI.1 _ (by decide)) es1367_1373 rfl 14 (by decide) (hts _ tw_893) (fun _ h9 => h9) rfl dX12_next_19 ?_
                      refine lv_if_lt (tgt := 183) hx hb dX12_next_22 (by decide) (fun _ => ?_) (fun c_0 => absurd c_0 (by decide))
                      refine lv_iconst (v := 0) hx hb dX12_next_183 (by decide) ?_
                      exact hp_iretM hx hb hr rfl hlocks hh (⟨hI_1373, hf_1373, Or.inl rfl, hkp_1373⟩) dX12_next_184
                    · obtain ⟨v_1374, hv_1374, hve_1374⟩ := i1_1359.1 (d1359 - 1) (by omega)
                      refine lv_aload_n hx hb dX12_next_120 rfl (lv_at hl 0 rfl) ?_
                      refine lv_dup hx hb dX12_next_121 rfl ?_
                      refine hp_get hx hb hts ix12 hown hK hh (q := 0) rfl (hI.1 _ (by decide)) es1367 rfl 14 (by decide) (hts _ tw_893) (fun _ h9 => h9) rfl dX12_next_122 ?_
                      refine lv_iconst (v := 1) hx hb dX12_next_125 (by decide) ?_
                      refine lv_isub hx hb dX12_next_126 ?_
                      rw [show (1 : Int32) = nI 1 from rfl, pk_sub (a := d1359) (b := 1) (by omega)]
                      refine hp_put hx hb hts ix12 tyX12 tyX12_ok nmX12 hown hK hh (q := 0) rfl (hI.1 _ (by decide)) es1367 rfl 14 (by decide) (hts _ tw_893) (fun _ h9 => h9) rfl (ty := .int) (by decide +kernel) rfl rfl (Nat.le_of_ble_eq_true rfl) dX12_next_127 (fun H locs en_1375 hen_1375 hh => ?_)
                      have es1370_1375 : en_1375 7 = .inl (cy 0, 13, .inl f_1370) := by rw [hen_1375, va_up_ne _ _ (by decide)]; exact es1370
                      have es1367_1375 : en_1375 0 = .inr (11, [.int fa_1367, .int hi_1367, .int (nI wd), .int (nI mo), .int (nI tb), .ref (ad 1), .ref (ad 2), .ref (ad 3), .ref (ad 4), .ref (ad 5), .ref (ad 6), .ref (ad 7), .ref (ad 8), .ref (ad 9), .int (nI (d1359 - 1)), .long many_1367, .long grt_1367, .long lst_1367, .long nou_1367, .ref (ad 10), .ref (ad 11), .ref (ad 12), .int rm_1367, .long rb_1367, .ref (ad 13), .int pr_1367, .ref (ad 14), .ref (ad 15), .ref (ad 16), .ref (ad 17), .int (nI wo), .ref (ad 18), .ref (ad 19)]) := by rw [hen_1375]; exact va_up_self _ _ _
                      have hI_1375 : RX cy cs ad en_1375 := by rw [hen_1375]; exact upr_M hI_1366 ⟨fa_1367, hi_1367, wd, mo, tb, (nI (d1359 - 1)), many_1367, grt_1367, lst_1367, nou_1367, rm_1367, rb_1367, pr_1367, wo, rfl, hwd2, hwd3, hmo, htb, hwo⟩
                      have hf_1375 : ∀ c, (c ≠ 0 ∧ c ≠ 6 ∧ c ≠ 7) → en_1375 c = en c := fun c hc => Eq.trans (show en_1375 c = en_1366 c from by rw [hen_1375, va_up_ne _ _ (by omega)]) (hf_1366 c hc)
                      have hkp_1375 : KP en en_1375 := KP_fv i4_1366 es1367 es1367_1375 hi_1367 (nI wd) (nI mo) (nI tb) pr_1367 (nI wo) rfl rfl rfl rfl rfl rfl rfl rfl rfl rfl rfl rfl
                      have hg7_1375 : ∀ i, rdF (en_1375 7) i = rdF (en_1366 7) i := fun i => by rw [hen_1375, va_up_ne _ _ (by decide)]
                      have ha_1375 : ∀ i, i < d1359 → rdF (en_1375 7) i = rdF (en_1359 7) i := fun i hi => (hg7_1375 i).trans (i2_1366 i hi)
                      have hwv_1375 : rdF (en_1375 7) d1359 = nI w1366 := (hg7_1375 d1359).trans i1_1366.1
                      refine lv_goto (tgt := 18) hx hb dX12_next_130 (by decide) ?_
                      have hNB_1376 := NWp_back i1_1359 (by omega) (by omega) ha_1375 hv_1374 hve_1374
                      exact ih_1359 (mm1359 - 1) (d1359 - 1) (v_1374 + 1) en_1375 ls H locs (by omega) hI_1375 hf_1375 (⟨by rw [es1367_1375]; rfl, by omega⟩) (hNB_1376.1) (by have h1 := hNB_1376.2; have h2 := i2_1359; omega) (hkp_1375) (lv_sub hl [0, 1] rfl) hh
                · have n_1371 : w1366 < tb := n_nle (a := tb) (b := w1366) c_1371 (by omega) (by omega)
                  refine lv_aload_n hx hb dX12_next_54 rfl (lv_at hl 0 rfl) ?_
                  refine hp_get hx hb hts ix12 hown hK hh (q := 0) rfl (hI.1 _ (by decide)) es1367 rfl 14 (by decide) (hts _ tw_893) (fun _ h9 => h9) rfl dX12_next_55 ?_
                  refine lv_if_le (tgt := 104) hx hb dX12_next_58 (by decide) (fun c_1377 => ?_) (fun c_1377 => ?_)
                  · have n_1377 : d1359 ≤ 0 := n_le (a := d1359) (b := 0) c_1377 (by omega) (by decide)
                    refine lv_aload_n hx hb dX12_next_104 rfl (lv_at hl 0 rfl) ?_
                    refine hp_get hx hb hts ix12 hown hK hh (q := 0) rfl (hI.1 _ (by decide)) es1367 rfl 11 (by decide) (hts _ tw_890) (fun _ h9 => h9) rfl dX12_next_105 ?_
                    refine lv_aload_n hx hb dX12_next_108 rfl (lv_at hl 0 rfl) ?_
                    refine hp_get hx hb hts ix12 hown hK hh (q := 0) rfl (hI.1 _ (by decide)) es1367 rfl 14 (by decide) (hts _ tw_893) (fun _ h9 => h9) rfl dX12_next_109 ?_
                    refine hp_iald hx hb hK hh (q := 7) rfl (hI.1 _ (by decide)) es1370 (vp_in_nI (n := d1359) (by omega) (by decide)) dX12_next_112 ?_
                    rw [nI_clamp (n := d1359) (by omega)]
                    rw [show f_1370 d1359 = nI w1366 from (show f_1370 d1359 = rdF (en_1366 7) d1359 from by rw [es1370]; rfl).trans i1_1366.1]
                    refine lv_aload_n hx hb dX12_next_113 rfl (lv_at hl 0 rfl) ?_
                    refine hp_get hx hb hts ix12 hown hK hh (q := 0) rfl (hI.1 _ (by decide)) es1367 rfl 4 (by decide) (hts _ tw_883) (fun _ h9 => h9) rfl dX12_next_114 ?_
                    refine lv_icmp_lt (tgt := 133) hx hb dX12_next_117 (by decide) (fun c_1378 => ?_) (fun c_1378 => ?_)
                    · have n_1378 : w1366 < tb := n_lt (a := w1366) (b := tb) c_1378 (by omega) (by omega)
                      refine lv_aload_n hx hb dX12_next_133 rfl (lv_at hl 0 rfl) ?_
                      refine lv_aload_n hx hb dX12_next_134 rfl (lv_at hl 0 rfl) ?_
                      refine hp_get hx hb hts ix12 hown hK hh (q := 0) rfl (hI.1 _ (by decide)) es1367 rfl 14 (by decide) (hts _ tw_893) (fun _ h9 => h9) rfl dX12_next_135 ?_
                      refine lv_aload_n hx hb dX12_next_138 rfl (lv_at hl 0 rfl) ?_
                      refine hp_get hx hb hts ix12 hown hK hh (q := 0) rfl (hI.1 _ (by decide)) es1367 rfl 11 (by decide) (hts _ tw_890) (fun _ h9 => h9) rfl dX12_next_139 ?_
                      refine lv_aload_n hx hb dX12_next_142 rfl (lv_at hl 0 rfl) ?_
                      refine hp_get hx hb hts ix12 hown hK hh (q := 0) rfl (hI.1 _ (by decide)) es1367 rfl 14 (by decide) (hts _ tw_893) (fun _ h9 => h9) rfl dX12_next_143 ?_
                      refine hp_iald hx hb hK hh (q := 7) rfl (hI.1 _ (by decide)) es1370 (vp_in_nI (n := d1359) (by omega) (by decide)) dX12_next_146 ?_
                      rw [nI_clamp (n := d1359) (by omega)]
                      rw [show f_1370 d1359 = nI w1366 from (show f_1370 d1359 = rdF (en_1366 7) d1359 from by rw [es1370]; rfl).trans i1_1366.1]
                      refine hp_callMv (va_runV (As := [.int (nI d1359), .int (nI w1366)]) (rest := []) ⟨hx, hb, hml, hown, hts⟩ (c_X12_goOn l D cy _ cs ad en_1366 hI_1366 d1359 w1366 (by omega) (by omega)) (kw_X12_goOn hts tw_1050 ⟨by decide, by decide⟩) (preV_of hh hK (hI.1 _ (by decide)) es1367 rfl) rfl rfl hl.1 rfl (lv_room (Nat.le_of_ble_eq_true rfl)) dX12_next_147 ⟨Nat.le_of_ble_eq_true rfl, Nat.le_of_ble_eq_true rfl⟩) hh hA (fun H locs en_1379 hw_1379 hh => ?_)
                      obtain ⟨hI_1379, hu_1379⟩ := hw_1379
                      have es1367_1379 : en_1379 0 = .inr (11, [.int fa_1367, .int hi_1367, .int (nI wd), .int (nI mo), .int (nI tb), .ref (ad 1), .ref (ad 2), .ref (ad 3), .ref (ad 4), .ref (ad 5), .ref (ad 6), .ref (ad 7), .ref (ad 8), .ref (ad 9), .int (nI d1359), .long many_1367, .long grt_1367, .long lst_1367, .long nou_1367, .ref (ad 10), .ref (ad 11), .ref (ad 12), .int rm_1367, .long rb_1367, .ref (ad 13), .int pr_1367, .ref (ad 14), .ref (ad 15), .ref (ad 16), .ref (ad 17), .int (nI wo), .ref (ad 18), .ref (ad 19)]) := (hu_1379 0 (by omega)).trans es1367
                      have es1370_1379 : en_1379 7 = .inl (cy 0, 13, .inl f_1370) := (hu_1379 7 (by omega)).trans es1370
                      have hf_1379 : ∀ c, (c ≠ 0 ∧ c ≠ 6 ∧ c ≠ 7) → en_1379 c = en c := fun c hc => (hu_1379 c (by omega)).trans (hf_1366 c hc)
                      have hkp_1379 : KP en en_1379 := KP_same i4_1366 (hu_1379 0 (by omega))
                      have hg7_1379 : ∀ i, rdF (en_1379 7) i = rdF (en_1366 7) i := fun i => by rw [hu_1379 7 (by omega)]
                      have ha_1379 : ∀ i, i < d1359 → rdF (en_1379 7) i = rdF (en_1359 7) i := fun i hi => (hg7_1379 i).trans (i2_1366 i hi)
                      have hwv_1379 : rdF (en_1379 7) d1359 = nI w1366 := (hg7_1379 d1359).trans i1_1366.1
                      refine lv_aload_n hx hb dX12_next_150 rfl (lv_at hl 0 rfl) ?_
                      refine lv_dup hx hb dX12_next_151 rfl ?_
                      refine hp_get hx hb hts ix12 hown hK hh (q := 0) rfl (hI.1 _ (by decide)) es1367_1379 rfl 14 (by decide) (hts _ tw_893) (fun _ h9 => h9) rfl dX12_next_152 ?_
                      refine lv_iconst (v := 1) hx hb dX12_next_155 (by decide) ?_
                      refine lv_iadd hx hb dX12_next_156 ?_
                      rw [show (1 : Int32) = nI 1 from rfl, nI_add d1359 1]
                      refine hp_put hx hb hts ix12 tyX12 tyX12_ok nmX12 hown hK hh (q := 0) rfl (hI.1 _ (by decide)) es1367_1379 rfl 14 (by decide) (hts _ tw_893) (fun _ h9 => h9) rfl (ty := .int) (by decide +kernel) rfl rfl (Nat.le_of_ble_eq_true rfl) dX12_next_157 (fun H locs en_1380 hen_1380 hh => ?_)
                      have es1370_1380 : en_1380 7 = .inl (cy 0, 13, .inl f_1370) := by rw [hen_1380, va_up_ne _ _ (by decide)]; exact es1370_1379
                      have es1367_1380 : en_1380 0 = .inr (11, [.int fa_1367, .int hi_1367, .int (nI wd), .int (nI mo), .int (nI tb), .ref (ad 1), .ref (ad 2), .ref (ad 3), .ref (ad 4), .ref (ad 5), .ref (ad 6), .ref (ad 7), .ref (ad 8), .ref (ad 9), .int (nI (d1359 + 1)), .long many_1367, .long grt_1367, .long lst_1367, .long nou_1367, .ref (ad 10), .ref (ad 11), .ref (ad 12), .int rm_1367, .long rb_1367, .ref (ad 13), .int pr_1367, .ref (ad 14), .ref (ad 15), .ref (ad 16), .ref (ad 17), .int (nI wo), .ref (ad 18), .ref (ad 19)]) := by rw [hen_1380]; exact va_up_self _ _ _
                      have hI_1380 : RX cy cs ad en_1380 := by rw [hen_1380]; exact upr_M hI_1379 ⟨fa_1367, hi_1367, wd, mo, tb, (nI (d1359 + 1)), many_1367, grt_1367, lst_1367, nou_1367, rm_1367, rb_1367, pr_1367, wo, rfl, hwd2, hwd3, hmo, htb, hwo⟩
                      have hf_1380 : ∀ c, (c ≠ 0 ∧ c ≠ 6 ∧ c ≠ 7) → en_1380 c = en c := fun c hc => Eq.trans (show en_1380 c = en_1379 c from by rw [hen_1380, va_up_ne _ _ (by omega)]) (hf_1379 c hc)
                      have hkp_1380 : KP en en_1380 := KP_fv hkp_1379 es1367_1379 es1367_1380 hi_1367 (nI wd) (nI mo) (nI tb) pr_1367 (nI wo) rfl rfl rfl rfl rfl rfl rfl rfl rfl rfl rfl rfl
                      have hg7_1380 : ∀ i, rdF (en_1380 7) i = rdF (en_1379 7) i := fun i => by rw [hen_1380, va_up_ne _ _ (by decide)]
                      have ha_1380 : ∀ i, i < d1359 → rdF (en_1380 7) i = rdF (en_1359 7) i := fun i hi => (hg7_1380 i).trans (ha_1379 i hi)
                      have hwv_1380 : rdF (en_1380 7) d1359 = nI w1366 := (hg7_1380 d1359).trans hwv_1379
                      refine lv_aload_n hx hb dX12_next_160 rfl (lv_at hl 0 rfl) ?_
                      refine hp_get hx hb hts ix12 hown hK hh (q := 0) rfl (hI.1 _ (by decide)) es1367_1380 rfl 14 (by decide) (hts _ tw_893) (fun _ h9 => h9) rfl dX12_next_161 ?_
                      refine lv_iload_n hx hb dX12_next_164 rfl (lv_at hl 1 rfl) ?_
                      refine lv_icmp_ne (tgt := 170) hx hb dX12_next_165 (by decide) (fun c_1381 => ?_) (fun c_1381 => ?_)
                      · have n_1381 : (d1359 + 1) ≠ n := n_neq (a := (d1359 + 1)) (b := n) c_1381 (by omega) (by omega)
                        refine lv_aload_n hx hb dX12_next_170 rfl (lv_at hl 0 rfl) ?_
                        refine hp_get hx hb hts ix12 hown hK hh (q := 0) rfl (hI.1 _ (by decide)) es1367_1380 rfl 11 (by decide) (hts _ tw_890) (fun _ h9 => h9) rfl dX12_next_171 ?_
                        refine lv_aload_n hx hb dX12_next_174 rfl (lv_at hl 0 rfl) ?_
                        refine hp_get hx hb hts ix12 hown hK hh (q := 0) rfl (hI.1 _ (by decide)) es1367_1380 rfl 14 (by decide) (hts _ tw_893) (fun _ h9 => h9) rfl dX12_next_175 ?_
                        refine lv_iconst (v := (-1)) hx hb dX12_next_178 (by decide) ?_
                        refine hp_iast hx hb hK hh (q := 7) rfl (hI.1 _ (by decide)) es1370_1380 (vp_in_nI (n := (d1359 + 1)) (by omega) (by decide)) dX12_next_179 (fun H locs en_1382 hen_1382 hh => ?_)
                        rw [nI_clamp (n := (d1359 + 1)) (by omega)] at hen_1382
                        have es1367_1382 : en_1382 0 = .inr (11, [.int fa_1367, .int hi_1367, .int (nI wd), .int (nI mo), .int (nI tb), .ref (ad 1), .ref (ad 2), .ref (ad 3), .ref (ad 4), .ref (ad 5), .ref (ad 6), .ref (ad 7), .ref (ad 8), .ref (ad 9), .int (nI (d1359 + 1)), .long many_1367, .long grt_1367, .long lst_1367, .long nou_1367, .ref (ad 10), .ref (ad 11), .ref (ad 12), .int rm_1367, .long rb_1367, .ref (ad 13), .int pr_1367, .ref (ad 14), .ref (ad 15), .ref (ad 16), .ref (ad 17), .int (nI wo), .ref (ad 18), .ref (ad 19)]) := by rw [hen_1382, va_up_ne _ _ (by decide)]; exact es1367_1380
                        have es1370_1382 : en_1382 7 = .inl (cy 0, 13, .inl (upd f_1370 (d1359 + 1) (-1))) := by rw [hen_1382]; exact va_up_self _ _ _
                        have hI_1382 : RX cy cs ad en_1382 := by rw [hen_1382]; exact upr_nw hI_1380 ⟨(upd f_1370 (d1359 + 1) (-1)), rfl⟩
                        have hf_1382 : ∀ c, (c ≠ 0 ∧ c ≠ 6 ∧ c ≠ 7) → en_1382 c = en c := fun c hc => Eq.trans (show en_1382 c = en_1380 c from by rw [hen_1382, va_up_ne _ _ (by omega)]) (hf_1380 c hc)
                        have hkp_1382 : KP en en_1382 := KP_same hkp_1380 (show en_1382 0 = en_1380 0 from by rw [hen_1382, va_up_ne _ _ (by decide)])
                        have hno_1382 : ∀ i, i ≠ (d1359 + 1) → rdF (en_1382 7) i = rdF (en_1380 7) i := fun i hi => by rw [es1370_1382, es1370_1380]; exact pk_un hi
                        have hnv_1382 : rdF (en_1382 7) (d1359 + 1) = (-1) := by rw [es1370_1382]; exact pk_us
                        have ha_1382 : ∀ i, i < d1359 → rdF (en_1382 7) i = rdF (en_1359 7) i := fun i hi => (hno_1382 i (by omega)).trans (ha_1380 i hi)
                        have hwv_1382 : rdF (en_1382 7) d1359 = nI w1366 := (hno_1382 d1359 (by omega)).trans hwv_1380
                        refine lv_goto (tgt := 18) hx hb dX12_next_180 (by decide) ?_
                        have hNB_1383 := NWp_desc i1_1359 (by omega) ha_1382 hwv_1382 (by omega) (by omega) hnv_1382
                        exact ih_1359 (mm1359 - 1) (d1359 + 1) 0 en_1382 ls H locs (by omega) hI_1382 hf_1382 (⟨by rw [es1367_1382]; rfl, by omega⟩) (hNB_1383.1) (by have h1 := hNB_1383.2; have h2 := i2_1359; omega) (hkp_1382) (lv_sub hl [0, 1] rfl) hh
                      · have n_1381 : (d1359 + 1) = n := n_eq (a := (d1359 + 1)) (b := n) c_1381 (by omega) (by omega)
                        refine lv_iconst (v := 1) hx hb dX12_next_168 (by decide) ?_
                        have hNR_1384 := NWp_ret i1_1359 ha_1380 hwv_1380 (by omega) (by omega)
                        have hdn_1384 : n - 1 = d1359 := by omega
                        exact hp_iretM hx hb hr rfl hlocks hh (⟨hI_1380, hf_1380, Or.inr ⟨rfl, w1366 + 1, ⟨by omega, Or.inr ⟨by rw [es1367_1380]; exact congrArg nI (by omega), by omega⟩, by rw [hdn_1384]; exact hNR_1384.1⟩, by omega, by have h1 := hNR_1384.2; have h2 := i2_1359.2; rw [hdn_1384]; omega⟩, hkp_1380⟩) dX12_next_169
                    · have n_1378 : tb ≤ w1366 := n_nlt (a := w1366) (b := tb) c_1378 (by omega) (by omega)
                      exact absurd n_1378 (by omega)
                  · have n_1377 : 0 < d1359 := n_nle (a := d1359) (b := 0) c_1377 (by omega) (by decide)
                    refine lv_aload_n hx hb dX12_next_61 rfl (lv_at hl 0 rfl) ?_
                    refine lv_aload_n hx hb dX12_next_62 rfl (lv_at hl 0 rfl) ?_
                    refine hp_get hx hb hts ix12 hown hK hh (q := 0) rfl (hI.1 _ (by decide)) es1367 rfl 11 (by decide) (hts _ tw_890) (fun _ h9 => h9) rfl dX12_next_63 ?_
                    refine lv_aload_n hx hb dX12_next_66 rfl (lv_at hl 0 rfl) ?_
                    refine hp_get hx hb hts ix12 hown hK hh (q := 0) rfl (hI.1 _ (by decide)) es1367 rfl 14 (by decide) (hts _ tw_893) (fun _ h9 => h9) rfl dX12_next_67 ?_
                    refine lv_iconst (v := 1) hx hb dX12_next_70 (by decide) ?_
                    refine lv_isub hx hb dX12_next_71 ?_
                    rw [show (1 : Int32) = nI 1 from rfl, pk_sub (a := d1359) (b := 1) (by omega)]
                    refine hp_iald hx hb hK hh (q := 7) rfl (hI.1 _ (by decide)) es1370 (vp_in_nI (n := (d1359 - 1)) (by omega) (by decide)) dX12_next_72 ?_
                    rw [nI_clamp (n := (d1359 - 1)) (by omega)]
                    obtain ⟨v_1385, hv_1385, hve_1385⟩ := i1_1359.1 (d1359 - 1) (by omega)
                    rw [show f_1370 (d1359 - 1) = nI v_1385 from (show f_1370 (d1359 - 1) = rdF (en_1366 7) (d1359 - 1) from by rw [es1370]; rfl).trans ((i2_1366 (d1359 - 1) (by omega)).trans hve_1385)]
                    refine lv_aload_n hx hb dX12_next_73 rfl (lv_at hl 0 rfl) ?_
                    refine hp_get hx hb hts ix12 hown hK hh (q := 0) rfl (hI.1 _ (by decide)) es1367 rfl 11 (by decide) (hts _ tw_890) (fun _ h9 => h9) rfl dX12_next_74 ?_
                    refine lv_aload_n hx hb dX12_next_77 rfl (lv_at hl 0 rfl) ?_
                    refine hp_get hx hb hts ix12 hown hK hh (q := 0) rfl (hI.1 _ (by decide)) es1367 rfl 14 (by decide) (hts _ tw_893) (fun _ h9 => h9) rfl dX12_next_78 ?_
                    refine hp_iald hx hb hK hh (q := 7) rfl (hI.1 _ (by decide)) es1370 (vp_in_nI (n := d1359) (by omega) (by decide)) dX12_next_81 ?_
                    rw [nI_clamp (n := d1359) (by omega)]
                    rw [show f_1370 d1359 = nI w1366 from (show f_1370 d1359 = rdF (en_1366 7) d1359 from by rw [es1370]; rfl).trans i1_1366.1]
                    refine hp_callRi (va_runV (As := [.int (nI v_1385), .int (nI w1366)]) (rest := []) ⟨hx, hb, hml, hown, hts⟩ (c_X12_mayFollow l D cy _ cs ad en_1366 hI_1366 v_1385 w1366 (by omega) (by omega)) (kw_X12_mayFollow hts tw_1029 ⟨by decide, by decide⟩) (preV_of hh hK (hI.1 _ (by decide)) es1367 rfl) rfl rfl hl.1 rfl (lv_room (Nat.le_of_ble_eq_true rfl)) dX12_next_82 ⟨Nat.le_of_ble_eq_true rfl, Nat.le_of_ble_eq_true rfl⟩) hh hA (fun r_1386 H locs hw_1386 hh => ?_)
                    rcases Decidable.em (rdF (en_1366 2) (6 * v_1385 + w1366) = 0) with hp_1386 | hp_1386
                    · obtain rfl : r_1386 = 1 := Eq.trans hw_1386 (if_pos hp_1386)
                      refine lv_if_ne (tgt := 104) hx hb dX12_next_85 (by decide) (fun _ => ?_) (fun c_0 => absurd c_0 (by decide))
                      refine lv_aload_n hx hb dX12_next_104 rfl (lv_at hl 0 rfl) ?_
                      refine hp_get hx hb hts ix12 hown hK hh (q := 0) rfl (hI.1 _ (by decide)) es1367 rfl 11 (by decide) (hts _ tw_890) (fun _ h9 => h9) rfl dX12_next_105 ?_
                      refine lv_aload_n hx hb dX12_next_108 rfl (lv_at hl 0 rfl) ?_
                      refine hp_get hx hb hts ix12 hown hK hh (q := 0) rfl (hI.1 _ (by decide)) es1367 rfl 14 (by decide) (hts _ tw_893) (fun _ h9 => h9) rfl dX12_next_109 ?_
                      refine hp_iald hx hb hK hh (q := 7) rfl (hI.1 _ (by decide)) es1370 (vp_in_nI (n := d1359) (by omega) (by decide)) dX12_next_112 ?_
                      rw [nI_clamp (n := d1359) (by omega)]
                      rw [show f_1370 d1359 = nI w1366 from (show f_1370 d1359 = rdF (en_1366 7) d1359 from by rw [es1370]; rfl).trans i1_1366.1]
                      refine lv_aload_n hx hb dX12_next_113 rfl (lv_at hl 0 rfl) ?_
                      refine hp_get hx hb hts ix12 hown hK hh (q := 0) rfl (hI.1 _ (by decide)) es1367 rfl 4 (by decide) (hts _ tw_883) (fun _ h9 => h9) rfl dX12_next_114 ?_
                      refine lv_icmp_lt (tgt := 133) hx hb dX12_next_117 (by decide) (fun c_1387 => ?_) (fun c_1387 => ?_)
                      · have n_1387 : w1366 < tb := n_lt (a := w1366) (b := tb) c_1387 (by omega) (by omega)
                        refine lv_aload_n hx hb dX12_next_133 rfl (lv_at hl 0 rfl) ?_
                        refine lv_aload_n hx hb dX12_next_134 rfl (lv_at hl 0 rfl) ?_
                        refine hp_get hx hb hts ix12 hown hK hh (q := 0) rfl (hI.1 _ (by decide)) es1367 rfl 14 (by decide) (hts _ tw_893) (fun _ h9 => h9) rfl dX12_next_135 ?_
                        refine lv_aload_n hx hb dX12_next_138 rfl (lv_at hl 0 rfl) ?_
                        refine hp_get hx hb hts ix12 hown hK hh (q := 0) rfl (hI.1 _ (by decide)) es1367 rfl 11 (by decide) (hts _ tw_890) (fun _ h9 => h9) rfl dX12_next_139 ?_
                        refine lv_aload_n hx hb dX12_next_142 rfl (lv_at hl 0 rfl) ?_
                        refine hp_get hx hb hts ix12 hown hK hh (q := 0) rfl (hI.1 _ (by decide)) es1367 rfl 14 (by decide) (hts _ tw_893) (fun _ h9 => h9) rfl dX12_next_143 ?_
                        refine hp_iald hx hb hK hh (q := 7) rfl (hI.1 _ (by decide)) es1370 (vp_in_nI (n := d1359) (by omega) (by decide)) dX12_next_146 ?_
                        rw [nI_clamp (n := d1359) (by omega)]
                        rw [show f_1370 d1359 = nI w1366 from (show f_1370 d1359 = rdF (en_1366 7) d1359 from by rw [es1370]; rfl).trans i1_1366.1]
                        refine hp_callMv (va_runV (As := [.int (nI d1359), .int (nI w1366)]) (rest := []) ⟨hx, hb, hml, hown, hts⟩ (c_X12_goOn l D cy _ cs ad en_1366 hI_1366 d1359 w1366 (by omega) (by omega)) (kw_X12_goOn hts tw_1050 ⟨by decide, by decide⟩) (preV_of hh hK (hI.1 _ (by decide)) es1367 rfl) rfl rfl hl.1 rfl (lv_room (Nat.le_of_ble_eq_true rfl)) dX12_next_147 ⟨Nat.le_of_ble_eq_true rfl, Nat.le_of_ble_eq_true rfl⟩) hh hA (fun H locs en_1388 hw_1388 hh => ?_)
                        obtain ⟨hI_1388, hu_1388⟩ := hw_1388
                        have es1367_1388 : en_1388 0 = .inr (11, [.int fa_1367, .int hi_1367, .int (nI wd), .int (nI mo), .int (nI tb), .ref (ad 1), .ref (ad 2), .ref (ad 3), .ref (ad 4), .ref (ad 5), .ref (ad 6), .ref (ad 7), .ref (ad 8), .ref (ad 9), .int (nI d1359), .long many_1367, .long grt_1367, .long lst_1367, .long nou_1367, .ref (ad 10), .ref (ad 11), .ref (ad 12), .int rm_1367, .long rb_1367, .ref (ad 13), .int pr_1367, .ref (ad 14), .ref (ad 15), .ref (ad 16), .ref (ad 17), .int (nI wo), .ref (ad 18), .ref (ad 19)]) := (hu_1388 0 (by omega)).trans es1367
                        have es1370_1388 : en_1388 7 = .inl (cy 0, 13, .inl f_1370) := (hu_1388 7 (by omega)).trans es1370
                        have hf_1388 : ∀ c, (c ≠ 0 ∧ c ≠ 6 ∧ c ≠ 7) → en_1388 c = en c := fun c hc => (hu_1388 c (by omega)).trans (hf_1366 c hc)
                        have hkp_1388 : KP en en_1388 := KP_same i4_1366 (hu_1388 0 (by omega))
                        have hg7_1388 : ∀ i, rdF (en_1388 7) i = rdF (en_1366 7) i := fun i => by rw [hu_1388 7 (by omega)]
                        have ha_1388 : ∀ i, i < d1359 → rdF (en_1388 7) i = rdF (en_1359 7) i := fun i hi => (hg7_1388 i).trans (i2_1366 i hi)
                        have hwv_1388 : rdF (en_1388 7) d1359 = nI w1366 := (hg7_1388 d1359).trans i1_1366.1
                        refine lv_aload_n hx hb dX12_next_150 rfl (lv_at hl 0 rfl) ?_
                        refine lv_dup hx hb dX12_next_151 rfl ?_
                        refine hp_get hx hb hts ix12 hown hK hh (q := 0) rfl (hI.1 _ (by decide)) es1367_1388 rfl 14 (by decide) (hts _ tw_893) (fun _ h9 => h9) rfl dX12_next_152 ?_
                        refine lv_iconst (v := 1) hx hb dX12_next_155 (by decide) ?_
                        refine lv_iadd hx hb dX12_next_156 ?_
                        rw [show (1 : Int32) = nI 1 from rfl, nI_add d1359 1]
                        refine hp_put hx hb hts ix12 tyX12 tyX12_ok nmX12 hown hK hh (q := 0) rfl (hI.1 _ (by decide)) es1367_1388 rfl 14 (by decide) (hts _ tw_893) (fun _ h9 => h9) rfl (ty := .int) (by decide +kernel) rfl rfl (Nat.le_of_ble_eq_true rfl) dX12_next_157 (fun H locs en_1389 hen_1389 hh => ?_)
                        have es1370_1389 : en_1389 7 = .inl (cy 0, 13, .inl f_1370) := by rw [hen_1389, va_up_ne _ _ (by decide)]; exact es1370_1388
                        have es1367_1389 : en_1389 0 = .inr (11, [.int fa_1367, .int hi_1367, .int (nI wd), .int (nI mo), .int (nI tb), .ref (ad 1), .ref (ad 2), .ref (ad 3), .ref (ad 4), .ref (ad 5), .ref (ad 6), .ref (ad 7), .ref (ad 8), .ref (ad 9), .int (nI (d1359 + 1)), .long many_1367, .long grt_1367, .long lst_1367, .long nou_1367, .ref (ad 10), .ref (ad 11), .ref (ad 12), .int rm_1367, .long rb_1367, .ref (ad 13), .int pr_1367, .ref (ad 14), .ref (ad 15), .ref (ad 16), .ref (ad 17), .int (nI wo), .ref (ad 18), .ref (ad 19)]) := by rw [hen_1389]; exact va_up_self _ _ _
                        have hI_1389 : RX cy cs ad en_1389 := by rw [hen_1389]; exact upr_M hI_1388 ⟨fa_1367, hi_1367, wd, mo, tb, (nI (d1359 + 1)), many_1367, grt_1367, lst_1367, nou_1367, rm_1367, rb_1367, pr_1367, wo, rfl, hwd2, hwd3, hmo, htb, hwo⟩
                        have hf_1389 : ∀ c, (c ≠ 0 ∧ c ≠ 6 ∧ c ≠ 7) → en_1389 c = en c := fun c hc => Eq.trans (show en_1389 c = en_1388 c from by rw [hen_1389, va_up_ne _ _ (by omega)]) (hf_1388 c hc)
                        have hkp_1389 : KP en en_1389 := KP_fv hkp_1388 es1367_1388 es1367_1389 hi_1367 (nI wd) (nI mo) (nI tb) pr_1367 (nI wo) rfl rfl rfl rfl rfl rfl rfl rfl rfl rfl rfl rfl
                        have hg7_1389 : ∀ i, rdF (en_1389 7) i = rdF (en_1388 7) i := fun i => by rw [hen_1389, va_up_ne _ _ (by decide)]
                        have ha_1389 : ∀ i, i < d1359 → rdF (en_1389 7) i = rdF (en_1359 7) i := fun i hi => (hg7_1389 i).trans (ha_1388 i hi)
                        have hwv_1389 : rdF (en_1389 7) d1359 = nI w1366 := (hg7_1389 d1359).trans hwv_1388
                        refine lv_aload_n hx hb dX12_next_160 rfl (lv_at hl 0 rfl) ?_
                        refine hp_get hx hb hts ix12 hown hK hh (q := 0) rfl (hI.1 _ (by decide)) es1367_1389 rfl 14 (by decide) (hts _ tw_893) (fun _ h9 => h9) rfl dX12_next_161 ?_
                        refine lv_iload_n hx hb dX12_next_164 rfl (lv_at hl 1 rfl) ?_
                        refine lv_icmp_ne (tgt := 170) hx hb dX12_next_165 (by decide) (fun c_1390 => ?_) (fun c_1390 => ?_)
                        · have n_1390 : (d1359 + 1) ≠ n := n_neq (a := (d1359 + 1)) (b := n) c_1390 (by omega) (by omega)
                          refine lv_aload_n hx hb dX12_next_170 rfl (lv_at hl 0 rfl) ?_
                          refine hp_get hx hb hts ix12 hown hK hh (q := 0) rfl (hI.1 _ (by decide)) es1367_1389 rfl 11 (by decide) (hts _ tw_890) (fun _ h9 => h9) rfl dX12_next_171 ?_
                          refine lv_aload_n hx hb dX12_next_174 rfl (lv_at hl 0 rfl) ?_
                          refine hp_get hx hb hts ix12 hown hK hh (q := 0) rfl (hI.1 _ (by decide)) es1367_1389 rfl 14 (by decide) (hts _ tw_893) (fun _ h9 => h9) rfl dX12_next_175 ?_
                          refine lv_iconst (v := (-1)) hx hb dX12_next_178 (by decide) ?_
                          refine hp_iast hx hb hK hh (q := 7) rfl (hI.1 _ (by decide)) es1370_1389 (vp_in_nI (n := (d1359 + 1)) (by omega) (by decide)) dX12_next_179 (fun H locs en_1391 hen_1391 hh => ?_)
                          rw [nI_clamp (n := (d1359 + 1)) (by omega)] at hen_1391
                          have es1367_1391 : en_1391 0 = .inr (11, [.int fa_1367, .int hi_1367, .int (nI wd), .int (nI mo), .int (nI tb), .ref (ad 1), .ref (ad 2), .ref (ad 3), .ref (ad 4), .ref (ad 5), .ref (ad 6), .ref (ad 7), .ref (ad 8), .ref (ad 9), .int (nI (d1359 + 1)), .long many_1367, .long grt_1367, .long lst_1367, .long nou_1367, .ref (ad 10), .ref (ad 11), .ref (ad 12), .int rm_1367, .long rb_1367, .ref (ad 13), .int pr_1367, .ref (ad 14), .ref (ad 15), .ref (ad 16), .ref (ad 17), .int (nI wo), .ref (ad 18), .ref (ad 19)]) := by rw [hen_1391, va_up_ne _ _ (by decide)]; exact es1367_1389
                          have es1370_1391 : en_1391 7 = .inl (cy 0, 13, .inl (upd f_1370 (d1359 + 1) (-1))) := by rw [hen_1391]; exact va_up_self _ _ _
                          have hI_1391 : RX cy cs ad en_1391 := by rw [hen_1391]; exact upr_nw hI_1389 ⟨(upd f_1370 (d1359 + 1) (-1)), rfl⟩
                          have hf_1391 : ∀ c, (c ≠ 0 ∧ c ≠ 6 ∧ c ≠ 7) → en_1391 c = en c := fun c hc => Eq.trans (show en_1391 c = en_1389 c from by rw [hen_1391, va_up_ne _ _ (by omega)]) (hf_1389 c hc)
                          have hkp_1391 : KP en en_1391 := KP_same hkp_1389 (show en_1391 0 = en_1389 0 from by rw [hen_1391, va_up_ne _ _ (by decide)])
                          have hno_1391 : ∀ i, i ≠ (d1359 + 1) → rdF (en_1391 7) i = rdF (en_1389 7) i := fun i hi => by rw [es1370_1391, es1370_1389]; exact pk_un hi
                          have hnv_1391 : rdF (en_1391 7) (d1359 + 1) = (-1) := by rw [es1370_1391]; exact pk_us
                          have ha_1391 : ∀ i, i < d1359 → rdF (en_1391 7) i = rdF (en_1359 7) i := fun i hi => (hno_1391 i (by omega)).trans (ha_1389 i hi)
                          have hwv_1391 : rdF (en_1391 7) d1359 = nI w1366 := (hno_1391 d1359 (by omega)).trans hwv_1389
                          refine lv_goto (tgt := 18) hx hb dX12_next_180 (by decide) ?_
                          have hNB_1392 := NWp_desc i1_1359 (by omega) ha_1391 hwv_1391 (by omega) (by omega) hnv_1391
                          exact ih_1359 (mm1359 - 1) (d1359 + 1) 0 en_1391 ls H locs (by omega) hI_1391 hf_1391 (⟨by rw [es1367_1391]; rfl, by omega⟩) (hNB_1392.1) (by have h1 := hNB_1392.2; have h2 := i2_1359; omega) (hkp_1391) (lv_sub hl [0, 1] rfl) hh
                        · have n_1390 : (d1359 + 1) = n := n_eq (a := (d1359 + 1)) (b := n) c_1390 (by omega) (by omega)
                          refine lv_iconst (v := 1) hx hb dX12_next_168 (by decide) ?_
                          have hNR_1393 := NWp_ret i1_1359 ha_1389 hwv_1389 (by omega) (by omega)
                          have hdn_1393 : n - 1 = d1359 := by omega
                          exact hp_iretM hx hb hr rfl hlocks hh (⟨hI_1389, hf_1389, Or.inr ⟨rfl, w1366 + 1, ⟨by omega, Or.inr ⟨by rw [es1367_1389]; exact congrArg nI (by omega), by omega⟩, by rw [hdn_1393]; exact hNR_1393.1⟩, by omega, by have h1 := hNR_1393.2; have h2 := i2_1359.2; rw [hdn_1393]; omega⟩, hkp_1389⟩) dX12_next_169
                      · have n_1387 : tb ≤ w1366 := n_nlt (a := w1366) (b := tb) c_1387 (by omega) (by omega)
                        exact absurd n_1387 (by omega)
                    · obtain rfl : r_1386 = 0 := Eq.trans hw_1386 (if_neg hp_1386)
                      refine lv_if_ne (tgt := 104) hx hb dX12_next_85 (by decide) (fun c_0 => absurd c_0 (by decide)) (fun _ => ?_)
                      refine lv_aload_n hx hb dX12_next_88 rfl (lv_at hl 0 rfl) ?_
                      refine hp_get hx hb hts ix12 hown hK hh (q := 0) rfl (hI.1 _ (by decide)) es1367 rfl 11 (by decide) (hts _ tw_890) (fun _ h9 => h9) rfl dX12_next_89 ?_
                      refine lv_aload_n hx hb dX12_next_92 rfl (lv_at hl 0 rfl) ?_
                      refine hp_get hx hb hts ix12 hown hK hh (q := 0) rfl (hI.1 _ (by decide)) es1367 rfl 14 (by decide) (hts _ tw_893) (fun _ h9 => h9) rfl dX12_next_93 ?_
                      refine lv_dup2_11 hx hb dX12_next_96 rfl rfl ?_
                      refine hp_iald hx hb hK hh (q := 7) rfl (hI.1 _ (by decide)) es1370 (vp_in_nI (n := d1359) (by omega) (by decide)) dX12_next_97 ?_
                      rw [nI_clamp (n := d1359) (by omega)]
                      rw [show f_1370 d1359 = nI w1366 from (show f_1370 d1359 = rdF (en_1366 7) d1359 from by rw [es1370]; rfl).trans i1_1366.1]
                      refine lv_iconst (v := 1) hx hb dX12_next_98 (by decide) ?_
                      refine lv_iadd hx hb dX12_next_99 ?_
                      rw [show (1 : Int32) = nI 1 from rfl, nI_add w1366 1]
                      refine hp_iast hx hb hK hh (q := 7) rfl (hI.1 _ (by decide)) es1370 (vp_in_nI (n := d1359) (by omega) (by decide)) dX12_next_100 (fun H locs en_1394 hen_1394 hh => ?_)
                      rw [nI_clamp (n := d1359) (by omega)] at hen_1394
                      have es1367_1394 : en_1394 0 = .inr (11, [.int fa_1367, .int hi_1367, .int (nI wd), .int (nI mo), .int (nI tb), .ref (ad 1), .ref (ad 2), .ref (ad 3), .ref (ad 4), .ref (ad 5), .ref (ad 6), .ref (ad 7), .ref (ad 8), .ref (ad 9), .int (nI d1359), .long many_1367, .long grt_1367, .long lst_1367, .long nou_1367, .ref (ad 10), .ref (ad 11), .ref (ad 12), .int rm_1367, .long rb_1367, .ref (ad 13), .int pr_1367, .ref (ad 14), .ref (ad 15), .ref (ad 16), .ref (ad 17), .int (nI wo), .ref (ad 18), .ref (ad 19)]) := by rw [hen_1394, va_up_ne _ _ (by decide)]; exact es1367
                      have es1370_1394 : en_1394 7 = .inl (cy 0, 13, .inl (upd f_1370 d1359 (nI (w1366 + 1)))) := by rw [hen_1394]; exact va_up_self _ _ _
                      have hI_1394 : RX cy cs ad en_1394 := by rw [hen_1394]; exact upr_nw hI_1366 ⟨(upd f_1370 d1359 (nI (w1366 + 1))), rfl⟩
                      have hf_1394 : ∀ c, (c ≠ 0 ∧ c ≠ 6 ∧ c ≠ 7) → en_1394 c = en c := fun c hc => Eq.trans (show en_1394 c = en_1366 c from by rw [hen_1394, va_up_ne _ _ (by omega)]) (hf_1366 c hc)
                      have hkp_1394 : KP en en_1394 := KP_same i4_1366 (show en_1394 0 = en_1366 0 from by rw [hen_1394, va_up_ne _ _ (by decide)])
                      have hno_1394 : ∀ i, i ≠ d1359 → rdF (en_1394 7) i = rdF (en_1366 7) i := fun i hi => by rw [es1370_1394, es1370]; exact pk_un hi
                      have hnv_1394 : rdF (en_1394 7) d1359 = (nI (w1366 + 1)) := by rw [es1370_1394]; exact pk_us
                      refine lv_goto (tgt := 38) hx hb dX12_next_101 (by decide) ?_
                      exact ih_1366 (mm1366 - 1) (w1366 + 1) en_1394 ls H locs (by omega) hI_1394 hf_1394 (by rw [es1367_1394]; rfl) (⟨hnv_1394, by omega, by omega⟩) (fun i hi => (hno_1394 i (by omega)).trans (i2_1366 i hi)) (by omega) (hkp_1394) (lv_sub hl [0, 1] rfl) hh
            exact loop_1366 (7 + 1) 7 u1359 en_1365 ls _ _ (by omega) hI_1365 hf_1365 (by rw [es1360_1365]; rfl) (⟨hnv_1365, by omega, i1_1359.2.2⟩) (fun i hi => hno_1365 i (by omega)) (by omega) (hkp_1365) (lv_sub hl [0, 1] rfl) hh
      exact loop_1359 (134217728 + 1) 134217728 d u en_1357 ls _ _ (by omega) hI_1357 hf_1357 (⟨by rw [es1318_1357]; exact congrArg nI (by omega), by omega⟩) ((by rw [show en_1357 7 = en 7 from by rw [hen_1357, va_up_ne _ _ (by decide)]]; exact hd3)) (⟨by omega, Nat.le_of_eq (by rw [show en_1357 7 = en 7 from by rw [hen_1357, va_up_ne _ _ (by decide)]])⟩) (hkp_1357) (lv_sub hl [0, 1] rfl) hh
theorem kw_X12_next {R : Room} {s : State} {args : Array Value} {own : String} {idx : Nat} (hts : ∀ w ∈ TB, w.before args s = true) (hl : Cond.methodLink own idx yX12_next ∈ TB) (hR : 2 + 1 ≤ R.frames ∧ 8 + (2 + 11) + 40 * 2 ≤ R.locals) : CallW R s args own RX12 idx yX12_next cX12_next 2 (some .boolean) (Cond.code yX12_next cX12_next 2 (some .boolean) :: TB) (rmN 2) 0 0 1 := cwV 1 hts (TB_V hl tw_1048 ts_40 tw_9 tw_1049) rfl rfl rfl (by decide +kernel) hR
