set_option maxHeartbeats 4000000 in
set_option maxRecDepth 100000 in
/-- beginWords -/
theorem c_X12_beginWords (l : Launch) (D : va_G) (cy : Nat → ClassId) (sz : Nat) (cs : List Nat) (ad : Nat → Nat) (en : Nat → va_E) (hI : RX cy cs ad en)    : Met l yX12_beginWords (Cond.code yX12_beginWords cX12_beginWords 1 none :: TB) (rmN 1) (va_Pc [.ref (ad 0)] (Pre D cy cs ad en sz)) (va_Qv (S := Nat → va_E) (fun en1 => RX cy cs ad en1 ∧ (∀ c, (c ≠ 0 ∧ c ≠ 6 ∧ c ≠ 7) → en1 c = en c) ∧ rdI (en1 0) 14 = nI 0 ∧ rdF (en1 7) 0 = -1 ∧ KP en en1) (PostM D cs ad) (Af cs ad sz)) 0 0 (Af cs ad sz) := by
  refine Met.ofW (cc := cX12_beginWords) (maxL := 1) (ret := none) (by decide) rfl ?_
  intro p e s m args below meth c s₁ B hml hv
  obtain ⟨rfl, hsz, hP, hK, hD0⟩ := hv
  have hx := B.exec
  have hb := B.bytes
  have hr := B.returns
  have hts : ∀ w ∈ TB, w.before _ s = true := fun w h => atoms_spec (ws := _ :: TB) B.pre w (List.mem_cons_of_mem _ h)
  have hown : s.vm.findClass RX12 = some m.cls := findClass_of_methodNamed B.named
  have hlocks := B.notSynchronized
  have hh : Hp D (Af cs ad sz) (Af cs ad sz) s.heap s.heap [] cs ad en := ⟨hP, Af_self hD0, va_S.rf⟩
  have hA : ∀ q : Nat, s.heap.size ≤ q → Af cs ad sz q := fun q h => Or.inr (by rw [hsz] at h; exact h)
  have hl := lv_entry ([.ref (ad 0)]) (n := 1) (Nat.le_of_ble_eq_true rfl)
  rw [lg_entry_eq]
  generalize (lg_sl ([.ref (ad 0)]) ++ List.replicate (1 - (lg_sl ([.ref (ad 0)])).length) Slot.unset).toArray = ls at hl ⊢
  have hl : lv_has ls 1 [(0, .ref (ad 0))] := hl
  have hf0 : ∀ c, (c ≠ 0 ∧ c ≠ 6 ∧ c ≠ 7) → en c = en c := fun _ _ => rfl
  obtain ⟨fa, hi, wd, mo, tb, dp, many, grt, lst, nou, rm, rb, pr, wo, es1310, hwd2, hwd3, hmo, htb, hwo⟩ := getr_M hI
  refine lv_aload_n hx hb dX12_beginWords_0 rfl (lv_at hl 0 rfl) ?_
  refine hp_callMv (va_runV (As := []) (rest := []) ⟨hx, hb, hml, hown, hts⟩ (c_X12_beginLevels l D cy _ cs ad en hI  ) (kw_X12_beginLevels hts tw_1042 ⟨by decide, by decide⟩) (preV_of hh hK (hI.1 _ (by decide)) es1310 rfl) rfl rfl hl.1 rfl (lv_room (Nat.le_of_ble_eq_true rfl)) dX12_beginWords_1 ⟨Nat.le_of_ble_eq_true rfl, Nat.le_of_ble_eq_true rfl⟩) hh hA (fun H locs en_1311 hw_1311 hh => ?_)
  obtain ⟨hI_1311, hu_1311, hx_1311⟩ := hw_1311
  have es1310_1311 : en_1311 0 = .inr (11, [.int fa, .int hi, .int (nI wd), .int (nI mo), .int (nI tb), .ref (ad 1), .ref (ad 2), .ref (ad 3), .ref (ad 4), .ref (ad 5), .ref (ad 6), .ref (ad 7), .ref (ad 8), .ref (ad 9), .int dp, .long many, .long grt, .long lst, .long nou, .ref (ad 10), .ref (ad 11), .ref (ad 12), .int rm, .long rb, .ref (ad 13), .int pr, .ref (ad 14), .ref (ad 15), .ref (ad 16), .ref (ad 17), .int (nI wo), .ref (ad 18), .ref (ad 19)]) := (hu_1311 0 (by omega)).trans es1310
  have hf_1311 : ∀ c, (c ≠ 0 ∧ c ≠ 6 ∧ c ≠ 7) → en_1311 c = en c := fun c hc => (hu_1311 c (by omega)).trans (hf0 c hc)
  have hkp_1311 : KP en en_1311 := KP_same (KP_rf en) (hu_1311 0 (by omega))
  refine lv_aload_n hx hb dX12_beginWords_4 rfl (lv_at hl 0 rfl) ?_
  refine lv_iconst (v := 0) hx hb dX12_beginWords_5 (by decide) ?_
  refine hp_put hx hb hts ix12 tyX12 tyX12_ok nmX12 hown hK hh (q := 0) rfl (hI.1 _ (by decide)) es1310_1311 rfl 14 (by decide) (hts _ tw_893) (fun _ h9 => h9) rfl (ty := .int) (by decide +kernel) rfl rfl (Nat.le_of_ble_eq_true rfl) dX12_beginWords_6 (fun H locs en_1312 hen_1312 hh => ?_)
  have es1310_1312 : en_1312 0 = .inr (11, [.int fa, .int hi, .int (nI wd), .int (nI mo), .int (nI tb), .ref (ad 1), .ref (ad 2), .ref (ad 3), .ref (ad 4), .ref (ad 5), .ref (ad 6), .ref (ad 7), .ref (ad 8), .ref (ad 9), .int 0, .long many, .long grt, .long lst, .long nou, .ref (ad 10), .ref (ad 11), .ref (ad 12), .int rm, .long rb, .ref (ad 13), .int pr, .ref (ad 14), .ref (ad 15), .ref (ad 16), .ref (ad 17), .int (nI wo), .ref (ad 18), .ref (ad 19)]) := by rw [hen_1312]; exact va_up_self _ _ _
  have hI_1312 : RX cy cs ad en_1312 := by rw [hen_1312]; exact upr_M hI_1311 ⟨fa, hi, wd, mo, tb, 0, many, grt, lst, nou, rm, rb, pr, wo, rfl, hwd2, hwd3, hmo, htb, hwo⟩
  have hf_1312 : ∀ c, (c ≠ 0 ∧ c ≠ 6 ∧ c ≠ 7) → en_1312 c = en c := fun c hc => Eq.trans (show en_1312 c = en_1311 c from by rw [hen_1312, va_up_ne _ _ (by omega)]) (hf_1311 c hc)
  have hkp_1312 : KP en en_1312 := KP_fv hkp_1311 es1310_1311 es1310_1312 hi (nI wd) (nI mo) (nI tb) pr (nI wo) rfl rfl rfl rfl rfl rfl rfl rfl rfl rfl rfl rfl
  refine lv_aload_n hx hb dX12_beginWords_9 rfl (lv_at hl 0 rfl) ?_
  refine hp_get hx hb hts ix12 hown hK hh (q := 0) rfl (hI.1 _ (by decide)) es1310_1312 rfl 11 (by decide) (hts _ tw_890) (fun _ h9 => h9) rfl dX12_beginWords_10 ?_
  refine lv_iconst (v := 0) hx hb dX12_beginWords_13 (by decide) ?_
  refine lv_iconst (v := (-1)) hx hb dX12_beginWords_14 (by decide) ?_
  obtain ⟨f_1313, es1313⟩ := getr_nw hI_1312
  rw [show (0 : Int32) = nI 0 from rfl]
  refine hp_iast hx hb hK hh (q := 7) rfl (hI.1 _ (by decide)) es1313 (vp_in_nI (n := 0) (by decide) (by decide)) dX12_beginWords_15 (fun H locs en_1314 hen_1314 hh => ?_)
  rw [nI_clamp (n := 0) (by decide)] at hen_1314
  have es1310_1314 : en_1314 0 = .inr (11, [.int fa, .int hi, .int (nI wd), .int (nI mo), .int (nI tb), .ref (ad 1), .ref (ad 2), .ref (ad 3), .ref (ad 4), .ref (ad 5), .ref (ad 6), .ref (ad 7), .ref (ad 8), .ref (ad 9), .int 0, .long many, .long grt, .long lst, .long nou, .ref (ad 10), .ref (ad 11), .ref (ad 12), .int rm, .long rb, .ref (ad 13), .int pr, .ref (ad 14), .ref (ad 15), .ref (ad 16), .ref (ad 17), .int (nI wo), .ref (ad 18), .ref (ad 19)]) := by rw [hen_1314, va_up_ne _ _ (by decide)]; exact es1310_1312
  have es1313_1314 : en_1314 7 = .inl (cy 0, 13, .inl (upd f_1313 0 (-1))) := by rw [hen_1314]; exact va_up_self _ _ _
  have hI_1314 : RX cy cs ad en_1314 := by rw [hen_1314]; exact upr_nw hI_1312 ⟨(upd f_1313 0 (-1)), rfl⟩
  have hf_1314 : ∀ c, (c ≠ 0 ∧ c ≠ 6 ∧ c ≠ 7) → en_1314 c = en c := fun c hc => Eq.trans (show en_1314 c = en_1312 c from by rw [hen_1314, va_up_ne _ _ (by omega)]) (hf_1312 c hc)
  have hkp_1314 : KP en en_1314 := KP_same hkp_1312 (show en_1314 0 = en_1312 0 from by rw [hen_1314, va_up_ne _ _ (by decide)])
  exact hp_vretM hx hb hr hlocks hh (⟨hI_1314, hf_1314, (by rw [es1310_1314]; rfl), (by rw [es1313_1314]; exact pk_us), hkp_1314⟩) dX12_beginWords_16
theorem kw_X12_beginWords {R : Room} {s : State} {args : Array Value} {own : String} {idx : Nat} (hts : ∀ w ∈ TB, w.before args s = true) (hl : Cond.methodLink own idx yX12_beginWords ∈ TB) (hR : 1 + 1 ≤ R.frames ∧ 8 + (1 + 11) + 40 * 1 ≤ R.locals) : CallW R s args own RX12 idx yX12_beginWords cX12_beginWords 1 none (Cond.code yX12_beginWords cX12_beginWords 1 none :: TB) (rmN 1) 0 0 0 := cwV 0 hts (TB_V hl tw_1040 ts_38 tw_9 tw_1041) rfl rfl rfl (by decide +kernel) hR
set_option maxHeartbeats 4000000 in
set_option maxRecDepth 100000 in
/-- next -/
theorem c_X12_next (l : Launch) (D : va_G) (cy : Nat → ClassId) (sz : Nat) (cs : List Nat) (ad : Nat → Nat) (en : Nat → va_E) (hI : RX cy cs ad en) (n : Nat) (hn1 : 1 ≤ n) (hn8 : n ≤ 8) (d u : Nat) (hND : ND en n d u)   : Met l yX12_next (Cond.code yX12_next cX12_next 2 (some .boolean) :: TB) (rmN 2) (va_Pc [.ref (ad 0), .int (nI n)] (Pre D cy cs ad en sz)) (va_Qi (S := Nat → va_E) (fun r en1 => RX cy cs ad en1 ∧ (∀ c, (c ≠ 0 ∧ c ≠ 6 ∧ c ≠ 7) → en1 c = en c) ∧ (r = 0 ∨ (r = 1 ∧ ∃ u1, ND en1 n (n - 1) u1 ∧ 1 ≤ u1 ∧ nmv (rdF (en 7)) d u < nmv (rdF (en1 7)) (n - 1) u1)) ∧ KP en en1) (PostM D cs ad) (Af cs ad sz)) 0 0 (Af cs ad sz) := by
  refine Met.ofW (cc := cX12_next) (maxL := 2) (ret := (some .boolean)) (by decide) rfl ?_
  intro p e s m args below meth c s₁ B hml hv
  obtain ⟨rfl, hsz, hP, hK, hD0⟩ := hv
  have hx := B.exec
  have hb := B.bytes
  have hr := B.returns
  have hts : ∀ w ∈ TB, w.before _ s = true := fun w h => atoms_spec (ws := _ :: TB) B.pre w (List.mem_cons_of_mem _ h)
  have hown : s.vm.findClass RX12 = some m.cls := findClass_of_methodNamed B.named
  have hlocks := B.notSynchronized
  have hh : Hp D (Af cs ad sz) (Af cs ad sz) s.heap s.heap [] cs ad en := ⟨hP, Af_self hD0, va_S.rf⟩
  have hA : ∀ q : Nat, s.heap.size ≤ q → Af cs ad sz q := fun q h => Or.inr (by rw [hsz] at h; exact h)
  have hl := lv_entry ([.ref (ad 0), .int (nI n)]) (n := 2) (Nat.le_of_ble_eq_true rfl)
  rw [lg_entry_eq]
  generalize (lg_sl ([.ref (ad 0), .int (nI n)]) ++ List.replicate (2 - (lg_sl ([.ref (ad 0), .int (nI n)])).length) Slot.unset).toArray = ls at hl ⊢
  have hl : lv_has ls 2 [(0, .ref (ad 0)), (1, .int (nI n))] := hl
  have hf0 : ∀ c, (c ≠ 0 ∧ c ≠ 6 ∧ c ≠ 7) → en c = en c := fun _ _ => rfl
  obtain ⟨fa, hi, wd, mo, tb, dp, many, grt, lst, nou, rm, rb, pr, wo, es1315, hwd2, hwd3, hmo, htb, hwo⟩ := getr_M hI
  obtain ⟨hd1, hd2, hd3⟩ := hND
  rcases hd2 with hd2 | ⟨hd2, hd4⟩
  · have hdp : dp = nI d := (show dp = rdI (en 0) 14 from by rw [es1315]; rfl).trans hd2
    rw [hdp] at es1315
    refine lv_aload_n hx hb dX12_next_0 rfl (lv_at hl 0 rfl) ?_
    refine hp_get hx hb hts ix12 hown hK hh (q := 0) rfl (hI.1 _ (by decide)) es1315 rfl 14 (by decide) (hts _ tw_893) (fun _ h9 => h9) rfl dX12_next_1 ?_
    refine lv_iload_n hx hb dX12_next_4 rfl (lv_at hl 1 rfl) ?_
    refine lv_icmp_ne (tgt := 18) hx hb dX12_next_5 (by decide) (fun c_1316 => ?_) (fun c_1316 => ?_)
    · have n_1316 : d ≠ n := n_neq (a := d) (b := n) c_1316 (by omega) (by omega)
      have loop_1317 : ∀ (fu mm1317 : Nat)  (d1317 : Nat) (u1317 : Nat) (en_1317 : Nat → va_E) (ls : Array Slot) (H : Heap) (locs : List Loc), mm1317 < fu → RX cy cs ad en_1317 → (∀ c, (c ≠ 0 ∧ c ≠ 6 ∧ c ≠ 7) → en_1317 c = en c) → (rdI (en_1317 0) 14 = nI d1317 ∧ d1317 < n) → (NWp (rdF (en_1317 7)) d1317 u1317) → (134217728 ≤ nmv (rdF (en_1317 7)) d1317 u1317 + mm1317 ∧ nmv (rdF (en 7)) d u ≤ nmv (rdF (en_1317 7)) d1317 u1317) → (KP en en_1317) → lv_has ls 2 [(0, .ref (ad 0)), (1, .int (nI n))] → Hp D (Af cs ad sz) (Af cs ad sz) s.heap H locs cs ad en_1317 → W p l e (headSpec (Cond.code yX12_next cX12_next 2 (some .boolean) :: TB) (rmN 2)).room s m ([.ref (ad 0), .int (nI n)] : List Value).toArray below meth c H locs 0 0 (MQ below (va_Qi (S := Nat → va_E) (fun r en1 => RX cy cs ad en1 ∧ (∀ c, (c ≠ 0 ∧ c ≠ 6 ∧ c ≠ 7) → en1 c = en c) ∧ (r = 0 ∨ (r = 1 ∧ ∃ u1, ND en1 n (n - 1) u1 ∧ 1 ≤ u1 ∧ nmv (rdF (en 7)) d u < nmv (rdF (en1 7)) (n - 1) u1)) ∧ KP en en1) (PostM D cs ad) (Af cs ad sz)) ([.ref (ad 0), .int (nI n)] : List Value).toArray s 0 0 (Af cs ad sz)) (F0 m 18 ls []) := by
        intro fu
        induction fu with
        | zero => intro mm1317 d1317 u1317 en_1317 ls H locs h2; exact absurd h2 (by omega)
        | succ fu ih_1317 =>
          intro mm1317 d1317 u1317 en_1317 ls H locs hmm_1317 hI_1317 hf_1317 i0_1317 i1_1317 i2_1317 i3_1317 hl hh
          have hlt_1317 := nmv_lt i1_1317 (by omega)
          refine lv_aload_n hx hb dX12_next_18 rfl (lv_at hl 0 rfl) ?_
          obtain ⟨fa_1318, hi_1318, wd_1318, mo_1318, tb_1318, dp_1318, many_1318, grt_1318, lst_1318, nou_1318, rm_1318, rb_1318, pr_1318, wo_1318, es1318, p0_1318, p1_1318, p2_1318, p3_1318, p4_1318⟩ := getr_M hI_1317
          have hq2_1319 : wd_1318 = wd := n_eq ((show nI wd_1318 = rdI (en_1317 0) 2 from by rw [es1318]; rfl).trans (i3_1317.2.1.trans (show rdI (en 0) 2 = nI wd from by rw [es1315]; rfl))) (by omega) (by omega)
          have hq3_1319 : mo_1318 = mo := n_eq ((show nI mo_1318 = rdI (en_1317 0) 3 from by rw [es1318]; rfl).trans (i3_1317.2.2.1.trans (show rdI (en 0) 3 = nI mo from by rw [es1315]; rfl))) (by omega) (by omega)
          have hq4_1319 : tb_1318 = tb := n_eq ((show nI tb_1318 = rdI (en_1317 0) 4 from by rw [es1318]; rfl).trans (i3_1317.2.2.2.1.trans (show rdI (en 0) 4 = nI tb from by rw [es1315]; rfl))) (by omega) (by omega)
          have hq30_1319 : wo_1318 = wo := n_eq ((show nI wo_1318 = rdI (en_1317 0) 30 from by rw [es1318]; rfl).trans (i3_1317.2.2.2.2.2.trans (show rdI (en 0) 30 = nI wo from by rw [es1315]; rfl))) (by omega) (by omega)
          rw [hq2_1319, hq3_1319, hq4_1319, hq30_1319] at es1318
          have hdp_1320 : dp_1318 = nI d1317 := (show dp_1318 = rdI (en_1317 0) 14 from by rw [es1318]; rfl).trans (i0_1317.1)
          rw [hdp_1320] at es1318
          refine hp_get hx hb hts ix12 hown hK hh (q := 0) rfl (hI.1 _ (by decide)) es1318 rfl 14 (by decide) (hts _ tw_893) (fun _ h9 => h9) rfl dX12_next_19 ?_
          refine lv_if_lt (tgt := 183) hx hb dX12_next_22 (by decide) (fun c_1321 => ?_) (fun c_1321 => ?_)
          · have n_1321 : d1317 < 0 := n_lt (a := d1317) (b := 0) c_1321 (by omega) (by decide)
            exact absurd n_1321 (by omega)
          · have n_1321 : 0 ≤ d1317 := n_nlt (a := d1317) (b := 0) c_1321 (by omega) (by decide)
            refine lv_aload_n hx hb dX12_next_25 rfl (lv_at hl 0 rfl) ?_
            refine hp_get hx hb hts ix12 hown hK hh (q := 0) rfl (hI.1 _ (by decide)) es1318 rfl 11 (by decide) (hts _ tw_890) (fun _ h9 => h9) rfl dX12_next_26 ?_
            refine lv_aload_n hx hb dX12_next_29 rfl (lv_at hl 0 rfl) ?_
            refine hp_get hx hb hts ix12 hown hK hh (q := 0) rfl (hI.1 _ (by decide)) es1318 rfl 14 (by decide) (hts _ tw_893) (fun _ h9 => h9) rfl dX12_next_30 ?_
            refine lv_dup2_11 hx hb dX12_next_33 rfl rfl ?_
            obtain ⟨f_1322, es1322⟩ := getr_nw hI_1317
            refine hp_iald hx hb hK hh (q := 7) rfl (hI.1 _ (by decide)) es1322 (vp_in_nI (n := d1317) (by omega) (by decide)) dX12_next_34 ?_
            rw [nI_clamp (n := d1317) (by omega)]
            refine lv_iconst (v := 1) hx hb dX12_next_35 (by decide) ?_
            refine lv_iadd hx hb dX12_next_36 ?_
            rw [show f_1322 d1317 + 1 = nI u1317 from (show f_1322 d1317 + 1 = rdF (en_1317 7) d1317 + 1 from by rw [es1322]; rfl).trans i1_1317.2.1]
            refine hp_iast hx hb hK hh (q := 7) rfl (hI.1 _ (by decide)) es1322 (vp_in_nI (n := d1317) (by omega) (by decide)) dX12_next_37 (fun H locs en_1323 hen_1323 hh => ?_)
            rw [nI_clamp (n := d1317) (by omega)] at hen_1323
            have es1318_1323 : en_1323 0 = .inr (11, [.int fa_1318, .int hi_1318, .int (nI wd), .int (nI mo), .int (nI tb), .ref (ad 1), .ref (ad 2), .ref (ad 3), .ref (ad 4), .ref (ad 5), .ref (ad 6), .ref (ad 7), .ref (ad 8), .ref (ad 9), .int (nI d1317), .long many_1318, .long grt_1318, .long lst_1318, .long nou_1318, .ref (ad 10), .ref (ad 11), .ref (ad 12), .int rm_1318, .long rb_1318, .ref (ad 13), .int pr_1318, .ref (ad 14), .ref (ad 15), .ref (ad 16), .ref (ad 17), .int (nI wo), .ref (ad 18), .ref (ad 19)]) := by rw [hen_1323, va_up_ne _ _ (by decide)]; exact es1318
            have es1322_1323 : en_1323 7 = .inl (cy 0, 13, .inl (upd f_1322 d1317 (nI u1317))) := by rw [hen_1323]; exact va_up_self _ _ _
            have hI_1323 : RX cy cs ad en_1323 := by rw [hen_1323]; exact upr_nw hI_1317 ⟨(upd f_1322 d1317 (nI u1317)), rfl⟩
            have hf_1323 : ∀ c, (c ≠ 0 ∧ c ≠ 6 ∧ c ≠ 7) → en_1323 c = en c := fun c hc => Eq.trans (show en_1323 c = en_1317 c from by rw [hen_1323, va_up_ne _ _ (by omega)]) (hf_1317 c hc)
            have hkp_1323 : KP en en_1323 := KP_same i3_1317 (show en_1323 0 = en_1317 0 from by rw [hen_1323, va_up_ne _ _ (by decide)])
            have hno_1323 : ∀ i, i ≠ d1317 → rdF (en_1323 7) i = rdF (en_1317 7) i := fun i hi => by rw [es1322_1323, es1322]; exact pk_un hi
            have hnv_1323 : rdF (en_1323 7) d1317 = (nI u1317) := by rw [es1322_1323]; exact pk_us
            have loop_1324 : ∀ (fu mm1324 : Nat)  (w1324 : Nat) (en_1324 : Nat → va_E) (ls : Array Slot) (H : Heap) (locs : List Loc), mm1324 < fu → RX cy cs ad en_1324 → (∀ c, (c ≠ 0 ∧ c ≠ 6 ∧ c ≠ 7) → en_1324 c = en c) → (rdI (en_1324 0) 14 = nI d1317) → (rdF (en_1324 7) d1317 = nI w1324 ∧ u1317 ≤ w1324 ∧ w1324 ≤ 6) → (∀ i, i < d1317 → rdF (en_1324 7) i = rdF (en_1317 7) i) → (7 ≤ w1324 + mm1324) → (KP en en_1324) → lv_has ls 2 [(0, .ref (ad 0)), (1, .int (nI n))] → Hp D (Af cs ad sz) (Af cs ad sz) s.heap H locs cs ad en_1324 → W p l e (headSpec (Cond.code yX12_next cX12_next 2 (some .boolean) :: TB) (rmN 2)).room s m ([.ref (ad 0), .int (nI n)] : List Value).toArray below meth c H locs 0 0 (MQ below (va_Qi (S := Nat → va_E) (fun r en1 => RX cy cs ad en1 ∧ (∀ c, (c ≠ 0 ∧ c ≠ 6 ∧ c ≠ 7) → en1 c = en c) ∧ (r = 0 ∨ (r = 1 ∧ ∃ u1, ND en1 n (n - 1) u1 ∧ 1 ≤ u1 ∧ nmv (rdF (en 7)) d u < nmv (rdF (en1 7)) (n - 1) u1)) ∧ KP en en1) (PostM D cs ad) (Af cs ad sz)) ([.ref (ad 0), .int (nI n)] : List Value).toArray s 0 0 (Af cs ad sz)) (F0 m 38 ls []) := by
              intro fu
              induction fu with
              | zero => intro mm1324 w1324 en_1324 ls H locs h2; exact absurd h2 (by omega)
              | succ fu ih_1324 =>
                intro mm1324 w1324 en_1324 ls H locs hmm_1324 hI_1324 hf_1324 i0_1324 i1_1324 i2_1324 i3_1324 i4_1324 hl hh
                refine lv_aload_n hx hb dX12_next_38 rfl (lv_at hl 0 rfl) ?_
                obtain ⟨fa_1325, hi_1325, wd_1325, mo_1325, tb_1325, dp_1325, many_1325, grt_1325, lst_1325, nou_1325, rm_1325, rb_1325, pr_1325, wo_1325, es1325, p0_1325, p1_1325, p2_1325, p3_1325, p4_1325⟩ := getr_M hI_1324
                have hq2_1326 : wd_1325 = wd := n_eq ((show nI wd_1325 = rdI (en_1324 0) 2 from by rw [es1325]; rfl).trans (i4_1324.2.1.trans (show rdI (en 0) 2 = nI wd from by rw [es1315]; rfl))) (by omega) (by omega)
                have hq3_1326 : mo_1325 = mo := n_eq ((show nI mo_1325 = rdI (en_1324 0) 3 from by rw [es1325]; rfl).trans (i4_1324.2.2.1.trans (show rdI (en 0) 3 = nI mo from by rw [es1315]; rfl))) (by omega) (by omega)
                have hq4_1326 : tb_1325 = tb := n_eq ((show nI tb_1325 = rdI (en_1324 0) 4 from by rw [es1325]; rfl).trans (i4_1324.2.2.2.1.trans (show rdI (en 0) 4 = nI tb from by rw [es1315]; rfl))) (by omega) (by omega)
                have hq30_1326 : wo_1325 = wo := n_eq ((show nI wo_1325 = rdI (en_1324 0) 30 from by rw [es1325]; rfl).trans (i4_1324.2.2.2.2.2.trans (show rdI (en 0) 30 = nI wo from by rw [es1315]; rfl))) (by omega) (by omega)
                rw [hq2_1326, hq3_1326, hq4_1326, hq30_1326] at es1325
                have hdp_1327 : dp_1325 = nI d1317 := (show dp_1325 = rdI (en_1324 0) 14 from by rw [es1325]; rfl).trans (i0_1324)
                rw [hdp_1327] at es1325
                refine hp_get hx hb hts ix12 hown hK hh (q := 0) rfl (hI.1 _ (by decide)) es1325 rfl 11 (by decide) (hts _ tw_890) (fun _ h9 => h9) rfl dX12_next_39 ?_
                refine lv_aload_n hx hb dX12_next_42 rfl (lv_at hl 0 rfl) ?_
                refine hp_get hx hb hts ix12 hown hK hh (q := 0) rfl (hI.1 _ (by decide)) es1325 rfl 14 (by decide) (hts _ tw_893) (fun _ h9 => h9) rfl dX12_next_43 ?_
                obtain ⟨f_1328, es1328⟩ := getr_nw hI_1324
                refine hp_iald hx hb hK hh (q := 7) rfl (hI.1 _ (by decide)) es1328 (vp_in_nI (n := d1317) (by omega) (by decide)) dX12_next_46 ?_
                rw [nI_clamp (n := d1317) (by omega)]
                rw [show f_1328 d1317 = nI w1324 from (show f_1328 d1317 = rdF (en_1324 7) d1317 from by rw [es1328]; rfl).trans i1_1324.1]
                refine lv_aload_n hx hb dX12_next_47 rfl (lv_at hl 0 rfl) ?_
                refine hp_get hx hb hts ix12 hown hK hh (q := 0) rfl (hI.1 _ (by decide)) es1325 rfl 4 (by decide) (hts _ tw_883) (fun _ h9 => h9) rfl dX12_next_48 ?_
                refine lv_icmp_ge (tgt := 104) hx hb dX12_next_51 (by decide) (fun c_1329 => ?_) (fun c_1329 => ?_)
                · have n_1329 : tb ≤ w1324 := n_le (a := tb) (b := w1324) c_1329 (by omega) (by omega)
                  refine lv_aload_n hx hb dX12_next_104 rfl (lv_at hl 0 rfl) ?_
                  refine hp_get hx hb hts ix12 hown hK hh (q := 0) rfl (hI.1 _ (by decide)) es1325 rfl 11 (by decide) (hts _ tw_890) (fun _ h9 => h9) rfl dX12_next_105 ?_
                  refine lv_aload_n hx hb dX12_next_108 rfl (lv_at hl 0 rfl) ?_
                  refine hp_get hx hb hts ix12 hown hK hh (q := 0) rfl (hI.1 _ (by decide)) es1325 rfl 14 (by decide) (hts _ tw_893) (fun _ h9 => h9) rfl dX12_next_109 ?_
                  refine hp_iald hx hb hK hh (q := 7) rfl (hI.1 _ (by decide)) es1328 (vp_in_nI (n := d1317) (by omega) (by decide)) dX12_next_112 ?_
                  rw [nI_clamp (n := d1317) (by omega)]
                  rw [show f_1328 d1317 = nI w1324 from (show f_1328 d1317 = rdF (en_1324 7) d1317 from by rw [es1328]; rfl).trans i1_1324.1]
                  refine lv_aload_n hx hb dX12_next_113 rfl (lv_at hl 0 rfl) ?_
                  refine hp_get hx hb hts ix12 hown hK hh (q := 0) rfl (hI.1 _ (by decide)) es1325 rfl 4 (by decide) (hts _ tw_883) (fun _ h9 => h9) rfl dX12_next_114 ?_
                  refine lv_icmp_lt (tgt := 133) hx hb dX12_next_117 (by decide) (fun c_1330 => ?_) (fun c_1330 => ?_)
                  · have n_1330 : w1324 < tb := n_lt (a := w1324) (b := tb) c_1330 (by omega) (by omega)
                    exact absurd n_1330 (by omega)
                  · have n_1330 : tb ≤ w1324 := n_nlt (a := w1324) (b := tb) c_1330 (by omega) (by omega)
                    rcases Nat.eq_zero_or_pos d1317 with hz9 | hz9
                    · have hz8 := hz9
                      refine lv_aload_n hx hb dX12_next_120 rfl (lv_at hl 0 rfl) ?_
                      refine lv_dup hx hb dX12_next_121 rfl ?_
                      refine hp_get hx hb hts ix12 hown hK hh (q := 0) rfl (hI.1 _ (by decide)) es1325 rfl 14 (by decide) (hts _ tw_893) (fun _ h9 => h9) rfl dX12_next_122 ?_
                      refine lv_iconst (v := 1) hx hb dX12_next_125 (by decide) ?_
                      refine lv_isub hx hb dX12_next_126 ?_
                      rw [show nI d1317 - (1 : Int32) = -1 from by rw [hz9]; decide]
                      refine hp_put hx hb hts ix12 tyX12 tyX12_ok nmX12 hown hK hh (q := 0) rfl (hI.1 _ (by decide)) es1325 rfl 14 (by decide) (hts _ tw_893) (fun _ h9 => h9) rfl (ty := .int) (by decide +kernel) rfl rfl (Nat.le_of_ble_eq_true rfl) dX12_next_127 (fun H locs en_1331 hen_1331 hh => ?_)
                      have es1328_1331 : en_1331 7 = .inl (cy 0, 13, .inl f_1328) := by rw [hen_1331, va_up_ne _ _ (by decide)]; exact es1328
                      have es1325_1331 : en_1331 0 = .inr (11, [.int fa_1325, .int hi_1325, .int (nI wd), .int (nI mo), .int (nI tb), .ref (ad 1), .ref (ad 2), .ref (ad 3), .ref (ad 4), .ref (ad 5), .ref (ad 6), .ref (ad 7), .ref (ad 8), .ref (ad 9), .int (-1), .long many_1325, .long grt_1325, .long lst_1325, .long nou_1325, .ref (ad 10), .ref (ad 11), .ref (ad 12), .int rm_1325, .long rb_1325, .ref (ad 13), .int pr_1325, .ref (ad 14), .ref (ad 15), .ref (ad 16), .ref (ad 17), .int (nI wo), .ref (ad 18), .ref (ad 19)]) := by rw [hen_1331]; exact va_up_self _ _ _
                      have hI_1331 : RX cy cs ad en_1331 := by rw [hen_1331]; exact upr_M hI_1324 ⟨fa_1325, hi_1325, wd, mo, tb, (-1), many_1325, grt_1325, lst_1325, nou_1325, rm_1325, rb_1325, pr_1325, wo, rfl, hwd2, hwd3, hmo, htb, hwo⟩
                      have hf_1331 : ∀ c, (c ≠ 0 ∧ c ≠ 6 ∧ c ≠ 7) → en_1331 c = en c := fun c hc => Eq.trans (show en_1331 c = en_1324 c from by rw [hen_1331, va_up_ne _ _ (by omega)]) (hf_1324 c hc)
                      have hkp_1331 : KP en en_1331 := KP_fv i4_1324 es1325 es1325_1331 hi_1325 (nI wd) (nI mo) (nI tb) pr_1325 (nI wo) rfl rfl rfl rfl rfl rfl rfl rfl rfl rfl rfl rfl
                      have hg7_1331 : ∀ i, rdF (en_1331 7) i = rdF (en_1324 7) i := fun i => by rw [hen_1331, va_up_ne _ _ (by decide)]
                      have ha_1331 : ∀ i, i < d1317 → rdF (en_1331 7) i = rdF (en_1317 7) i := fun i hi => (hg7_1331 i).trans (i2_1324 i hi)
                      have hwv_1331 : rdF (en_1331 7) d1317 = nI w1324 := (hg7_1331 d1317).trans i1_1324.1
                      refine lv_goto (tgt := 18) hx hb dX12_next_130 (by decide) ?_
                      refine lv_aload_n hx hb dX12_next_18 rfl (lv_at hl 0 rfl) ?_
                      refine hp_get hx hb hts ix12 hown hK hh (q := 0) rfl (hI.1 _ (by decide)) es1325_1331 rfl 14 (by decide) (hts _ tw_893) (fun _ h9 => h9) rfl dX12_next_19 ?_
                      refine lv_if_lt (tgt := 183) hx hb dX12_next_22 (by decide) (fun _ => ?_) (fun c_0 => absurd c_0 (by decide))
                      refine lv_iconst (v := 0) hx hb dX12_next_183 (by decide) ?_
                      exact hp_iretM hx hb hr rfl hlocks hh (⟨hI_1331, hf_1331, Or.inl rfl, hkp_1331⟩) dX12_next_184
                    · obtain ⟨v_1332, hv_1332, hve_1332⟩ := i1_1317.1 (d1317 - 1) (by omega)
                      refine lv_aload_n hx hb dX12_next_120 rfl (lv_at hl 0 rfl) ?_
                      refine lv_dup hx hb dX12_next_121 rfl ?_
                      refine hp_get hx hb hts ix12 hown hK hh (q := 0) rfl (hI.1 _ (by decide)) es1325 rfl 14 (by decide) (hts _ tw_893) (fun _ h9 => h9) rfl dX12_next_122 ?_
                      refine lv_iconst (v := 1) hx hb dX12_next_125 (by decide) ?_
                      refine lv_isub hx hb dX12_next_126 ?_
                      rw [show (1 : Int32) = nI 1 from rfl, pk_sub (a := d1317) (b := 1) (by omega)]
                      refine hp_put hx hb hts ix12 tyX12 tyX12_ok nmX12 hown hK hh (q := 0) rfl (hI.1 _ (by decide)) es1325 rfl 14 (by decide) (hts _ tw_893) (fun _ h9 => h9) rfl (ty := .int) (by decide +kernel) rfl rfl (Nat.le_of_ble_eq_true rfl) dX12_next_127 (fun H locs en_1333 hen_1333 hh => ?_)
                      have es1328_1333 : en_1333 7 = .inl (cy 0, 13, .inl f_1328) := by rw [hen_1333, va_up_ne _ _ (by decide)]; exact es1328
                      have es1325_1333 : en_1333 0 = .inr (11, [.int fa_1325, .int hi_1325, .int (nI wd), .int (nI mo), .int (nI tb), .ref (ad 1), .ref (ad 2), .ref (ad 3), .ref (ad 4), .ref (ad 5), .ref (ad 6), .ref (ad 7), .ref (ad 8), .ref (ad 9), .int (nI (d1317 - 1)), .long many_1325, .long grt_1325, .long lst_1325, .long nou_1325, .ref (ad 10), .ref (ad 11), .ref (ad 12), .int rm_1325, .long rb_1325, .ref (ad 13), .int pr_1325, .ref (ad 14), .ref (ad 15), .ref (ad 16), .ref (ad 17), .int (nI wo), .ref (ad 18), .ref (ad 19)]) := by rw [hen_1333]; exact va_up_self _ _ _
                      have hI_1333 : RX cy cs ad en_1333 := by rw [hen_1333]; exact upr_M hI_1324 ⟨fa_1325, hi_1325, wd, mo, tb, (nI (d1317 - 1)), many_1325, grt_1325, lst_1325, nou_1325, rm_1325, rb_1325, pr_1325, wo, rfl, hwd2, hwd3, hmo, htb, hwo⟩
                      have hf_1333 : ∀ c, (c ≠ 0 ∧ c ≠ 6 ∧ c ≠ 7) → en_1333 c = en c := fun c hc => Eq.trans (show en_1333 c = en_1324 c from by rw [hen_1333, va_up_ne _ _ (by omega)]) (hf_1324 c hc)
                      have hkp_1333 : KP en en_1333 := KP_fv i4_1324 es1325 es1325_1333 hi_1325 (nI wd) (nI mo) (nI tb) pr_1325 (nI wo) rfl rfl rfl rfl rfl rfl rfl rfl rfl rfl rfl rfl
                      have hg7_1333 : ∀ i, rdF (en_1333 7) i = rdF (en_1324 7) i := fun i => by rw [hen_1333, va_up_ne _ _ (by decide)]
                      have ha_1333 : ∀ i, i < d1317 → rdF (en_1333 7) i = rdF (en_1317 7) i := fun i hi => (hg7_1333 i).trans (i2_1324 i hi)
                      have hwv_1333 : rdF (en_1333 7) d1317 = nI w1324 := (hg7_1333 d1317).trans i1_1324.1
                      refine lv_goto (tgt := 18) hx hb dX12_next_130 (by decide) ?_
                      have hNB_1334 := NWp_back i1_1317 (by omega) (by omega) ha_1333 hv_1332 hve_1332
                      exact ih_1317 (mm1317 - 1) (d1317 - 1) (v_1332 + 1) en_1333 ls H locs (by omega) hI_1333 hf_1333 (⟨by rw [es1325_1333]; rfl, by omega⟩) (hNB_1334.1) (by have h1 := hNB_1334.2; have h2 := i2_1317; omega) (hkp_1333) (lv_sub hl [0, 1] rfl) hh
                · have n_1329 : w1324 < tb := n_nle (a := tb) (b := w1324) c_1329 (by omega) (by omega)
                  refine lv_aload_n hx hb dX12_next_54 rfl (lv_at hl 0 rfl) ?_
                  refine hp_get hx hb hts ix12 hown hK hh (q := 0) rfl (hI.1 _ (by decide)) es1325 rfl 14 (by decide) (hts _ tw_893) (fun _ h9 => h9) rfl dX12_next_55 ?_
                  refine lv_if_le (tgt := 104) hx hb dX12_next_58 (by decide) (fun c_1335 => ?_) (fun c_1335 => ?_)
                  · have n_1335 : d1317 ≤ 0 := n_le (a := d1317) (b := 0) c_1335 (by omega) (by decide)
                    refine lv_aload_n hx hb dX12_next_104 rfl (lv_at hl 0 rfl) ?_
                    refine hp_get hx hb hts ix12 hown hK hh (q := 0) rfl (hI.1 _ (by decide)) es1325 rfl 11 (by decide) (hts _ tw_890) (fun _ h9 => h9) rfl dX12_next_105 ?_
                    refine lv_aload_n hx hb dX12_next_108 rfl (lv_at hl 0 rfl) ?_
                    refine hp_get hx hb hts ix12 hown hK hh (q := 0) rfl (hI.1 _ (by decide)) es1325 rfl 14 (by decide) (hts _ tw_893) (fun _ h9 => h9) rfl dX12_next_109 ?_
                    refine hp_iald hx hb hK hh (q := 7) rfl (hI.1 _ (by decide)) es1328 (vp_in_nI (n := d1317) (by omega) (by decide)) dX12_next_112 ?_
                    rw [nI_clamp (n := d1317) (by omega)]
                    rw [show f_1328 d1317 = nI w1324 from (show f_1328 d1317 = rdF (en_1324 7) d1317 from by rw [es1328]; rfl).trans i1_1324.1]
                    refine lv_aload_n hx hb dX12_next_113 rfl (lv_at hl 0 rfl) ?_
                    refine hp_get hx hb hts ix12 hown hK hh (q := 0) rfl (hI.1 _ (by decide)) es1325 rfl 4 (by decide) (hts _ tw_883) (fun _ h9 => h9) rfl dX12_next_114 ?_
                    refine lv_icmp_lt (tgt := 133) hx hb dX12_next_117 (by decide) (fun c_1336 => ?_) (fun c_1336 => ?_)
                    · have n_1336 : w1324 < tb := n_lt (a := w1324) (b := tb) c_1336 (by omega) (by omega)
                      refine lv_aload_n hx hb dX12_next_133 rfl (lv_at hl 0 rfl) ?_
                      refine lv_aload_n hx hb dX12_next_134 rfl (lv_at hl 0 rfl) ?_
                      refine hp_get hx hb hts ix12 hown hK hh (q := 0) rfl (hI.1 _ (by decide)) es1325 rfl 14 (by decide) (hts _ tw_893) (fun _ h9 => h9) rfl dX12_next_135 ?_
                      refine lv_aload_n hx hb dX12_next_138 rfl (lv_at hl 0 rfl) ?_
                      refine hp_get hx hb hts ix12 hown hK hh (q := 0) rfl (hI.1 _ (by decide)) es1325 rfl 11 (by decide) (hts _ tw_890) (fun _ h9 => h9) rfl dX12_next_139 ?_
                      refine lv_aload_n hx hb dX12_next_142 rfl (lv_at hl 0 rfl) ?_
                      refine hp_get hx hb hts ix12 hown hK hh (q := 0) rfl (hI.1 _ (by decide)) es1325 rfl 14 (by decide) (hts _ tw_893) (fun _ h9 => h9) rfl dX12_next_143 ?_
                      refine hp_iald hx hb hK hh (q := 7) rfl (hI.1 _ (by decide)) es1328 (vp_in_nI (n := d1317) (by omega) (by decide)) dX12_next_146 ?_
                      rw [nI_clamp (n := d1317) (by omega)]
                      rw [show f_1328 d1317 = nI w1324 from (show f_1328 d1317 = rdF (en_1324 7) d1317 from by rw [es1328]; rfl).trans i1_1324.1]
                      refine hp_callMv (va_runV (As := [.int (nI d1317), .int (nI w1324)]) (rest := []) ⟨hx, hb, hml, hown, hts⟩ (c_X12_goOn l D cy _ cs ad en_1324 hI_1324 d1317 w1324 (by omega) (by omega)) (kw_X12_goOn hts tw_1050 ⟨by decide, by decide⟩) (preV_of hh hK (hI.1 _ (by decide)) es1325 rfl) rfl rfl hl.1 rfl (lv_room (Nat.le_of_ble_eq_true rfl)) dX12_next_147 ⟨Nat.le_of_ble_eq_true rfl, Nat.le_of_ble_eq_true rfl⟩) hh hA (fun H locs en_1337 hw_1337 hh => ?_)
                      obtain ⟨hI_1337, hu_1337, hx_1337⟩ := hw_1337
                      have es1325_1337 : en_1337 0 = .inr (11, [.int fa_1325, .int hi_1325, .int (nI wd), .int (nI mo), .int (nI tb), .ref (ad 1), .ref (ad 2), .ref (ad 3), .ref (ad 4), .ref (ad 5), .ref (ad 6), .ref (ad 7), .ref (ad 8), .ref (ad 9), .int (nI d1317), .long many_1325, .long grt_1325, .long lst_1325, .long nou_1325, .ref (ad 10), .ref (ad 11), .ref (ad 12), .int rm_1325, .long rb_1325, .ref (ad 13), .int pr_1325, .ref (ad 14), .ref (ad 15), .ref (ad 16), .ref (ad 17), .int (nI wo), .ref (ad 18), .ref (ad 19)]) := (hu_1337 0 (by omega)).trans es1325
                      have es1328_1337 : en_1337 7 = .inl (cy 0, 13, .inl f_1328) := (hu_1337 7 (by omega)).trans es1328
                      have hf_1337 : ∀ c, (c ≠ 0 ∧ c ≠ 6 ∧ c ≠ 7) → en_1337 c = en c := fun c hc => (hu_1337 c (by omega)).trans (hf_1324 c hc)
                      have hkp_1337 : KP en en_1337 := KP_same i4_1324 (hu_1337 0 (by omega))
                      have hg7_1337 : ∀ i, rdF (en_1337 7) i = rdF (en_1324 7) i := fun i => by rw [hu_1337 7 (by omega)]
                      have ha_1337 : ∀ i, i < d1317 → rdF (en_1337 7) i = rdF (en_1317 7) i := fun i hi => (hg7_1337 i).trans (i2_1324 i hi)
                      have hwv_1337 : rdF (en_1337 7) d1317 = nI w1324 := (hg7_1337 d1317).trans i1_1324.1
                      refine lv_aload_n hx hb dX12_next_150 rfl (lv_at hl 0 rfl) ?_
                      refine lv_dup hx hb dX12_next_151 rfl ?_
                      refine hp_get hx hb hts ix12 hown hK hh (q := 0) rfl (hI.1 _ (by decide)) es1325_1337 rfl 14 (by decide) (hts _ tw_893) (fun _ h9 => h9) rfl dX12_next_152 ?_
                      refine lv_iconst (v := 1) hx hb dX12_next_155 (by decide) ?_
                      refine lv_iadd hx hb dX12_next_156 ?_
                      rw [show (1 : Int32) = nI 1 from rfl, nI_add d1317 1]
                      refine hp_put hx hb hts ix12 tyX12 tyX12_ok nmX12 hown hK hh (q := 0) rfl (hI.1 _ (by decide)) es1325_1337 rfl 14 (by decide) (hts _ tw_893) (fun _ h9 => h9) rfl (ty := .int) (by decide +kernel) rfl rfl (Nat.le_of_ble_eq_true rfl) dX12_next_157 (fun H locs en_1338 hen_1338 hh => ?_)
                      have es1328_1338 : en_1338 7 = .inl (cy 0, 13, .inl f_1328) := by rw [hen_1338, va_up_ne _ _ (by decide)]; exact es1328_1337
                      have es1325_1338 : en_1338 0 = .inr (11, [.int fa_1325, .int hi_1325, .int (nI wd), .int (nI mo), .int (nI tb), .ref (ad 1), .ref (ad 2), .ref (ad 3), .ref (ad 4), .ref (ad 5), .ref (ad 6), .ref (ad 7), .ref (ad 8), .ref (ad 9), .int (nI (d1317 + 1)), .long many_1325, .long grt_1325, .long lst_1325, .long nou_1325, .ref (ad 10), .ref (ad 11), .ref (ad 12), .int rm_1325, .long rb_1325, .ref (ad 13), .int pr_1325, .ref (ad 14), .ref (ad 15), .ref (ad 16), .ref (ad 17), .int (nI wo), .ref (ad 18), .ref (ad 19)]) := by rw [hen_1338]; exact va_up_self _ _ _
                      have hI_1338 : RX cy cs ad en_1338 := by rw [hen_1338]; exact upr_M hI_1337 ⟨fa_1325, hi_1325, wd, mo, tb, (nI (d1317 + 1)), many_1325, grt_1325, lst_1325, nou_1325, rm_1325, rb_1325, pr_1325, wo, rfl, hwd2, hwd3, hmo, htb, hwo⟩
                      have hf_1338 : ∀ c, (c ≠ 0 ∧ c ≠ 6 ∧ c ≠ 7) → en_1338 c = en c := fun c hc => Eq.trans (show en_1338 c = en_1337 c from by rw [hen_1338, va_up_ne _ _ (by omega)]) (hf_1337 c hc)
                      have hkp_1338 : KP en en_1338 := KP_fv hkp_1337 es1325_1337 es1325_1338 hi_1325 (nI wd) (nI mo) (nI tb) pr_1325 (nI wo) rfl rfl rfl rfl rfl rfl rfl rfl rfl rfl rfl rfl
                      have hg7_1338 : ∀ i, rdF (en_1338 7) i = rdF (en_1337 7) i := fun i => by rw [hen_1338, va_up_ne _ _ (by decide)]
                      have ha_1338 : ∀ i, i < d1317 → rdF (en_1338 7) i = rdF (en_1317 7) i := fun i hi => (hg7_1338 i).trans (ha_1337 i hi)
                      have hwv_1338 : rdF (en_1338 7) d1317 = nI w1324 := (hg7_1338 d1317).trans hwv_1337
                      refine lv_aload_n hx hb dX12_next_160 rfl (lv_at hl 0 rfl) ?_
                      refine hp_get hx hb hts ix12 hown hK hh (q := 0) rfl (hI.1 _ (by decide)) es1325_1338 rfl 14 (by decide) (hts _ tw_893) (fun _ h9 => h9) rfl dX12_next_161 ?_
                      refine lv_iload_n hx hb dX12_next_164 rfl (lv_at hl 1 rfl) ?_
                      refine lv_icmp_ne (tgt := 170) hx hb dX12_next_165 (by decide) (fun c_1339 => ?_) (fun c_1339 => ?_)
                      · have n_1339 : (d1317 + 1) ≠ n := n_neq (a := (d1317 + 1)) (b := n) c_1339 (by omega) (by omega)
                        refine lv_aload_n hx hb dX12_next_170 rfl (lv_at hl 0 rfl) ?_
                        refine hp_get hx hb hts ix12 hown hK hh (q := 0) rfl (hI.1 _ (by decide)) es1325_1338 rfl 11 (by decide) (hts _ tw_890) (fun _ h9 => h9) rfl dX12_next_171 ?_
                        refine lv_aload_n hx hb dX12_next_174 rfl (lv_at hl 0 rfl) ?_
                        refine hp_get hx hb hts ix12 hown hK hh (q := 0) rfl (hI.1 _ (by decide)) es1325_1338 rfl 14 (by decide) (hts _ tw_893) (fun _ h9 => h9) rfl dX12_next_175 ?_
                        refine lv_iconst (v := (-1)) hx hb dX12_next_178 (by decide) ?_
                        refine hp_iast hx hb hK hh (q := 7) rfl (hI.1 _ (by decide)) es1328_1338 (vp_in_nI (n := (d1317 + 1)) (by omega) (by decide)) dX12_next_179 (fun H locs en_1340 hen_1340 hh => ?_)
                        rw [nI_clamp (n := (d1317 + 1)) (by omega)] at hen_1340
                        have es1325_1340 : en_1340 0 = .inr (11, [.int fa_1325, .int hi_1325, .int (nI wd), .int (nI mo), .int (nI tb), .ref (ad 1), .ref (ad 2), .ref (ad 3), .ref (ad 4), .ref (ad 5), .ref (ad 6), .ref (ad 7), .ref (ad 8), .ref (ad 9), .int (nI (d1317 + 1)), .long many_1325, .long grt_1325, .long lst_1325, .long nou_1325, .ref (ad 10), .ref (ad 11), .ref (ad 12), .int rm_1325, .long rb_1325, .ref (ad 13), .int pr_1325, .ref (ad 14), .ref (ad 15), .ref (ad 16), .ref (ad 17), .int (nI wo), .ref (ad 18), .ref (ad 19)]) := by rw [hen_1340, va_up_ne _ _ (by decide)]; exact es1325_1338
                        have es1328_1340 : en_1340 7 = .inl (cy 0, 13, .inl (upd f_1328 (d1317 + 1) (-1))) := by rw [hen_1340]; exact va_up_self _ _ _
                        have hI_1340 : RX cy cs ad en_1340 := by rw [hen_1340]; exact upr_nw hI_1338 ⟨(upd f_1328 (d1317 + 1) (-1)), rfl⟩
                        have hf_1340 : ∀ c, (c ≠ 0 ∧ c ≠ 6 ∧ c ≠ 7) → en_1340 c = en c := fun c hc => Eq.trans (show en_1340 c = en_1338 c from by rw [hen_1340, va_up_ne _ _ (by omega)]) (hf_1338 c hc)
                        have hkp_1340 : KP en en_1340 := KP_same hkp_1338 (show en_1340 0 = en_1338 0 from by rw [hen_1340, va_up_ne _ _ (by decide)])
                        have hno_1340 : ∀ i, i ≠ (d1317 + 1) → rdF (en_1340 7) i = rdF (en_1338 7) i := fun i hi => by rw [es1328_1340, es1328_1338]; exact pk_un hi
                        have hnv_1340 : rdF (en_1340 7) (d1317 + 1) = (-1) := by rw [es1328_1340]; exact pk_us
                        have ha_1340 : ∀ i, i < d1317 → rdF (en_1340 7) i = rdF (en_1317 7) i := fun i hi => (hno_1340 i (by omega)).trans (ha_1338 i hi)
                        have hwv_1340 : rdF (en_1340 7) d1317 = nI w1324 := (hno_1340 d1317 (by omega)).trans hwv_1338
                        refine lv_goto (tgt := 18) hx hb dX12_next_180 (by decide) ?_
                        have hNB_1341 := NWp_desc i1_1317 (by omega) ha_1340 hwv_1340 (by omega) (by omega) hnv_1340
                        exact ih_1317 (mm1317 - 1) (d1317 + 1) 0 en_1340 ls H locs (by omega) hI_1340 hf_1340 (⟨by rw [es1325_1340]; rfl, by omega⟩) (hNB_1341.1) (by have h1 := hNB_1341.2; have h2 := i2_1317; omega) (hkp_1340) (lv_sub hl [0, 1] rfl) hh
                      · have n_1339 : (d1317 + 1) = n := n_eq (a := (d1317 + 1)) (b := n) c_1339 (by omega) (by omega)
                        refine lv_iconst (v := 1) hx hb dX12_next_168 (by decide) ?_
                        have hNR_1342 := NWp_ret i1_1317 ha_1338 hwv_1338 (by omega) (by omega)
                        have hdn_1342 : n - 1 = d1317 := by omega
                        exact hp_iretM hx hb hr rfl hlocks hh (⟨hI_1338, hf_1338, Or.inr ⟨rfl, w1324 + 1, ⟨by omega, Or.inr ⟨by rw [es1325_1338]; exact congrArg nI (by omega), by omega⟩, by rw [hdn_1342]; exact hNR_1342.1⟩, by omega, by have h1 := hNR_1342.2; have h2 := i2_1317.2; rw [hdn_1342]; omega⟩, hkp_1338⟩) dX12_next_169
                    · have n_1336 : tb ≤ w1324 := n_nlt (a := w1324) (b := tb) c_1336 (by omega) (by omega)
                      exact absurd n_1336 (by omega)
                  · have n_1335 : 0 < d1317 := n_nle (a := d1317) (b := 0) c_1335 (by omega) (by decide)
                    refine lv_aload_n hx hb dX12_next_61 rfl (lv_at hl 0 rfl) ?_
                    refine lv_aload_n hx hb dX12_next_62 rfl (lv_at hl 0 rfl) ?_
                    refine hp_get hx hb hts ix12 hown hK hh (q := 0) rfl (hI.1 _ (by decide)) es1325 rfl 11 (by decide) (hts _ tw_890) (fun _ h9 => h9) rfl dX12_next_63 ?_
                    refine lv_aload_n hx hb dX12_next_66 rfl (lv_at hl 0 rfl) ?_
                    refine hp_get hx hb hts ix12 hown hK hh (q := 0) rfl (hI.1 _ (by decide)) es1325 rfl 14 (by decide) (hts _ tw_893) (fun _ h9 => h9) rfl dX12_next_67 ?_
                    refine lv_iconst (v := 1) hx hb dX12_next_70 (by decide) ?_
                    refine lv_isub hx hb dX12_next_71 ?_
                    rw [show (1 : Int32) = nI 1 from rfl, pk_sub (a := d1317) (b := 1) (by omega)]
                    refine hp_iald hx hb hK hh (q := 7) rfl (hI.1 _ (by decide)) es1328 (vp_in_nI (n := (d1317 - 1)) (by omega) (by decide)) dX12_next_72 ?_
                    rw [nI_clamp (n := (d1317 - 1)) (by omega)]
                    obtain ⟨v_1343, hv_1343, hve_1343⟩ := i1_1317.1 (d1317 - 1) (by omega)
                    rw [show f_1328 (d1317 - 1) = nI v_1343 from (show f_1328 (d1317 - 1) = rdF (en_1324 7) (d1317 - 1) from by rw [es1328]; rfl).trans ((i2_1324 (d1317 - 1) (by omega)).trans hve_1343)]
                    refine lv_aload_n hx hb dX12_next_73 rfl (lv_at hl 0 rfl) ?_
                    refine hp_get hx hb hts ix12 hown hK hh (q := 0) rfl (hI.1 _ (by decide)) es1325 rfl 11 (by decide) (hts _ tw_890) (fun _ h9 => h9) rfl dX12_next_74 ?_
                    refine lv_aload_n hx hb dX12_next_77 rfl (lv_at hl 0 rfl) ?_
                    refine hp_get hx hb hts ix12 hown hK hh (q := 0) rfl (hI.1 _ (by decide)) es1325 rfl 14 (by decide) (hts _ tw_893) (fun _ h9 => h9) rfl dX12_next_78 ?_
                    refine hp_iald hx hb hK hh (q := 7) rfl (hI.1 _ (by decide)) es1328 (vp_in_nI (n := d1317) (by omega) (by decide)) dX12_next_81 ?_
                    rw [nI_clamp (n := d1317) (by omega)]
                    rw [show f_1328 d1317 = nI w1324 from (show f_1328 d1317 = rdF (en_1324 7) d1317 from by rw [es1328]; rfl).trans i1_1324.1]
                    refine hp_callRi (va_runV (As := [.int (nI v_1343), .int (nI w1324)]) (rest := []) ⟨hx, hb, hml, hown, hts⟩ (c_X12_mayFollow l D cy _ cs ad en_1324 hI_1324 v_1343 w1324 (by omega) (by omega)) (kw_X12_mayFollow hts tw_1029 ⟨by decide, by decide⟩) (preV_of hh hK (hI.1 _ (by decide)) es1325 rfl) rfl rfl hl.1 rfl (lv_room (Nat.le_of_ble_eq_true rfl)) dX12_next_82 ⟨Nat.le_of_ble_eq_true rfl, Nat.le_of_ble_eq_true rfl⟩) hh hA (fun r_1344 H locs hw_1344 hh => ?_)
                    rcases Decidable.em (rdF (en_1324 2) (6 * v_1343 + w1324) = 0) with hp_1344 | hp_1344
                    · obtain rfl : r_1344 = 1 := Eq.trans hw_1344 (if_pos hp_1344)
                      refine lv_if_ne (tgt := 104) hx hb dX12_next_85 (by decide) (fun _ => ?_) (fun c_0 => absurd c_0 (by decide))
                      refine lv_aload_n hx hb dX12_next_104 rfl (lv_at hl 0 rfl) ?_
                      refine hp_get hx hb hts ix12 hown hK hh (q := 0) rfl (hI.1 _ (by decide)) es1325 rfl 11 (by decide) (hts _ tw_890) (fun _ h9 => h9) rfl dX12_next_105 ?_
                      refine lv_aload_n hx hb dX12_next_108 rfl (lv_at hl 0 rfl) ?_
                      refine hp_get hx hb hts ix12 hown hK hh (q := 0) rfl (hI.1 _ (by decide)) es1325 rfl 14 (by decide) (hts _ tw_893) (fun _ h9 => h9) rfl dX12_next_109 ?_
                      refine hp_iald hx hb hK hh (q := 7) rfl (hI.1 _ (by decide)) es1328 (vp_in_nI (n := d1317) (by omega) (by decide)) dX12_next_112 ?_
                      rw [nI_clamp (n := d1317) (by omega)]
                      rw [show f_1328 d1317 = nI w1324 from (show f_1328 d1317 = rdF (en_1324 7) d1317 from by rw [es1328]; rfl).trans i1_1324.1]
                      refine lv_aload_n hx hb dX12_next_113 rfl (lv_at hl 0 rfl) ?_
                      refine hp_get hx hb hts ix12 hown hK hh (q := 0) rfl (hI.1 _ (by decide)) es1325 rfl 4 (by decide) (hts _ tw_883) (fun _ h9 => h9) rfl dX12_next_114 ?_
                      refine lv_icmp_lt (tgt := 133) hx hb dX12_next_117 (by decide) (fun c_1345 => ?_) (fun c_1345 => ?_)
                      · have n_1345 : w1324 < tb := n_lt (a := w1324) (b := tb) c_1345 (by omega) (by omega)
                        refine lv_aload_n hx hb dX12_next_133 rfl (lv_at hl 0 rfl) ?_
                        refine lv_aload_n hx hb dX12_next_134 rfl (lv_at hl 0 rfl) ?_
                        refine hp_get hx hb hts ix12 hown hK hh (q := 0) rfl (hI.1 _ (by decide)) es1325 rfl 14 (by decide) (hts _ tw_893) (fun _ h9 => h9) rfl dX12_next_135 ?_
                        refine lv_aload_n hx hb dX12_next_138 rfl (lv_at hl 0 rfl) ?_
                        refine hp_get hx hb hts ix12 hown hK hh (q := 0) rfl (hI.1 _ (by decide)) es1325 rfl 11 (by decide) (hts _ tw_890) (fun _ h9 => h9) rfl dX12_next_139 ?_
                        refine lv_aload_n hx hb dX12_next_142 rfl (lv_at hl 0 rfl) ?_
                        refine hp_get hx hb hts ix12 hown hK hh (q := 0) rfl (hI.1 _ (by decide)) es1325 rfl 14 (by decide) (hts _ tw_893) (fun _ h9 => h9) rfl dX12_next_143 ?_
                        refine hp_iald hx hb hK hh (q := 7) rfl (hI.1 _ (by decide)) es1328 (vp_in_nI (n := d1317) (by omega) (by decide)) dX12_next_146 ?_
                        rw [nI_clamp (n := d1317) (by omega)]
                        rw [show f_1328 d1317 = nI w1324 from (show f_1328 d1317 = rdF (en_1324 7) d1317 from by rw [es1328]; rfl).trans i1_1324.1]
                        refine hp_callMv (va_runV (As := [.int (nI d1317), .int (nI w1324)]) (rest := []) ⟨hx, hb, hml, hown, hts⟩ (c_X12_goOn l D cy _ cs ad en_1324 hI_1324 d1317 w1324 (by omega) (by omega)) (kw_X12_goOn hts tw_1050 ⟨by decide, by decide⟩) (preV_of hh hK (hI.1 _ (by decide)) es1325 rfl) rfl rfl hl.1 rfl (lv_room (Nat.le_of_ble_eq_true rfl)) dX12_next_147 ⟨Nat.le_of_ble_eq_true rfl, Nat.le_of_ble_eq_true rfl⟩) hh hA (fun H locs en_1346 hw_1346 hh => ?_)
                        obtain ⟨hI_1346, hu_1346, hx_1346⟩ := hw_1346
                        have es1325_1346 : en_1346 0 = .inr (11, [.int fa_1325, .int hi_1325, .int (nI wd), .int (nI mo), .int (nI tb), .ref (ad 1), .ref (ad 2), .ref (ad 3), .ref (ad 4), .ref (ad 5), .ref (ad 6), .ref (ad 7), .ref (ad 8), .ref (ad 9), .int (nI d1317), .long many_1325, .long grt_1325, .long lst_1325, .long nou_1325, .ref (ad 10), .ref (ad 11), .ref (ad 12), .int rm_1325, .long rb_1325, .ref (ad 13), .int pr_1325, .ref (ad 14), .ref (ad 15), .ref (ad 16), .ref (ad 17), .int (nI wo), .ref (ad 18), .ref (ad 19)]) := (hu_1346 0 (by omega)).trans es1325
                        have es1328_1346 : en_1346 7 = .inl (cy 0, 13, .inl f_1328) := (hu_1346 7 (by omega)).trans es1328
                        have hf_1346 : ∀ c, (c ≠ 0 ∧ c ≠ 6 ∧ c ≠ 7) → en_1346 c = en c := fun c hc => (hu_1346 c (by omega)).trans (hf_1324 c hc)
                        have hkp_1346 : KP en en_1346 := KP_same i4_1324 (hu_1346 0 (by omega))
                        have hg7_1346 : ∀ i, rdF (en_1346 7) i = rdF (en_1324 7) i := fun i => by rw [hu_1346 7 (by omega)]
                        have ha_1346 : ∀ i, i < d1317 → rdF (en_1346 7) i = rdF (en_1317 7) i := fun i hi => (hg7_1346 i).trans (i2_1324 i hi)
                        have hwv_1346 : rdF (en_1346 7) d1317 = nI w1324 := (hg7_1346 d1317).trans i1_1324.1
                        refine lv_aload_n hx hb dX12_next_150 rfl (lv_at hl 0 rfl) ?_
                        refine lv_dup hx hb dX12_next_151 rfl ?_
                        refine hp_get hx hb hts ix12 hown hK hh (q := 0) rfl (hI.1 _ (by decide)) es1325_1346 rfl 14 (by decide) (hts _ tw_893) (fun _ h9 => h9) rfl dX12_next_152 ?_
                        refine lv_iconst (v := 1) hx hb dX12_next_155 (by decide) ?_
                        refine lv_iadd hx hb dX12_next_156 ?_
                        rw [show (1 : Int32) = nI 1 from rfl, nI_add d1317 1]
                        refine hp_put hx hb hts ix12 tyX12 tyX12_ok nmX12 hown hK hh (q := 0) rfl (hI.1 _ (by decide)) es1325_1346 rfl 14 (by decide) (hts _ tw_893) (fun _ h9 => h9) rfl (ty := .int) (by decide +kernel) rfl rfl (Nat.le_of_ble_eq_true rfl) dX12_next_157 (fun H locs en_1347 hen_1347 hh => ?_)
                        have es1328_1347 : en_1347 7 = .inl (cy 0, 13, .inl f_1328) := by rw [hen_1347, va_up_ne _ _ (by decide)]; exact es1328_1346
                        have es1325_1347 : en_1347 0 = .inr (11, [.int fa_1325, .int hi_1325, .int (nI wd), .int (nI mo), .int (nI tb), .ref (ad 1), .ref (ad 2), .ref (ad 3), .ref (ad 4), .ref (ad 5), .ref (ad 6), .ref (ad 7), .ref (ad 8), .ref (ad 9), .int (nI (d1317 + 1)), .long many_1325, .long grt_1325, .long lst_1325, .long nou_1325, .ref (ad 10), .ref (ad 11), .ref (ad 12), .int rm_1325, .long rb_1325, .ref (ad 13), .int pr_1325, .ref (ad 14), .ref (ad 15), .ref (ad 16), .ref (ad 17), .int (nI wo), .ref (ad 18), .ref (ad 19)]) := by rw [hen_1347]; exact va_up_self _ _ _
                        have hI_1347 : RX cy cs ad en_1347 := by rw [hen_1347]; exact upr_M hI_1346 ⟨fa_1325, hi_1325, wd, mo, tb, (nI (d1317 + 1)), many_1325, grt_1325, lst_1325, nou_1325, rm_1325, rb_1325, pr_1325, wo, rfl, hwd2, hwd3, hmo, htb, hwo⟩
                        have hf_1347 : ∀ c, (c ≠ 0 ∧ c ≠ 6 ∧ c ≠ 7) → en_1347 c = en c := fun c hc => Eq.trans (show en_1347 c = en_1346 c from by rw [hen_1347, va_up_ne _ _ (by omega)]) (hf_1346 c hc)
                        have hkp_1347 : KP en en_1347 := KP_fv hkp_1346 es1325_1346 es1325_1347 hi_1325 (nI wd) (nI mo) (nI tb) pr_1325 (nI wo) rfl rfl rfl rfl rfl rfl rfl rfl rfl rfl rfl rfl
                        have hg7_1347 : ∀ i, rdF (en_1347 7) i = rdF (en_1346 7) i := fun i => by rw [hen_1347, va_up_ne _ _ (by decide)]
                        have ha_1347 : ∀ i, i < d1317 → rdF (en_1347 7) i = rdF (en_1317 7) i := fun i hi => (hg7_1347 i).trans (ha_1346 i hi)
                        have hwv_1347 : rdF (en_1347 7) d1317 = nI w1324 := (hg7_1347 d1317).trans hwv_1346
                        refine lv_aload_n hx hb dX12_next_160 rfl (lv_at hl 0 rfl) ?_
                        refine hp_get hx hb hts ix12 hown hK hh (q := 0) rfl (hI.1 _ (by decide)) es1325_1347 rfl 14 (by decide) (hts _ tw_893) (fun _ h9 => h9) rfl dX12_next_161 ?_
                        refine lv_iload_n hx hb dX12_next_164 rfl (lv_at hl 1 rfl) ?_
                        refine lv_icmp_ne (tgt := 170) hx hb dX12_next_165 (by decide) (fun c_1348 => ?_) (fun c_1348 => ?_)
                        · have n_1348 : (d1317 + 1) ≠ n := n_neq (a := (d1317 + 1)) (b := n) c_1348 (by omega) (by omega)
                          refine lv_aload_n hx hb dX12_next_170 rfl (lv_at hl 0 rfl) ?_
                          refine hp_get hx hb hts ix12 hown hK hh (q := 0) rfl (hI.1 _ (by decide)) es1325_1347 rfl 11 (by decide) (hts _ tw_890) (fun _ h9 => h9) rfl dX12_next_171 ?_
                          refine lv_aload_n hx hb dX12_next_174 rfl (lv_at hl 0 rfl) ?_
                          refine hp_get hx hb hts ix12 hown hK hh (q := 0) rfl (hI.1 _ (by decide)) es1325_1347 rfl 14 (by decide) (hts _ tw_893) (fun _ h9 => h9) rfl dX12_next_175 ?_
                          refine lv_iconst (v := (-1)) hx hb dX12_next_178 (by decide) ?_
                          refine hp_iast hx hb hK hh (q := 7) rfl (hI.1 _ (by decide)) es1328_1347 (vp_in_nI (n := (d1317 + 1)) (by omega) (by decide)) dX12_next_179 (fun H locs en_1349 hen_1349 hh => ?_)
                          rw [nI_clamp (n := (d1317 + 1)) (by omega)] at hen_1349
                          have es1325_1349 : en_1349 0 = .inr (11, [.int fa_1325, .int hi_1325, .int (nI wd), .int (nI mo), .int (nI tb), .ref (ad 1), .ref (ad 2), .ref (ad 3), .ref (ad 4), .ref (ad 5), .ref (ad 6), .ref (ad 7), .ref (ad 8), .ref (ad 9), .int (nI (d1317 + 1)), .long many_1325, .long grt_1325, .long lst_1325, .long nou_1325, .ref (ad 10), .ref (ad 11), .ref (ad 12), .int rm_1325, .long rb_1325, .ref (ad 13), .int pr_1325, .ref (ad 14), .ref (ad 15), .ref (ad 16), .ref (ad 17), .int (nI wo), .ref (ad 18), .ref (ad 19)]) := by rw [hen_1349, va_up_ne _ _ (by decide)]; exact es1325_1347
                          have es1328_1349 : en_1349 7 = .inl (cy 0, 13, .inl (upd f_1328 (d1317 + 1) (-1))) := by rw [hen_1349]; exact va_up_self _ _ _
                          have hI_1349 : RX cy cs ad en_1349 := by rw [hen_1349]; exact upr_nw hI_1347 ⟨(upd f_1328 (d1317 + 1) (-1)), rfl⟩
                          have hf_1349 : ∀ c, (c ≠ 0 ∧ c ≠ 6 ∧ c ≠ 7) → en_1349 c = en c := fun c hc => Eq.trans (show en_1349 c = en_1347 c from by rw [hen_1349, va_up_ne _ _ (by omega)]) (hf_1347 c hc)
                          have hkp_1349 : KP en en_1349 := KP_same hkp_1347 (show en_1349 0 = en_1347 0 from by rw [hen_1349, va_up_ne _ _ (by decide)])
                          have hno_1349 : ∀ i, i ≠ (d1317 + 1) → rdF (en_1349 7) i = rdF (en_1347 7) i := fun i hi => by rw [es1328_1349, es1328_1347]; exact pk_un hi
                          have hnv_1349 : rdF (en_1349 7) (d1317 + 1) = (-1) := by rw [es1328_1349]; exact pk_us
                          have ha_1349 : ∀ i, i < d1317 → rdF (en_1349 7) i = rdF (en_1317 7) i := fun i hi => (hno_1349 i (by omega)).trans (ha_1347 i hi)
                          have hwv_1349 : rdF (en_1349 7) d1317 = nI w1324 := (hno_1349 d1317 (by omega)).trans hwv_1347
                          refine lv_goto (tgt := 18) hx hb dX12_next_180 (by decide) ?_
                          have hNB_1350 := NWp_desc i1_1317 (by omega) ha_1349 hwv_1349 (by omega) (by omega) hnv_1349
                          exact ih_1317 (mm1317 - 1) (d1317 + 1) 0 en_1349 ls H locs (by omega) hI_1349 hf_1349 (⟨by rw [es1325_1349]; rfl, by omega⟩) (hNB_1350.1) (by have h1 := hNB_1350.2; have h2 := i2_1317; omega) (hkp_1349) (lv_sub hl [0, 1] rfl) hh
                        · have n_1348 : (d1317 + 1) = n := n_eq (a := (d1317 + 1)) (b := n) c_1348 (by omega) (by omega)
                          refine lv_iconst (v := 1) hx hb dX12_next_168 (by decide) ?_
                          have hNR_1351 := NWp_ret i1_1317 ha_1347 hwv_1347 (by omega) (by omega)
                          have hdn_1351 : n - 1 = d1317 := by omega
                          exact hp_iretM hx hb hr rfl hlocks hh (⟨hI_1347, hf_1347, Or.inr ⟨rfl, w1324 + 1, ⟨by omega, Or.inr ⟨by rw [es1325_1347]; exact congrArg nI (by omega), by omega⟩, by rw [hdn_1351]; exact hNR_1351.1⟩, by omega, by have h1 := hNR_1351.2; have h2 := i2_1317.2; rw [hdn_1351]; omega⟩, hkp_1347⟩) dX12_next_169
                      · have n_1345 : tb ≤ w1324 := n_nlt (a := w1324) (b := tb) c_1345 (by omega) (by omega)
                        exact absurd n_1345 (by omega)
                    · obtain rfl : r_1344 = 0 := Eq.trans hw_1344 (if_neg hp_1344)
                      refine lv_if_ne (tgt := 104) hx hb dX12_next_85 (by decide) (fun c_0 => absurd c_0 (by decide)) (fun _ => ?_)
                      refine lv_aload_n hx hb dX12_next_88 rfl (lv_at hl 0 rfl) ?_
                      refine hp_get hx hb hts ix12 hown hK hh (q := 0) rfl (hI.1 _ (by decide)) es1325 rfl 11 (by decide) (hts _ tw_890) (fun _ h9 => h9) rfl dX12_next_89 ?_
                      refine lv_aload_n hx hb dX12_next_92 rfl (lv_at hl 0 rfl) ?_
                      refine hp_get hx hb hts ix12 hown hK hh (q := 0) rfl (hI.1 _ (by decide)) es1325 rfl 14 (by decide) (hts _ tw_893) (fun _ h9 => h9) rfl dX12_next_93 ?_
                      refine lv_dup2_11 hx hb dX12_next_96 rfl rfl ?_
                      refine hp_iald hx hb hK hh (q := 7) rfl (hI.1 _ (by decide)) es1328 (vp_in_nI (n := d1317) (by omega) (by decide)) dX12_next_97 ?_
                      rw [nI_clamp (n := d1317) (by omega)]
                      rw [show f_1328 d1317 = nI w1324 from (show f_1328 d1317 = rdF (en_1324 7) d1317 from by rw [es1328]; rfl).trans i1_1324.1]
                      refine lv_iconst (v := 1) hx hb dX12_next_98 (by decide) ?_
                      refine lv_iadd hx hb dX12_next_99 ?_
                      rw [show (1 : Int32) = nI 1 from rfl, nI_add w1324 1]
                      refine hp_iast hx hb hK hh (q := 7) rfl (hI.1 _ (by decide)) es1328 (vp_in_nI (n := d1317) (by omega) (by decide)) dX12_next_100 (fun H locs en_1352 hen_1352 hh => ?_)
                      rw [nI_clamp (n := d1317) (by omega)] at hen_1352
                      have es1325_1352 : en_1352 0 = .inr (11, [.int fa_1325, .int hi_1325, .int (nI wd), .int (nI mo), .int (nI tb), .ref (ad 1), .ref (ad 2), .ref (ad 3), .ref (ad 4), .ref (ad 5), .ref (ad 6), .ref (ad 7), .ref (ad 8), .ref (ad 9), .int (nI d1317), .long many_1325, .long grt_1325, .long lst_1325, .long nou_1325, .ref (ad 10), .ref (ad 11), .ref (ad 12), .int rm_1325, .long rb_1325, .ref (ad 13), .int pr_1325, .ref (ad 14), .ref (ad 15), .ref (ad 16), .ref (ad 17), .int (nI wo), .ref (ad 18), .ref (ad 19)]) := by rw [hen_1352, va_up_ne _ _ (by decide)]; exact es1325
                      have es1328_1352 : en_1352 7 = .inl (cy 0, 13, .inl (upd f_1328 d1317 (nI (w1324 + 1)))) := by rw [hen_1352]; exact va_up_self _ _ _
                      have hI_1352 : RX cy cs ad en_1352 := by rw [hen_1352]; exact upr_nw hI_1324 ⟨(upd f_1328 d1317 (nI (w1324 + 1))), rfl⟩
                      have hf_1352 : ∀ c, (c ≠ 0 ∧ c ≠ 6 ∧ c ≠ 7) → en_1352 c = en c := fun c hc => Eq.trans (show en_1352 c = en_1324 c from by rw [hen_1352, va_up_ne _ _ (by omega)]) (hf_1324 c hc)
                      have hkp_1352 : KP en en_1352 := KP_same i4_1324 (show en_1352 0 = en_1324 0 from by rw [hen_1352, va_up_ne _ _ (by decide)])
                      have hno_1352 : ∀ i, i ≠ d1317 → rdF (en_1352 7) i = rdF (en_1324 7) i := fun i hi => by rw [es1328_1352, es1328]; exact pk_un hi
                      have hnv_1352 : rdF (en_1352 7) d1317 = (nI (w1324 + 1)) := by rw [es1328_1352]; exact pk_us
                      refine lv_goto (tgt := 38) hx hb dX12_next_101 (by decide) ?_
                      exact ih_1324 (mm1324 - 1) (w1324 + 1) en_1352 ls H locs (by omega) hI_1352 hf_1352 (by rw [es1325_1352]; rfl) (⟨hnv_1352, by omega, by omega⟩) (fun i hi => (hno_1352 i (by omega)).trans (i2_1324 i hi)) (by omega) (hkp_1352) (lv_sub hl [0, 1] rfl) hh
            exact loop_1324 (7 + 1) 7 u1317 en_1323 ls _ _ (by omega) hI_1323 hf_1323 (by rw [es1318_1323]; rfl) (⟨hnv_1323, by omega, i1_1317.2.2⟩) (fun i hi => hno_1323 i (by omega)) (by omega) (hkp_1323) (lv_sub hl [0, 1] rfl) hh
      exact loop_1317 (134217728 + 1) 134217728 d u en ls _ _ (by omega) hI hf0 (⟨by rw [es1315]; exact congrArg nI (by omega), by omega⟩) (hd3) (⟨by omega, Nat.le_of_eq rfl⟩) ((KP_rf en)) (lv_sub hl [0, 1] rfl) hh
    · have n_1316 : d = n := n_eq (a := d) (b := n) c_1316 (by omega) (by omega)
      exact absurd n_1316 (by omega)
  · have hdp : dp = nI n := (show dp = rdI (en 0) 14 from by rw [es1315]; rfl).trans hd2
    rw [hdp] at es1315
    refine lv_aload_n hx hb dX12_next_0 rfl (lv_at hl 0 rfl) ?_
    refine hp_get hx hb hts ix12 hown hK hh (q := 0) rfl (hI.1 _ (by decide)) es1315 rfl 14 (by decide) (hts _ tw_893) (fun _ h9 => h9) rfl dX12_next_1 ?_
    refine lv_iload_n hx hb dX12_next_4 rfl (lv_at hl 1 rfl) ?_
    refine lv_icmp_ne (tgt := 18) hx hb dX12_next_5 (by decide) (fun c_1353 => ?_) (fun c_1353 => ?_)
    · have n_1353 : n ≠ n := n_neq (a := n) (b := n) c_1353 (by omega) (by omega)
      exact absurd n_1353 (by omega)
    · have n_1353 : n = n := n_eq (a := n) (b := n) c_1353 (by omega) (by omega)
      refine lv_aload_n hx hb dX12_next_8 rfl (lv_at hl 0 rfl) ?_
      refine lv_dup hx hb dX12_next_9 rfl ?_
      refine hp_get hx hb hts ix12 hown hK hh (q := 0) rfl (hI.1 _ (by decide)) es1315 rfl 14 (by decide) (hts _ tw_893) (fun _ h9 => h9) rfl dX12_next_10 ?_
      refine lv_iconst (v := 1) hx hb dX12_next_13 (by decide) ?_
      refine lv_isub hx hb dX12_next_14 ?_
      rw [show (1 : Int32) = nI 1 from rfl, pk_sub (a := n) (b := 1) (by omega)]
      refine hp_put hx hb hts ix12 tyX12 tyX12_ok nmX12 hown hK hh (q := 0) rfl (hI.1 _ (by decide)) es1315 rfl 14 (by decide) (hts _ tw_893) (fun _ h9 => h9) rfl (ty := .int) (by decide +kernel) rfl rfl (Nat.le_of_ble_eq_true rfl) dX12_next_15 (fun H locs en_1354 hen_1354 hh => ?_)
      obtain ⟨f_1355, es1355⟩ := getr_nw hI
      have es1355_1354 : en_1354 7 = .inl (cy 0, 13, .inl f_1355) := by rw [hen_1354, va_up_ne _ _ (by decide)]; exact es1355
      have es1315_1354 : en_1354 0 = .inr (11, [.int fa, .int hi, .int (nI wd), .int (nI mo), .int (nI tb), .ref (ad 1), .ref (ad 2), .ref (ad 3), .ref (ad 4), .ref (ad 5), .ref (ad 6), .ref (ad 7), .ref (ad 8), .ref (ad 9), .int (nI (n - 1)), .long many, .long grt, .long lst, .long nou, .ref (ad 10), .ref (ad 11), .ref (ad 12), .int rm, .long rb, .ref (ad 13), .int pr, .ref (ad 14), .ref (ad 15), .ref (ad 16), .ref (ad 17), .int (nI wo), .ref (ad 18), .ref (ad 19)]) := by rw [hen_1354]; exact va_up_self _ _ _
      have hI_1354 : RX cy cs ad en_1354 := by rw [hen_1354]; exact upr_M hI ⟨fa, hi, wd, mo, tb, (nI (n - 1)), many, grt, lst, nou, rm, rb, pr, wo, rfl, hwd2, hwd3, hmo, htb, hwo⟩
      have hf_1354 : ∀ c, (c ≠ 0 ∧ c ≠ 6 ∧ c ≠ 7) → en_1354 c = en c := fun c hc => Eq.trans (show en_1354 c = en c from by rw [hen_1354, va_up_ne _ _ (by omega)]) (hf0 c hc)
      have hkp_1354 : KP en en_1354 := KP_fv (KP_rf en) es1315 es1315_1354 hi (nI wd) (nI mo) (nI tb) pr (nI wo) rfl rfl rfl rfl rfl rfl rfl rfl rfl rfl rfl rfl
      have loop_1356 : ∀ (fu mm1356 : Nat)  (d1356 : Nat) (u1356 : Nat) (en_1356 : Nat → va_E) (ls : Array Slot) (H : Heap) (locs : List Loc), mm1356 < fu → RX cy cs ad en_1356 → (∀ c, (c ≠ 0 ∧ c ≠ 6 ∧ c ≠ 7) → en_1356 c = en c) → (rdI (en_1356 0) 14 = nI d1356 ∧ d1356 < n) → (NWp (rdF (en_1356 7)) d1356 u1356) → (134217728 ≤ nmv (rdF (en_1356 7)) d1356 u1356 + mm1356 ∧ nmv (rdF (en 7)) d u ≤ nmv (rdF (en_1356 7)) d1356 u1356) → (KP en en_1356) → lv_has ls 2 [(0, .ref (ad 0)), (1, .int (nI n))] → Hp D (Af cs ad sz) (Af cs ad sz) s.heap H locs cs ad en_1356 → W p l e (headSpec (Cond.code yX12_next cX12_next 2 (some .boolean) :: TB) (rmN 2)).room s m ([.ref (ad 0), .int (nI n)] : List Value).toArray below meth c H locs 0 0 (MQ below (va_Qi (S := Nat → va_E) (fun r en1 => RX cy cs ad en1 ∧ (∀ c, (c ≠ 0 ∧ c ≠ 6 ∧ c ≠ 7) → en1 c = en c) ∧ (r = 0 ∨ (r = 1 ∧ ∃ u1, ND en1 n (n - 1) u1 ∧ 1 ≤ u1 ∧ nmv (rdF (en 7)) d u < nmv (rdF (en1 7)) (n - 1) u1)) ∧ KP en en1) (PostM D cs ad) (Af cs ad sz)) ([.ref (ad 0), .int (nI n)] : List Value).toArray s 0 0 (Af cs ad sz)) (F0 m 18 ls []) := by
        intro fu
        induction fu with
        | zero => intro mm1356 d1356 u1356 en_1356 ls H locs h2; exact absurd h2 (by omega)
        | succ fu ih_1356 =>
          intro mm1356 d1356 u1356 en_1356 ls H locs hmm_1356 hI_1356 hf_1356 i0_1356 i1_1356 i2_1356 i3_1356 hl hh
          have hlt_1356 := nmv_lt i1_1356 (by omega)
          refine lv_aload_n hx hb dX12_next_18 rfl (lv_at hl 0 rfl) ?_
          obtain ⟨fa_1357, hi_1357, wd_1357, mo_1357, tb_1357, dp_1357, many_1357, grt_1357, lst_1357, nou_1357, rm_1357, rb_1357, pr_1357, wo_1357, es1357, p0_1357, p1_1357, p2_1357, p3_1357, p4_1357⟩ := getr_M hI_1356
          have hq2_1358 : wd_1357 = wd := n_eq ((show nI wd_1357 = rdI (en_1356 0) 2 from by rw [es1357]; rfl).trans (i3_1356.2.1.trans (show rdI (en 0) 2 = nI wd from by rw [es1315]; rfl))) (by omega) (by omega)
          have hq3_1358 : mo_1357 = mo := n_eq ((show nI mo_1357 = rdI (en_1356 0) 3 from by rw [es1357]; rfl).trans (i3_1356.2.2.1.trans (show rdI (en 0) 3 = nI mo from by rw [es1315]; rfl))) (by omega) (by omega)
          have hq4_1358 : tb_1357 = tb := n_eq ((show nI tb_1357 = rdI (en_1356 0) 4 from by rw [es1357]; rfl).trans (i3_1356.2.2.2.1.trans (show rdI (en 0) 4 = nI tb from by rw [es1315]; rfl))) (by omega) (by omega)
          have hq30_1358 : wo_1357 = wo := n_eq ((show nI wo_1357 = rdI (en_1356 0) 30 from by rw [es1357]; rfl).trans (i3_1356.2.2.2.2.2.trans (show rdI (en 0) 30 = nI wo from by rw [es1315]; rfl))) (by omega) (by omega)
          rw [hq2_1358, hq3_1358, hq4_1358, hq30_1358] at es1357
          have hdp_1359 : dp_1357 = nI d1356 := (show dp_1357 = rdI (en_1356 0) 14 from by rw [es1357]; rfl).trans (i0_1356.1)
          rw [hdp_1359] at es1357
          refine hp_get hx hb hts ix12 hown hK hh (q := 0) rfl (hI.1 _ (by decide)) es1357 rfl 14 (by decide) (hts _ tw_893) (fun _ h9 => h9) rfl dX12_next_19 ?_
          refine lv_if_lt (tgt := 183) hx hb dX12_next_22 (by decide) (fun c_1360 => ?_) (fun c_1360 => ?_)
          · have n_1360 : d1356 < 0 := n_lt (a := d1356) (b := 0) c_1360 (by omega) (by decide)
            exact absurd n_1360 (by omega)
          · have n_1360 : 0 ≤ d1356 := n_nlt (a := d1356) (b := 0) c_1360 (by omega) (by decide)
            refine lv_aload_n hx hb dX12_next_25 rfl (lv_at hl 0 rfl) ?_
            refine hp_get hx hb hts ix12 hown hK hh (q := 0) rfl (hI.1 _ (by decide)) es1357 rfl 11 (by decide) (hts _ tw_890) (fun _ h9 => h9) rfl dX12_next_26 ?_
            refine lv_aload_n hx hb dX12_next_29 rfl (lv_at hl 0 rfl) ?_
            refine hp_get hx hb hts ix12 hown hK hh (q := 0) rfl (hI.1 _ (by decide)) es1357 rfl 14 (by decide) (hts _ tw_893) (fun _ h9 => h9) rfl dX12_next_30 ?_
            refine lv_dup2_11 hx hb dX12_next_33 rfl rfl ?_
            obtain ⟨f_1361, es1361⟩ := getr_nw hI_1356
            refine hp_iald hx hb hK hh (q := 7) rfl (hI.1 _ (by decide)) es1361 (vp_in_nI (n := d1356) (by omega) (by decide)) dX12_next_34 ?_
            rw [nI_clamp (n := d1356) (by omega)]
            refine lv_iconst (v := 1) hx hb dX12_next_35 (by decide) ?_
            refine lv_iadd hx hb dX12_next_36 ?_
            rw [show f_1361 d1356 + 1 = nI u1356 from (show f_1361 d1356 + 1 = rdF (en_1356 7) d1356 + 1 from by rw [es1361]; rfl).trans i1_1356.2.1]
            refine hp_iast hx hb hK hh (q := 7) rfl (hI.1 _ (by decide)) es1361 (vp_in_nI (n := d1356) (by omega) (by decide)) dX12_next_37 (fun H locs en_1362 hen_1362 hh => ?_)
            rw [nI_clamp (n := d1356) (by omega)] at hen_1362
            have es1357_1362 : en_1362 0 = .inr (11, [.int fa_1357, .int hi_1357, .int (nI wd), .int (nI mo), .int (nI tb), .ref (ad 1), .ref (ad 2), .ref (ad 3), .ref (ad 4), .ref (ad 5), .ref (ad 6), .ref (ad 7), .ref (ad 8), .ref (ad 9), .int (nI d1356), .long many_1357, .long grt_1357, .long lst_1357, .long nou_1357, .ref (ad 10), .ref (ad 11), .ref (ad 12), .int rm_1357, .long rb_1357, .ref (ad 13), .int pr_1357, .ref (ad 14), .ref (ad 15), .ref (ad 16), .ref (ad 17), .int (nI wo), .ref (ad 18), .ref (ad 19)]) := by rw [hen_1362, va_up_ne _ _ (by decide)]; exact es1357
            have es1361_1362 : en_1362 7 = .inl (cy 0, 13, .inl (upd f_1361 d1356 (nI u1356))) := by rw [hen_1362]; exact va_up_self _ _ _
            have hI_1362 : RX cy cs ad en_1362 := by rw [hen_1362]; exact upr_nw hI_1356 ⟨(upd f_1361 d1356 (nI u1356)), rfl⟩
            have hf_1362 : ∀ c, (c ≠ 0 ∧ c ≠ 6 ∧ c ≠ 7) → en_1362 c = en c := fun c hc => Eq.trans (show en_1362 c = en_1356 c from by rw [hen_1362, va_up_ne _ _ (by omega)]) (hf_1356 c hc)
            have hkp_1362 : KP en en_1362 := KP_same i3_1356 (show en_1362 0 = en_1356 0 from by rw [hen_1362, va_up_ne _ _ (by decide)])
            have hno_1362 : ∀ i, i ≠ d1356 → rdF (en_1362 7) i = rdF (en_1356 7) i := fun i hi => by rw [es1361_1362, es1361]; exact pk_un hi
            have hnv_1362 : rdF (en_1362 7) d1356 = (nI u1356) := by rw [es1361_1362]; exact pk_us
            have loop_1363 : ∀ (fu mm1363 : Nat)  (w1363 : Nat) (en_1363 : Nat → va_E) (ls : Array Slot) (H : Heap) (locs : List Loc), mm1363 < fu → RX cy cs ad en_1363 → (∀ c, (c ≠ 0 ∧ c ≠ 6 ∧ c ≠ 7) → en_1363 c = en c) → (rdI (en_1363 0) 14 = nI d1356) → (rdF (en_1363 7) d1356 = nI w1363 ∧ u1356 ≤ w1363 ∧ w1363 ≤ 6) → (∀ i, i < d1356 → rdF (en_1363 7) i = rdF (en_1356 7) i) → (7 ≤ w1363 + mm1363) → (KP en en_1363) → lv_has ls 2 [(0, .ref (ad 0)), (1, .int (nI n))] → Hp D (Af cs ad sz) (Af cs ad sz) s.heap H locs cs ad en_1363 → W p l e (headSpec (Cond.code yX12_next cX12_next 2 (some .boolean) :: TB) (rmN 2)).room s m ([.ref (ad 0), .int (nI n)] : List Value).toArray below meth c H locs 0 0 (MQ below (va_Qi (S := Nat → va_E) (fun r en1 => RX cy cs ad en1 ∧ (∀ c, (c ≠ 0 ∧ c ≠ 6 ∧ c ≠ 7) → en1 c = en c) ∧ (r = 0 ∨ (r = 1 ∧ ∃ u1, ND en1 n (n - 1) u1 ∧ 1 ≤ u1 ∧ nmv (rdF (en 7)) d u < nmv (rdF (en1 7)) (n - 1) u1)) ∧ KP en en1) (PostM D cs ad) (Af cs ad sz)) ([.ref (ad 0), .int (nI n)] : List Value).toArray s 0 0 (Af cs ad sz)) (F0 m 38 ls []) := by
              intro fu
              induction fu with
              | zero => intro mm1363 w1363 en_1363 ls H locs h2; exact absurd h2 (by omega)
              | succ fu ih_1363 =>
                intro mm1363 w1363 en_1363 ls H locs hmm_1363 hI_1363 hf_1363 i0_1363 i1_1363 i2_1363 i3_1363 i4_1363 hl hh
                refine lv_aload_n hx hb dX12_next_38 rfl (lv_at hl 0 rfl) ?_
                obtain ⟨fa_1364, hi_1364, wd_1364, mo_1364, tb_1364, dp_1364, many_1364, grt_1364, lst_1364, nou_1364, rm_1364, rb_1364, pr_1364, wo_1364, es1364, p0_1364, p1_1364, p2_1364, p3_1364, p4_1364⟩ := getr_M hI_1363
                have hq2_1365 : wd_1364 = wd := n_eq ((show nI wd_1364 = rdI (en_1363 0) 2 from by rw [es1364]; rfl).trans (i4_1363.2.1.trans (show rdI (en 0) 2 = nI wd from by rw [es1315]; rfl))) (by omega) (by omega)
                have hq3_1365 : mo_1364 = mo := n_eq ((show nI mo_1364 = rdI (en_1363 0) 3 from by rw [es1364]; rfl).trans (i4_1363.2.2.1.trans (show rdI (en 0) 3 = nI mo from by rw [es1315]; rfl))) (by omega) (by omega)
                have hq4_1365 : tb_1364 = tb := n_eq ((show nI tb_1364 = rdI (en_1363 0) 4 from by rw [es1364]; rfl).trans (i4_1363.2.2.2.1.trans (show rdI (en 0) 4 = nI tb from by rw [es1315]; rfl))) (by omega) (by omega)
                have hq30_1365 : wo_1364 = wo := n_eq ((show nI wo_1364 = rdI (en_1363 0) 30 from by rw [es1364]; rfl).trans (i4_1363.2.2.2.2.2.trans (show rdI (en 0) 30 = nI wo from by rw [es1315]; rfl))) (by omega) (by omega)
                rw [hq2_1365, hq3_1365, hq4_1365, hq30_1365] at es1364
                have hdp_1366 : dp_1364 = nI d1356 := (show dp_1364 = rdI (en_1363 0) 14 from by rw [es1364]; rfl).trans (i0_1363)
                rw [hdp_1366] at es1364
                refine hp_get hx hb hts ix12 hown hK hh (q := 0) rfl (hI.1 _ (by decide)) es1364 rfl 11 (by decide) (hts _ tw_890) (fun _ h9 => h9) rfl dX12_next_39 ?_
                refine lv_aload_n hx hb dX12_next_42 rfl (lv_at hl 0 rfl) ?_
                refine hp_get hx hb hts ix12 hown hK hh (q := 0) rfl (hI.1 _ (by decide)) es1364 rfl 14 (by decide) (hts _ tw_893) (fun _ h9 => h9) rfl dX12_next_43 ?_
                obtain ⟨f_1367, es1367⟩ := getr_nw hI_1363
                refine hp_iald hx hb hK hh (q := 7) rfl (hI.1 _ (by decide)) es1367 (vp_in_nI (n := d1356) (by omega) (by decide)) dX12_next_46 ?_
                rw [nI_clamp (n := d1356) (by omega)]
                rw [show f_1367 d1356 = nI w1363 from (show f_1367 d1356 = rdF (en_1363 7) d1356 from by rw [es1367]; rfl).trans i1_1363.1]
                refine lv_aload_n hx hb dX12_next_47 rfl (lv_at hl 0 rfl) ?_
                refine hp_get hx hb hts ix12 hown hK hh (q := 0) rfl (hI.1 _ (by decide)) es1364 rfl 4 (by decide) (hts _ tw_883) (fun _ h9 => h9) rfl dX12_next_48 ?_
                refine lv_icmp_ge (tgt := 104) hx hb dX12_next_51 (by decide) (fun c_1368 => ?_) (fun c_1368 => ?_)
                · have n_1368 : tb ≤ w1363 := n_le (a := tb) (b := w1363) c_1368 (by omega) (by omega)
                  refine lv_aload_n hx hb dX12_next_104 rfl (lv_at hl 0 rfl) ?_
                  refine hp_get hx hb hts ix12 hown hK hh (q := 0) rfl (hI.1 _ (by decide)) es1364 rfl 11 (by decide) (hts _ tw_890) (fun _ h9 => h9) rfl dX12_next_105 ?_
                  refine lv_aload_n hx hb dX12_next_108 rfl (lv_at hl 0 rfl) ?_
                  refine hp_get hx hb hts ix12 hown hK hh (q := 0) rfl (hI.1 _ (by decide)) es1364 rfl 14 (by decide) (hts _ tw_893) (fun _ h9 => h9) rfl dX12_next_109 ?_
                  refine hp_iald hx hb hK hh (q := 7) rfl (hI.1 _ (by decide)) es1367 (vp_in_nI (n := d1356) (by omega) (by decide)) dX12_next_112 ?_
                  rw [nI_clamp (n := d1356) (by omega)]
                  rw [show f_1367 d1356 = nI w1363 from (show f_1367 d1356 = rdF (en_1363 7) d1356 from by rw [es1367]; rfl).trans i1_1363.1]
                  refine lv_aload_n hx hb dX12_next_113 rfl (lv_at hl 0 rfl) ?_
                  refine hp_get hx hb hts ix12 hown hK hh (q := 0) rfl (hI.1 _ (by decide)) es1364 rfl 4 (by decide) (hts _ tw_883) (fun _ h9 => h9) rfl dX12_next_114 ?_
                  refine lv_icmp_lt (tgt := 133) hx hb dX12_next_117 (by decide) (fun c_1369 => ?_) (fun c_1369 => ?_)
                  · have n_1369 : w1363 < tb := n_lt (a := w1363) (b := tb) c_1369 (by omega) (by omega)
                    exact absurd n_1369 (by omega)
                  · have n_1369 : tb ≤ w1363 := n_nlt (a := w1363) (b := tb) c_1369 (by omega) (by omega)
                    rcases Nat.eq_zero_or_pos d1356 with hz9 | hz9
                    · have hz8 := hz9
                      refine lv_aload_n hx hb dX12_next_120 rfl (lv_at hl 0 rfl) ?_
                      refine lv_dup hx hb dX12_next_121 rfl ?_
                      refine hp_get hx hb hts ix12 hown hK hh (q := 0) rfl (hI.1 _ (by decide)) es1364 rfl 14 (by decide) (hts _ tw_893) (fun _ h9 => h9) rfl dX12_next_122 ?_
                      refine lv_iconst (v := 1) hx hb dX12_next_125 (by decide) ?_
                      refine lv_isub hx hb dX12_next_126 ?_
                      rw [show nI d1356 - (1 : Int32) = -1 from by rw [hz9]; decide]
                      refine hp_put hx hb hts ix12 tyX12 tyX12_ok nmX12 hown hK hh (q := 0) rfl (hI.1 _ (by decide)) es1364 rfl 14 (by decide) (hts _ tw_893) (fun _ h9 => h9) rfl (ty := .int) (by decide +kernel) rfl rfl (Nat.le_of_ble_eq_true rfl) dX12_next_127 (fun H locs en_1370 hen_1370 hh => ?_)
                      have es1367_1370 : en_1370 7 = .inl (cy 0, 13, .inl f_1367) := by rw [hen_1370, va_up_ne _ _ (by decide)]; exact es1367
                      have es1364_1370 : en_1370 0 = .inr (11, [.int fa_1364, .int hi_1364, .int (nI wd), .int (nI mo), .int (nI tb), .ref (ad 1), .ref (ad 2), .ref (ad 3), .ref (ad 4), .ref (ad 5), .ref (ad 6), .ref (ad 7), .ref (ad 8), .ref (ad 9), .int (-1), .long many_1364, .long grt_1364, .long lst_1364, .long nou_1364, .ref (ad 10), .ref (ad 11), .ref (ad 12), .int rm_1364, .long rb_1364, .ref (ad 13), .int pr_1364, .ref (ad 14), .ref (ad 15), .ref (ad 16), .ref (ad 17), .int (nI wo), .ref (ad 18), .ref (ad 19)]) := by rw [hen_1370]; exact va_up_self _ _ _
                      have hI_1370 : RX cy cs ad en_1370 := by rw [hen_1370]; exact upr_M hI_1363 ⟨fa_1364, hi_1364, wd, mo, tb, (-1), many_1364, grt_1364, lst_1364, nou_1364, rm_1364, rb_1364, pr_1364, wo, rfl, hwd2, hwd3, hmo, htb, hwo⟩
                      have hf_1370 : ∀ c, (c ≠ 0 ∧ c ≠ 6 ∧ c ≠ 7) → en_1370 c = en c := fun c hc => Eq.trans (show en_1370 c = en_1363 c from by rw [hen_1370, va_up_ne _ _ (by omega)]) (hf_1363 c hc)
                      have hkp_1370 : KP en en_1370 := KP_fv i4_1363 es1364 es1364_1370 hi_1364 (nI wd) (nI mo) (nI tb) pr_1364 (nI wo) rfl rfl rfl rfl rfl rfl rfl rfl rfl rfl rfl rfl
                      have hg7_1370 : ∀ i, rdF (en_1370 7) i = rdF (en_1363 7) i := fun i => by rw [hen_1370, va_up_ne _ _ (by decide)]
                      have ha_1370 : ∀ i, i < d1356 → rdF (en_1370 7) i = rdF (en_1356 7) i := fun i hi => (hg7_1370 i).trans (i2_1363 i hi)
                      have hwv_1370 : rdF (en_1370 7) d1356 = nI w1363 := (hg7_1370 d1356).trans i1_1363.1
                      refine lv_goto (tgt := 18) hx hb dX12_next_130 (by decide) ?_
                      refine lv_aload_n hx hb dX12_next_18 rfl (lv_at hl 0 rfl) ?_
                      refine hp_get hx hb hts ix12 hown hK hh (q := 0) rfl (hI.1 _ (by decide)) es1364_1370 rfl 14 (by decide) (hts _ tw_893) (fun _ h9 => h9) rfl dX12_next_19 ?_
                      refine lv_if_lt (tgt := 183) hx hb dX12_next_22 (by decide) (fun _ => ?_) (fun c_0 => absurd c_0 (by decide))
                      refine lv_iconst (v := 0) hx hb dX12_next_183 (by decide) ?_
                      exact hp_iretM hx hb hr rfl hlocks hh (⟨hI_1370, hf_1370, Or.inl rfl, hkp_1370⟩) dX12_next_184
                    · obtain ⟨v_1371, hv_1371, hve_1371⟩ := i1_1356.1 (d1356 - 1) (by omega)
                      refine lv_aload_n hx hb dX12_next_120 rfl (lv_at hl 0 rfl) ?_
                      refine lv_dup hx hb dX12_next_121 rfl ?_
                      refine hp_get hx hb hts ix12 hown hK hh (q := 0) rfl (hI.1 _ (by decide)) es1364 rfl 14 (by decide) (hts _ tw_893) (fun _ h9 => h9) rfl dX12_next_122 ?_
                      refine lv_iconst (v := 1) hx hb dX12_next_125 (by decide) ?_
                      refine lv_isub hx hb dX12_next_126 ?_
                      rw [show (1 : Int32) = nI 1 from rfl, pk_sub (a := d1356) (b := 1) (by omega)]
                      refine hp_put hx hb hts ix12 tyX12 tyX12_ok nmX12 hown hK hh (q := 0) rfl (hI.1 _ (by decide)) es1364 rfl 14 (by decide) (hts _ tw_893) (fun _ h9 => h9) rfl (ty := .int) (by decide +kernel) rfl rfl (Nat.le_of_ble_eq_true rfl) dX12_next_127 (fun H locs en_1372 hen_1372 hh => ?_)
                      have es1367_1372 : en_1372 7 = .inl (cy 0, 13, .inl f_1367) := by rw [hen_1372, va_up_ne _ _ (by decide)]; exact es1367
                      have es1364_1372 : en_1372 0 = .inr (11, [.int fa_1364, .int hi_1364, .int (nI wd), .int (nI mo), .int (nI tb), .ref (ad 1), .ref (ad 2), .ref (ad 3), .ref (ad 4), .ref (ad 5), .ref (ad 6), .ref (ad 7), .ref (ad 8), .ref (ad 9), .int (nI (d1356 - 1)), .long many_1364, .long grt_1364, .long lst_1364, .long nou_1364, .ref (ad 10), .ref (ad 11), .ref (ad 12), .int rm_1364, .long rb_1364, .ref (ad 13), .int pr_1364, .ref (ad 14), .ref (ad 15), .ref (ad 16), .ref (ad 17), .int (nI wo), .ref (ad 18), .ref (ad 19)]) := by rw [hen_1372]; exact va_up_self _ _ _
                      have hI_1372 : RX cy cs ad en_1372 := by rw [hen_1372]; exact upr_M hI_1363 ⟨fa_1364, hi_1364, wd, mo, tb, (nI (d1356 - 1)), many_1364, grt_1364, lst_1364, nou_1364, rm_1364, rb_1364, pr_1364, wo, rfl, hwd2, hwd3, hmo, htb, hwo⟩
                      have hf_1372 : ∀ c, (c ≠ 0 ∧ c ≠ 6 ∧ c ≠ 7) → en_1372 c = en c := fun c hc => Eq.trans (show en_1372 c = en_1363 c from by rw [hen_1372, va_up_ne _ _ (by omega)]) (hf_1363 c hc)
                      have hkp_1372 : KP en en_1372 := KP_fv i4_1363 es1364 es1364_1372 hi_1364 (nI wd) (nI mo) (nI tb) pr_1364 (nI wo) rfl rfl rfl rfl rfl rfl rfl rfl rfl rfl rfl rfl
                      have hg7_1372 : ∀ i, rdF (en_1372 7) i = rdF (en_1363 7) i := fun i => by rw [hen_1372, va_up_ne _ _ (by decide)]
                      have ha_1372 : ∀ i, i < d1356 → rdF (en_1372 7) i = rdF (en_1356 7) i := fun i hi => (hg7_1372 i).trans (i2_1363 i hi)
                      have hwv_1372 : rdF (en_1372 7) d1356 = nI w1363 := (hg7_1372 d1356).trans i1_1363.1
                      refine lv_goto (tgt := 18) hx hb dX12_next_130 (by decide) ?_
                      have hNB_1373 := NWp_back i1_1356 (by omega) (by omega) ha_1372 hv_1371 hve_1371
                      exact ih_1356 (mm1356 - 1) (d1356 - 1) (v_1371 + 1) en_1372 ls H locs (by omega) hI_1372 hf_1372 (⟨by rw [es1364_1372]; rfl, by omega⟩) (hNB_1373.1) (by have h1 := hNB_1373.2; have h2 := i2_1356; omega) (hkp_1372) (lv_sub hl [0, 1] rfl) hh
                · have n_1368 : w1363 < tb := n_nle (a := tb) (b := w1363) c_1368 (by omega) (by omega)
                  refine lv_aload_n hx hb dX12_next_54 rfl (lv_at hl 0 rfl) ?_
                  refine hp_get hx hb hts ix12 hown hK hh (q := 0) rfl (hI.1 _ (by decide)) es1364 rfl 14 (by decide) (hts _ tw_893) (fun _ h9 => h9) rfl dX12_next_55 ?_
                  refine lv_if_le (tgt := 104) hx hb dX12_next_58 (by decide) (fun c_1374 => ?_) (fun c_1374 => ?_)
                  · have n_1374 : d1356 ≤ 0 := n_le (a := d1356) (b := 0) c_1374 (by omega) (by decide)
                    refine lv_aload_n hx hb dX12_next_104 rfl (lv_at hl 0 rfl) ?_
                    refine hp_get hx hb hts ix12 hown hK hh (q := 0) rfl (hI.1 _ (by decide)) es1364 rfl 11 (by decide) (hts _ tw_890) (fun _ h9 => h9) rfl dX12_next_105 ?_
                    refine lv_aload_n hx hb dX12_next_108 rfl (lv_at hl 0 rfl) ?_
                    refine hp_get hx hb hts ix12 hown hK hh (q := 0) rfl (hI.1 _ (by decide)) es1364 rfl 14 (by decide) (hts _ tw_893) (fun _ h9 => h9) rfl dX12_next_109 ?_
                    refine hp_iald hx hb hK hh (q := 7) rfl (hI.1 _ (by decide)) es1367 (vp_in_nI (n := d1356) (by omega) (by decide)) dX12_next_112 ?_
                    rw [nI_clamp (n := d1356) (by omega)]
                    rw [show f_1367 d1356 = nI w1363 from (show f_1367 d1356 = rdF (en_1363 7) d1356 from by rw [es1367]; rfl).trans i1_1363.1]
                    refine lv_aload_n hx hb dX12_next_113 rfl (lv_at hl 0 rfl) ?_
                    refine hp_get hx hb hts ix12 hown hK hh (q := 0) rfl (hI.1 _ (by decide)) es1364 rfl 4 (by decide) (hts _ tw_883) (fun _ h9 => h9) rfl dX12_next_114 ?_
                    refine lv_icmp_lt (tgt := 133) hx hb dX12_next_117 (by decide) (fun c_1375 => ?_) (fun c_1375 => ?_)
                    · have n_1375 : w1363 < tb := n_lt (a := w1363) (b := tb) c_1375 (by omega) (by omega)
                      refine lv_aload_n hx hb dX12_next_133 rfl (lv_at hl 0 rfl) ?_
                      refine lv_aload_n hx hb dX12_next_134 rfl (lv_at hl 0 rfl) ?_
                      refine hp_get hx hb hts ix12 hown hK hh (q := 0) rfl (hI.1 _ (by decide)) es1364 rfl 14 (by decide) (hts _ tw_893) (fun _ h9 => h9) rfl dX12_next_135 ?_
                      refine lv_aload_n hx hb dX12_next_138 rfl (lv_at hl 0 rfl) ?_
                      refine hp_get hx hb hts ix12 hown hK hh (q := 0) rfl (hI.1 _ (by decide)) es1364 rfl 11 (by decide) (hts _ tw_890) (fun _ h9 => h9) rfl dX12_next_139 ?_
                      refine lv_aload_n hx hb dX12_next_142 rfl (lv_at hl 0 rfl) ?_
                      refine hp_get hx hb hts ix12 hown hK hh (q := 0) rfl (hI.1 _ (by decide)) es1364 rfl 14 (by decide) (hts _ tw_893) (fun _ h9 => h9) rfl dX12_next_143 ?_
                      refine hp_iald hx hb hK hh (q := 7) rfl (hI.1 _ (by decide)) es1367 (vp_in_nI (n := d1356) (by omega) (by decide)) dX12_next_146 ?_
                      rw [nI_clamp (n := d1356) (by omega)]
                      rw [show f_1367 d1356 = nI w1363 from (show f_1367 d1356 = rdF (en_1363 7) d1356 from by rw [es1367]; rfl).trans i1_1363.1]
                      refine hp_callMv (va_runV (As := [.int (nI d1356), .int (nI w1363)]) (rest := []) ⟨hx, hb, hml, hown, hts⟩ (c_X12_goOn l D cy _ cs ad en_1363 hI_1363 d1356 w1363 (by omega) (by omega)) (kw_X12_goOn hts tw_1050 ⟨by decide, by decide⟩) (preV_of hh hK (hI.1 _ (by decide)) es1364 rfl) rfl rfl hl.1 rfl (lv_room (Nat.le_of_ble_eq_true rfl)) dX12_next_147 ⟨Nat.le_of_ble_eq_true rfl, Nat.le_of_ble_eq_true rfl⟩) hh hA (fun H locs en_1376 hw_1376 hh => ?_)
                      obtain ⟨hI_1376, hu_1376, hx_1376⟩ := hw_1376
                      have es1364_1376 : en_1376 0 = .inr (11, [.int fa_1364, .int hi_1364, .int (nI wd), .int (nI mo), .int (nI tb), .ref (ad 1), .ref (ad 2), .ref (ad 3), .ref (ad 4), .ref (ad 5), .ref (ad 6), .ref (ad 7), .ref (ad 8), .ref (ad 9), .int (nI d1356), .long many_1364, .long grt_1364, .long lst_1364, .long nou_1364, .ref (ad 10), .ref (ad 11), .ref (ad 12), .int rm_1364, .long rb_1364, .ref (ad 13), .int pr_1364, .ref (ad 14), .ref (ad 15), .ref (ad 16), .ref (ad 17), .int (nI wo), .ref (ad 18), .ref (ad 19)]) := (hu_1376 0 (by omega)).trans es1364
                      have es1367_1376 : en_1376 7 = .inl (cy 0, 13, .inl f_1367) := (hu_1376 7 (by omega)).trans es1367
                      have hf_1376 : ∀ c, (c ≠ 0 ∧ c ≠ 6 ∧ c ≠ 7) → en_1376 c = en c := fun c hc => (hu_1376 c (by omega)).trans (hf_1363 c hc)
                      have hkp_1376 : KP en en_1376 := KP_same i4_1363 (hu_1376 0 (by omega))
                      have hg7_1376 : ∀ i, rdF (en_1376 7) i = rdF (en_1363 7) i := fun i => by rw [hu_1376 7 (by omega)]
                      have ha_1376 : ∀ i, i < d1356 → rdF (en_1376 7) i = rdF (en_1356 7) i := fun i hi => (hg7_1376 i).trans (i2_1363 i hi)
                      have hwv_1376 : rdF (en_1376 7) d1356 = nI w1363 := (hg7_1376 d1356).trans i1_1363.1
                      refine lv_aload_n hx hb dX12_next_150 rfl (lv_at hl 0 rfl) ?_
                      refine lv_dup hx hb dX12_next_151 rfl ?_
                      refine hp_get hx hb hts ix12 hown hK hh (q := 0) rfl (hI.1 _ (by decide)) es1364_1376 rfl 14 (by decide) (hts _ tw_893) (fun _ h9 => h9) rfl dX12_next_152 ?_
                      refine lv_iconst (v := 1) hx hb dX12_next_155 (by decide) ?_
                      refine lv_iadd hx hb dX12_next_156 ?_
                      rw [show (1 : Int32) = nI 1 from rfl, nI_add d1356 1]
                      refine hp_put hx hb hts ix12 tyX12 tyX12_ok nmX12 hown hK hh (q := 0) rfl (hI.1 _ (by decide)) es1364_1376 rfl 14 (by decide) (hts _ tw_893) (fun _ h9 => h9) rfl (ty := .int) (by decide +kernel) rfl rfl (Nat.le_of_ble_eq_true rfl) dX12_next_157 (fun H locs en_1377 hen_1377 hh => ?_)
                      have es1367_1377 : en_1377 7 = .inl (cy 0, 13, .inl f_1367) := by rw [hen_1377, va_up_ne _ _ (by decide)]; exact es1367_1376
                      have es1364_1377 : en_1377 0 = .inr (11, [.int fa_1364, .int hi_1364, .int (nI wd), .int (nI mo), .int (nI tb), .ref (ad 1), .ref (ad 2), .ref (ad 3), .ref (ad 4), .ref (ad 5), .ref (ad 6), .ref (ad 7), .ref (ad 8), .ref (ad 9), .int (nI (d1356 + 1)), .long many_1364, .long grt_1364, .long lst_1364, .long nou_1364, .ref (ad 10), .ref (ad 11), .ref (ad 12), .int rm_1364, .long rb_1364, .ref (ad 13), .int pr_1364, .ref (ad 14), .ref (ad 15), .ref (ad 16), .ref (ad 17), .int (nI wo), .ref (ad 18), .ref (ad 19)]) := by rw [hen_1377]; exact va_up_self _ _ _
                      have hI_1377 : RX cy cs ad en_1377 := by rw [hen_1377]; exact upr_M hI_1376 ⟨fa_1364, hi_1364, wd, mo, tb, (nI (d1356 + 1)), many_1364, grt_1364, lst_1364, nou_1364, rm_1364, rb_1364, pr_1364, wo, rfl, hwd2, hwd3, hmo, htb, hwo⟩
                      have hf_1377 : ∀ c, (c ≠ 0 ∧ c ≠ 6 ∧ c ≠ 7) → en_1377 c = en c := fun c hc => Eq.trans (show en_1377 c = en_1376 c from by rw [hen_1377, va_up_ne _ _ (by omega)]) (hf_1376 c hc)
                      have hkp_1377 : KP en en_1377 := KP_fv hkp_1376 es1364_1376 es1364_1377 hi_1364 (nI wd) (nI mo) (nI tb) pr_1364 (nI wo) rfl rfl rfl rfl rfl rfl rfl rfl rfl rfl rfl rfl
                      have hg7_1377 : ∀ i, rdF (en_1377 7) i = rdF (en_1376 7) i := fun i => by rw [hen_1377, va_up_ne _ _ (by decide)]
                      have ha_1377 : ∀ i, i < d1356 → rdF (en_1377 7) i = rdF (en_1356 7) i := fun i hi => (hg7_1377 i).trans (ha_1376 i hi)
                      have hwv_1377 : rdF (en_1377 7) d1356 = nI w1363 := (hg7_1377 d1356).trans hwv_1376
                      refine lv_aload_n hx hb dX12_next_160 rfl (lv_at hl 0 rfl) ?_
                      refine hp_get hx hb hts ix12 hown hK hh (q := 0) rfl (hI.1 _ (by decide)) es1364_1377 rfl 14 (by decide) (hts _ tw_893) (fun _ h9 => h9) rfl dX12_next_161 ?_
                      refine lv_iload_n hx hb dX12_next_164 rfl (lv_at hl 1 rfl) ?_
                      refine lv_icmp_ne (tgt := 170) hx hb dX12_next_165 (by decide) (fun c_1378 => ?_) (fun c_1378 => ?_)
                      · have n_1378 : (d1356 + 1) ≠ n := n_neq (a := (d1356 + 1)) (b := n) c_1378 (by omega) (by omega)
                        refine lv_aload_n hx hb dX12_next_170 rfl (lv_at hl 0 rfl) ?_
                        refine hp_get hx hb hts ix12 hown hK hh (q := 0) rfl (hI.1 _ (by decide)) es1364_1377 rfl 11 (by decide) (hts _ tw_890) (fun _ h9 => h9) rfl dX12_next_171 ?_
                        refine lv_aload_n hx hb dX12_next_174 rfl (lv_at hl 0 rfl) ?_
                        refine hp_get hx hb hts ix12 hown hK hh (q := 0) rfl (hI.1 _ (by decide)) es1364_1377 rfl 14 (by decide) (hts _ tw_893) (fun _ h9 => h9) rfl dX12_next_175 ?_
                        refine lv_iconst (v := (-1)) hx hb dX12_next_178 (by decide) ?_
                        refine hp_iast hx hb hK hh (q := 7) rfl (hI.1 _ (by decide)) es1367_1377 (vp_in_nI (n := (d1356 + 1)) (by omega) (by decide)) dX12_next_179 (fun H locs en_1379 hen_1379 hh => ?_)
                        rw [nI_clamp (n := (d1356 + 1)) (by omega)] at hen_1379
                        have es1364_1379 : en_1379 0 = .inr (11, [.int fa_1364, .int hi_1364, .int (nI wd), .int (nI mo), .int (nI tb), .ref (ad 1), .ref (ad 2), .ref (ad 3), .ref (ad 4), .ref (ad 5), .ref (ad 6), .ref (ad 7), .ref (ad 8), .ref (ad 9), .int (nI (d1356 + 1)), .long many_1364, .long grt_1364, .long lst_1364, .long nou_1364, .ref (ad 10), .ref (ad 11), .ref (ad 12), .int rm_1364, .long rb_1364, .ref (ad 13), .int pr_1364, .ref (ad 14), .ref (ad 15), .ref (ad 16), .ref (ad 17), .int (nI wo), .ref (ad 18), .ref (ad 19)]) := by rw [hen_1379, va_up_ne _ _ (by decide)]; exact es1364_1377
                        have es1367_1379 : en_1379 7 = .inl (cy 0, 13, .inl (upd f_1367 (d1356 + 1) (-1))) := by rw [hen_1379]; exact va_up_self _ _ _
                        have hI_1379 : RX cy cs ad en_1379 := by rw [hen_1379]; exact upr_nw hI_1377 ⟨(upd f_1367 (d1356 + 1) (-1)), rfl⟩
                        have hf_1379 : ∀ c, (c ≠ 0 ∧ c ≠ 6 ∧ c ≠ 7) → en_1379 c = en c := fun c hc => Eq.trans (show en_1379 c = en_1377 c from by rw [hen_1379, va_up_ne _ _ (by omega)]) (hf_1377 c hc)
                        have hkp_1379 : KP en en_1379 := KP_same hkp_1377 (show en_1379 0 = en_1377 0 from by rw [hen_1379, va_up_ne _ _ (by decide)])
                        have hno_1379 : ∀ i, i ≠ (d1356 + 1) → rdF (en_1379 7) i = rdF (en_1377 7) i := fun i hi => by rw [es1367_1379, es1367_1377]; exact pk_un hi
                        have hnv_1379 : rdF (en_1379 7) (d1356 + 1) = (-1) := by rw [es1367_1379]; exact pk_us
                        have ha_1379 : ∀ i, i < d1356 → rdF (en_1379 7) i = rdF (en_1356 7) i := fun i hi => (hno_1379 i (by omega)).trans (ha_1377 i hi)
                        have hwv_1379 : rdF (en_1379 7) d1356 = nI w1363 := (hno_1379 d1356 (by omega)).trans hwv_1377
                        refine lv_goto (tgt := 18) hx hb dX12_next_180 (by decide) ?_
                        have hNB_1380 := NWp_desc i1_1356 (by omega) ha_1379 hwv_1379 (by omega) (by omega) hnv_1379
                        exact ih_1356 (mm1356 - 1) (d1356 + 1) 0 en_1379 ls H locs (by omega) hI_1379 hf_1379 (⟨by rw [es1364_1379]; rfl, by omega⟩) (hNB_1380.1) (by have h1 := hNB_1380.2; have h2 := i2_1356; omega) (hkp_1379) (lv_sub hl [0, 1] rfl) hh
                      · have n_1378 : (d1356 + 1) = n := n_eq (a := (d1356 + 1)) (b := n) c_1378 (by omega) (by omega)
                        refine lv_iconst (v := 1) hx hb dX12_next_168 (by decide) ?_
                        have hNR_1381 := NWp_ret i1_1356 ha_1377 hwv_1377 (by omega) (by omega)
                        have hdn_1381 : n - 1 = d1356 := by omega
                        exact hp_iretM hx hb hr rfl hlocks hh (⟨hI_1377, hf_1377, Or.inr ⟨rfl, w1363 + 1, ⟨by omega, Or.inr ⟨by rw [es1364_1377]; exact congrArg nI (by omega), by omega⟩, by rw [hdn_1381]; exact hNR_1381.1⟩, by omega, by have h1 := hNR_1381.2; have h2 := i2_1356.2; rw [hdn_1381]; omega⟩, hkp_1377⟩) dX12_next_169
                    · have n_1375 : tb ≤ w1363 := n_nlt (a := w1363) (b := tb) c_1375 (by omega) (by omega)
                      exact absurd n_1375 (by omega)
                  · have n_1374 : 0 < d1356 := n_nle (a := d1356) (b := 0) c_1374 (by omega) (by decide)
                    refine lv_aload_n hx hb dX12_next_61 rfl (lv_at hl 0 rfl) ?_
                    refine lv_aload_n hx hb dX12_next_62 rfl (lv_at hl 0 rfl) ?_
                    refine hp_get hx hb hts ix12 hown hK hh (q := 0) rfl (hI.1 _ (by decide)) es1364 rfl 11 (by decide) (hts _ tw_890) (fun _ h9 => h9) rfl dX12_next_63 ?_
                    refine lv_aload_n hx hb dX12_next_66 rfl (lv_at hl 0 rfl) ?_
                    refine hp_get hx hb hts ix12 hown hK hh (q := 0) rfl (hI.1 _ (by decide)) es1364 rfl 14 (by decide) (hts _ tw_893) (fun _ h9 => h9) rfl dX12_next_67 ?_
                    refine lv_iconst (v := 1) hx hb dX12_next_70 (by decide) ?_
                    refine lv_isub hx hb dX12_next_71 ?_
                    rw [show (1 : Int32) = nI 1 from rfl, pk_sub (a := d1356) (b := 1) (by omega)]
                    refine hp_iald hx hb hK hh (q := 7) rfl (hI.1 _ (by decide)) es1367 (vp_in_nI (n := (d1356 - 1)) (by omega) (by decide)) dX12_next_72 ?_
                    rw [nI_clamp (n := (d1356 - 1)) (by omega)]
                    obtain ⟨v_1382, hv_1382, hve_1382⟩ := i1_1356.1 (d1356 - 1) (by omega)
                    rw [show f_1367 (d1356 - 1) = nI v_1382 from (show f_1367 (d1356 - 1) = rdF (en_1363 7) (d1356 - 1) from by rw [es1367]; rfl).trans ((i2_1363 (d1356 - 1) (by omega)).trans hve_1382)]
                    refine lv_aload_n hx hb dX12_next_73 rfl (lv_at hl 0 rfl) ?_
                    refine hp_get hx hb hts ix12 hown hK hh (q := 0) rfl (hI.1 _ (by decide)) es1364 rfl 11 (by decide) (hts _ tw_890) (fun _ h9 => h9) rfl dX12_next_74 ?_
                    refine lv_aload_n hx hb dX12_next_77 rfl (lv_at hl 0 rfl) ?_
                    refine hp_get hx hb hts ix12 hown hK hh (q := 0) rfl (hI.1 _ (by decide)) es1364 rfl 14 (by decide) (hts _ tw_893) (fun _ h9 => h9) rfl dX12_next_78 ?_
                    refine hp_iald hx hb hK hh (q := 7) rfl (hI.1 _ (by decide)) es1367 (vp_in_nI (n := d1356) (by omega) (by decide)) dX12_next_81 ?_
                    rw [nI_clamp (n := d1356) (by omega)]
                    rw [show f_1367 d1356 = nI w1363 from (show f_1367 d1356 = rdF (en_1363 7) d1356 from by rw [es1367]; rfl).trans i1_1363.1]
                    refine hp_callRi (va_runV (As := [.int (nI v_1382), .int (nI w1363)]) (rest := []) ⟨hx, hb, hml, hown, hts⟩ (c_X12_mayFollow l D cy _ cs ad en_1363 hI_1363 v_1382 w1363 (by omega) (by omega)) (kw_X12_mayFollow hts tw_1029 ⟨by decide, by decide⟩) (preV_of hh hK (hI.1 _ (by decide)) es1364 rfl) rfl rfl hl.1 rfl (lv_room (Nat.le_of_ble_eq_true rfl)) dX12_next_82 ⟨Nat.le_of_ble_eq_true rfl, Nat.le_of_ble_eq_true rfl⟩) hh hA (fun r_1383 H locs hw_1383 hh => ?_)
                    rcases Decidable.em (rdF (en_1363 2) (6 * v_1382 + w1363) = 0) with hp_1383 | hp_1383
                    · obtain rfl : r_1383 = 1 := Eq.trans hw_1383 (if_pos hp_1383)
                      refine lv_if_ne (tgt := 104) hx hb dX12_next_85 (by decide) (fun _ => ?_) (fun c_0 => absurd c_0 (by decide))
                      refine lv_aload_n hx hb dX12_next_104 rfl (lv_at hl 0 rfl) ?_
                      refine hp_get hx hb hts ix12 hown hK hh (q := 0) rfl (hI.1 _ (by decide)) es1364 rfl 11 (by decide) (hts _ tw_890) (fun _ h9 => h9) rfl dX12_next_105 ?_
                      refine lv_aload_n hx hb dX12_next_108 rfl (lv_at hl 0 rfl) ?_
                      refine hp_get hx hb hts ix12 hown hK hh (q := 0) rfl (hI.1 _ (by decide)) es1364 rfl 14 (by decide) (hts _ tw_893) (fun _ h9 => h9) rfl dX12_next_109 ?_
                      refine hp_iald hx hb hK hh (q := 7) rfl (hI.1 _ (by decide)) es1367 (vp_in_nI (n := d1356) (by omega) (by decide)) dX12_next_112 ?_
                      rw [nI_clamp (n := d1356) (by omega)]
                      rw [show f_1367 d1356 = nI w1363 from (show f_1367 d1356 = rdF (en_1363 7) d1356 from by rw [es1367]; rfl).trans i1_1363.1]
                      refine lv_aload_n hx hb dX12_next_113 rfl (lv_at hl 0 rfl) ?_
                      refine hp_get hx hb hts ix12 hown hK hh (q := 0) rfl (hI.1 _ (by decide)) es1364 rfl 4 (by decide) (hts _ tw_883) (fun _ h9 => h9) rfl dX12_next_114 ?_
                      refine lv_icmp_lt (tgt := 133) hx hb dX12_next_117 (by decide) (fun c_1384 => ?_) (fun c_1384 => ?_)
                      · have n_1384 : w1363 < tb := n_lt (a := w1363) (b := tb) c_1384 (by omega) (by omega)
                        refine lv_aload_n hx hb dX12_next_133 rfl (lv_at hl 0 rfl) ?_
                        refine lv_aload_n hx hb dX12_next_134 rfl (lv_at hl 0 rfl) ?_
                        refine hp_get hx hb hts ix12 hown hK hh (q := 0) rfl (hI.1 _ (by decide)) es1364 rfl 14 (by decide) (hts _ tw_893) (fun _ h9 => h9) rfl dX12_next_135 ?_
                        refine lv_aload_n hx hb dX12_next_138 rfl (lv_at hl 0 rfl) ?_
                        refine hp_get hx hb hts ix12 hown hK hh (q := 0) rfl (hI.1 _ (by decide)) es1364 rfl 11 (by decide) (hts _ tw_890) (fun _ h9 => h9) rfl dX12_next_139 ?_
                        refine lv_aload_n hx hb dX12_next_142 rfl (lv_at hl 0 rfl) ?_
                        refine hp_get hx hb hts ix12 hown hK hh (q := 0) rfl (hI.1 _ (by decide)) es1364 rfl 14 (by decide) (hts _ tw_893) (fun _ h9 => h9) rfl dX12_next_143 ?_
                        refine hp_iald hx hb hK hh (q := 7) rfl (hI.1 _ (by decide)) es1367 (vp_in_nI (n := d1356) (by omega) (by decide)) dX12_next_146 ?_
                        rw [nI_clamp (n := d1356) (by omega)]
                        rw [show f_1367 d1356 = nI w1363 from (show f_1367 d1356 = rdF (en_1363 7) d1356 from by rw [es1367]; rfl).trans i1_1363.1]
                        refine hp_callMv (va_runV (As := [.int (nI d1356), .int (nI w1363)]) (rest := []) ⟨hx, hb, hml, hown, hts⟩ (c_X12_goOn l D cy _ cs ad en_1363 hI_1363 d1356 w1363 (by omega) (by omega)) (kw_X12_goOn hts tw_1050 ⟨by decide, by decide⟩) (preV_of hh hK (hI.1 _ (by decide)) es1364 rfl) rfl rfl hl.1 rfl (lv_room (Nat.le_of_ble_eq_true rfl)) dX12_next_147 ⟨Nat.le_of_ble_eq_true rfl, Nat.le_of_ble_eq_true rfl⟩) hh hA (fun H locs en_1385 hw_1385 hh => ?_)
                        obtain ⟨hI_1385, hu_1385, hx_1385⟩ := hw_1385
                        have es1364_1385 : en_1385 0 = .inr (11, [.int fa_1364, .int hi_1364, .int (nI wd), .int (nI mo), .int (nI tb), .ref (ad 1), .ref (ad 2), .ref (ad 3), .ref (ad 4), .ref (ad 5), .ref (ad 6), .ref (ad 7), .ref (ad 8), .ref (ad 9), .int (nI d1356), .long many_1364, .long grt_1364, .long lst_1364, .long nou_1364, .ref (ad 10), .ref (ad 11), .ref (ad 12), .int rm_1364, .long rb_1364, .ref (ad 13), .int pr_1364, .ref (ad 14), .ref (ad 15), .ref (ad 16), .ref (ad 17), .int (nI wo), .ref (ad 18), .ref (ad 19)]) := (hu_1385 0 (by omega)).trans es1364
                        have es1367_1385 : en_1385 7 = .inl (cy 0, 13, .inl f_1367) := (hu_1385 7 (by omega)).trans es1367
                        have hf_1385 : ∀ c, (c ≠ 0 ∧ c ≠ 6 ∧ c ≠ 7) → en_1385 c = en c := fun c hc => (hu_1385 c (by omega)).trans (hf_1363 c hc)
                        have hkp_1385 : KP en en_1385 := KP_same i4_1363 (hu_1385 0 (by omega))
                        have hg7_1385 : ∀ i, rdF (en_1385 7) i = rdF (en_1363 7) i := fun i => by rw [hu_1385 7 (by omega)]
                        have ha_1385 : ∀ i, i < d1356 → rdF (en_1385 7) i = rdF (en_1356 7) i := fun i hi => (hg7_1385 i).trans (i2_1363 i hi)
                        have hwv_1385 : rdF (en_1385 7) d1356 = nI w1363 := (hg7_1385 d1356).trans i1_1363.1
                        refine lv_aload_n hx hb dX12_next_150 rfl (lv_at hl 0 rfl) ?_
                        refine lv_dup hx hb dX12_next_151 rfl ?_
                        refine hp_get hx hb hts ix12 hown hK hh (q := 0) rfl (hI.1 _ (by decide)) es1364_1385 rfl 14 (by decide) (hts _ tw_893) (fun _ h9 => h9) rfl dX12_next_152 ?_
                        refine lv_iconst (v := 1) hx hb dX12_next_155 (by decide) ?_
                        refine lv_iadd hx hb dX12_next_156 ?_
                        rw [show (1 : Int32) = nI 1 from rfl, nI_add d1356 1]
                        refine hp_put hx hb hts ix12 tyX12 tyX12_ok nmX12 hown hK hh (q := 0) rfl (hI.1 _ (by decide)) es1364_1385 rfl 14 (by decide) (hts _ tw_893) (fun _ h9 => h9) rfl (ty := .int) (by decide +kernel) rfl rfl (Nat.le_of_ble_eq_true rfl) dX12_next_157 (fun H locs en_1386 hen_1386 hh => ?_)
                        have es1367_1386 : en_1386 7 = .inl (cy 0, 13, .inl f_1367) := by rw [hen_1386, va_up_ne _ _ (by decide)]; exact es1367_1385
                        have es1364_1386 : en_1386 0 = .inr (11, [.int fa_1364, .int hi_1364, .int (nI wd), .int (nI mo), .int (nI tb), .ref (ad 1), .ref (ad 2), .ref (ad 3), .ref (ad 4), .ref (ad 5), .ref (ad 6), .ref (ad 7), .ref (ad 8), .ref (ad 9), .int (nI (d1356 + 1)), .long many_1364, .long grt_1364, .long lst_1364, .long nou_1364, .ref (ad 10), .ref (ad 11), .ref (ad 12), .int rm_1364, .long rb_1364, .ref (ad 13), .int pr_1364, .ref (ad 14), .ref (ad 15), .ref (ad 16), .ref (ad 17), .int (nI wo), .ref (ad 18), .ref (ad 19)]) := by rw [hen_1386]; exact va_up_self _ _ _
                        have hI_1386 : RX cy cs ad en_1386 := by rw [hen_1386]; exact upr_M hI_1385 ⟨fa_1364, hi_1364, wd, mo, tb, (nI (d1356 + 1)), many_1364, grt_1364, lst_1364, nou_1364, rm_1364, rb_1364, pr_1364, wo, rfl, hwd2, hwd3, hmo, htb, hwo⟩
                        have hf_1386 : ∀ c, (c ≠ 0 ∧ c ≠ 6 ∧ c ≠ 7) → en_1386 c = en c := fun c hc => Eq.trans (show en_1386 c = en_1385 c from by rw [hen_1386, va_up_ne _ _ (by omega)]) (hf_1385 c hc)
                        have hkp_1386 : KP en en_1386 := KP_fv hkp_1385 es1364_1385 es1364_1386 hi_1364 (nI wd) (nI mo) (nI tb) pr_1364 (nI wo) rfl rfl rfl rfl rfl rfl rfl rfl rfl rfl rfl rfl
                        have hg7_1386 : ∀ i, rdF (en_1386 7) i = rdF (en_1385 7) i := fun i => by rw [hen_1386, va_up_ne _ _ (by decide)]
                        have ha_1386 : ∀ i, i < d1356 → rdF (en_1386 7) i = rdF (en_1356 7) i := fun i hi => (hg7_1386 i).trans (ha_1385 i hi)
                        have hwv_1386 : rdF (en_1386 7) d1356 = nI w1363 := (hg7_1386 d1356).trans hwv_1385
                        refine lv_aload_n hx hb dX12_next_160 rfl (lv_at hl 0 rfl) ?_
                        refine hp_get hx hb hts ix12 hown hK hh (q := 0) rfl (hI.1 _ (by decide)) es1364_1386 rfl 14 (by decide) (hts _ tw_893) (fun _ h9 => h9) rfl dX12_next_161 ?_
                        refine lv_iload_n hx hb dX12_next_164 rfl (lv_at hl 1 rfl) ?_
                        refine lv_icmp_ne (tgt := 170) hx hb dX12_next_165 (by decide) (fun c_1387 => ?_) (fun c_1387 => ?_)
                        · have n_1387 : (d1356 + 1) ≠ n := n_neq (a := (d1356 + 1)) (b := n) c_1387 (by omega) (by omega)
                          refine lv_aload_n hx hb dX12_next_170 rfl (lv_at hl 0 rfl) ?_
                          refine hp_get hx hb hts ix12 hown hK hh (q := 0) rfl (hI.1 _ (by decide)) es1364_1386 rfl 11 (by decide) (hts _ tw_890) (fun _ h9 => h9) rfl dX12_next_171 ?_
                          refine lv_aload_n hx hb dX12_next_174 rfl (lv_at hl 0 rfl) ?_
                          refine hp_get hx hb hts ix12 hown hK hh (q := 0) rfl (hI.1 _ (by decide)) es1364_1386 rfl 14 (by decide) (hts _ tw_893) (fun _ h9 => h9) rfl dX12_next_175 ?_
                          refine lv_iconst (v := (-1)) hx hb dX12_next_178 (by decide) ?_
                          refine hp_iast hx hb hK hh (q := 7) rfl (hI.1 _ (by decide)) es1367_1386 (vp_in_nI (n := (d1356 + 1)) (by omega) (by decide)) dX12_next_179 (fun H locs en_1388 hen_1388 hh => ?_)
                          rw [nI_clamp (n := (d1356 + 1)) (by omega)] at hen_1388
                          have es1364_1388 : en_1388 0 = .inr (11, [.int fa_1364, .int hi_1364, .int (nI wd), .int (nI mo), .int (nI tb), .ref (ad 1), .ref (ad 2), .ref (ad 3), .ref (ad 4), .ref (ad 5), .ref (ad 6), .ref (ad 7), .ref (ad 8), .ref (ad 9), .int (nI (d1356 + 1)), .long many_1364, .long grt_1364, .long lst_1364, .long nou_1364, .ref (ad 10), .ref (ad 11), .ref (ad 12), .int rm_1364, .long rb_1364, .ref (ad 13), .int pr_1364, .ref (ad 14), .ref (ad 15), .ref (ad 16), .ref (ad 17), .int (nI wo), .ref (ad 18), .ref (ad 19)]) := by rw [hen_1388, va_up_ne _ _ (by decide)]; exact es1364_1386
                          have es1367_1388 : en_1388 7 = .inl (cy 0, 13, .inl (upd f_1367 (d1356 + 1) (-1))) := by rw [hen_1388]; exact va_up_self _ _ _
                          have hI_1388 : RX cy cs ad en_1388 := by rw [hen_1388]; exact upr_nw hI_1386 ⟨(upd f_1367 (d1356 + 1) (-1)), rfl⟩
                          have hf_1388 : ∀ c, (c ≠ 0 ∧ c ≠ 6 ∧ c ≠ 7) → en_1388 c = en c := fun c hc => Eq.trans (show en_1388 c = en_1386 c from by rw [hen_1388, va_up_ne _ _ (by omega)]) (hf_1386 c hc)
                          have hkp_1388 : KP en en_1388 := KP_same hkp_1386 (show en_1388 0 = en_1386 0 from by rw [hen_1388, va_up_ne _ _ (by decide)])
                          have hno_1388 : ∀ i, i ≠ (d1356 + 1) → rdF (en_1388 7) i = rdF (en_1386 7) i := fun i hi => by rw [es1367_1388, es1367_1386]; exact pk_un hi
                          have hnv_1388 : rdF (en_1388 7) (d1356 + 1) = (-1) := by rw [es1367_1388]; exact pk_us
                          have ha_1388 : ∀ i, i < d1356 → rdF (en_1388 7) i = rdF (en_1356 7) i := fun i hi => (hno_1388 i (by omega)).trans (ha_1386 i hi)
                          have hwv_1388 : rdF (en_1388 7) d1356 = nI w1363 := (hno_1388 d1356 (by omega)).trans hwv_1386
                          refine lv_goto (tgt := 18) hx hb dX12_next_180 (by decide) ?_
                          have hNB_1389 := NWp_desc i1_1356 (by omega) ha_1388 hwv_1388 (by omega) (by omega) hnv_1388
                          exact ih_1356 (mm1356 - 1) (d1356 + 1) 0 en_1388 ls H locs (by omega) hI_1388 hf_1388 (⟨by rw [es1364_1388]; rfl, by omega⟩) (hNB_1389.1) (by have h1 := hNB_1389.2; have h2 := i2_1356; omega) (hkp_1388) (lv_sub hl [0, 1] rfl) hh
                        · have n_1387 : (d1356 + 1) = n := n_eq (a := (d1356 + 1)) (b := n) c_1387 (by omega) (by omega)
                          refine lv_iconst (v := 1) hx hb dX12_next_168 (by decide) ?_
                          have hNR_1390 := NWp_ret i1_1356 ha_1386 hwv_1386 (by omega) (by omega)
                          have hdn_1390 : n - 1 = d1356 := by omega
                          exact hp_iretM hx hb hr rfl hlocks hh (⟨hI_1386, hf_1386, Or.inr ⟨rfl, w1363 + 1, ⟨by omega, Or.inr ⟨by rw [es1364_1386]; exact congrArg nI (by omega), by omega⟩, by rw [hdn_1390]; exact hNR_1390.1⟩, by omega, by have h1 := hNR_1390.2; have h2 := i2_1356.2; rw [hdn_1390]; omega⟩, hkp_1386⟩) dX12_next_169
                      · have n_1384 : tb ≤ w1363 := n_nlt (a := w1363) (b := tb) c_1384 (by omega) (by omega)
                        exact absurd n_1384 (by omega)
                    · obtain rfl : r_1383 = 0 := Eq.trans hw_1383 (if_neg hp_1383)
                      refine lv_if_ne (tgt := 104) hx hb dX12_next_85 (by decide) (fun c_0 => absurd c_0 (by decide)) (fun _ => ?_)
                      refine lv_aload_n hx hb dX12_next_88 rfl (lv_at hl 0 rfl) ?_
                      refine hp_get hx hb hts ix12 hown hK hh (q := 0) rfl (hI.1 _ (by decide)) es1364 rfl 11 (by decide) (hts _ tw_890) (fun _ h9 => h9) rfl dX12_next_89 ?_
                      refine lv_aload_n hx hb dX12_next_92 rfl (lv_at hl 0 rfl) ?_
                      refine hp_get hx hb hts ix12 hown hK hh (q := 0) rfl (hI.1 _ (by decide)) es1364 rfl 14 (by decide) (hts _ tw_893) (fun _ h9 => h9) rfl dX12_next_93 ?_
                      refine lv_dup2_11 hx hb dX12_next_96 rfl rfl ?_
                      refine hp_iald hx hb hK hh (q := 7) rfl (hI.1 _ (by decide)) es1367 (vp_in_nI (n := d1356) (by omega) (by decide)) dX12_next_97 ?_
                      rw [nI_clamp (n := d1356) (by omega)]
                      rw [show f_1367 d1356 = nI w1363 from (show f_1367 d1356 = rdF (en_1363 7) d1356 from by rw [es1367]; rfl).trans i1_1363.1]
                      refine lv_iconst (v := 1) hx hb dX12_next_98 (by decide) ?_
                      refine lv_iadd hx hb dX12_next_99 ?_
                      rw [show (1 : Int32) = nI 1 from rfl, nI_add w1363 1]
                      refine hp_iast hx hb hK hh (q := 7) rfl (hI.1 _ (by decide)) es1367 (vp_in_nI (n := d1356) (by omega) (by decide)) dX12_next_100 (fun H locs en_1391 hen_1391 hh => ?_)
                      rw [nI_clamp (n := d1356) (by omega)] at hen_1391
                      have es1364_1391 : en_1391 0 = .inr (11, [.int fa_1364, .int hi_1364, .int (nI wd), .int (nI mo), .int (nI tb), .ref (ad 1), .ref (ad 2), .ref (ad 3), .ref (ad 4), .ref (ad 5), .ref (ad 6), .ref (ad 7), .ref (ad 8), .ref (ad 9), .int (nI d1356), .long many_1364, .long grt_1364, .long lst_1364, .long nou_1364, .ref (ad 10), .ref (ad 11), .ref (ad 12), .int rm_1364, .long rb_1364, .ref (ad 13), .int pr_1364, .ref (ad 14), .ref (ad 15), .ref (ad 16), .ref (ad 17), .int (nI wo), .ref (ad 18), .ref (ad 19)]) := by rw [hen_1391, va_up_ne _ _ (by decide)]; exact es1364
                      have es1367_1391 : en_1391 7 = .inl (cy 0, 13, .inl (upd f_1367 d1356 (nI (w1363 + 1)))) := by rw [hen_1391]; exact va_up_self _ _ _
                      have hI_1391 : RX cy cs ad en_1391 := by rw [hen_1391]; exact upr_nw hI_1363 ⟨(upd f_1367 d1356 (nI (w1363 + 1))), rfl⟩
                      have hf_1391 : ∀ c, (c ≠ 0 ∧ c ≠ 6 ∧ c ≠ 7) → en_1391 c = en c := fun c hc => Eq.trans (show en_1391 c = en_1363 c from by rw [hen_1391, va_up_ne _ _ (by omega)]) (hf_1363 c hc)
                      have hkp_1391 : KP en en_1391 := KP_same i4_1363 (show en_1391 0 = en_1363 0 from by rw [hen_1391, va_up_ne _ _ (by decide)])
                      have hno_1391 : ∀ i, i ≠ d1356 → rdF (en_1391 7) i = rdF (en_1363 7) i := fun i hi => by rw [es1367_1391, es1367]; exact pk_un hi
                      have hnv_1391 : rdF (en_1391 7) d1356 = (nI (w1363 + 1)) := by rw [es1367_1391]; exact pk_us
                      refine lv_goto (tgt := 38) hx hb dX12_next_101 (by decide) ?_
                      exact ih_1363 (mm1363 - 1) (w1363 + 1) en_1391 ls H locs (by omega) hI_1391 hf_1391 (by rw [es1364_1391]; rfl) (⟨hnv_1391, by omega, by omega⟩) (fun i hi => (hno_1391 i (by omega)).trans (i2_1363 i hi)) (by omega) (hkp_1391) (lv_sub hl [0, 1] rfl) hh
            exact loop_1363 (7 + 1) 7 u1356 en_1362 ls _ _ (by omega) hI_1362 hf_1362 (by rw [es1357_1362]; rfl) (⟨hnv_1362, by omega, i1_1356.2.2⟩) (fun i hi => hno_1362 i (by omega)) (by omega) (hkp_1362) (lv_sub hl [0, 1] rfl) hh
      exact loop_1356 (134217728 + 1) 134217728 d u en_1354 ls _ _ (by omega) hI_1354 hf_1354 (⟨by rw [es1315_1354]; exact congrArg nI (by omega), by omega⟩) ((by rw [show en_1354 7 = en 7 from by rw [hen_1354, va_up_ne _ _ (by decide)]]; exact hd3)) (⟨by omega, Nat.le_of_eq (by rw [show en_1354 7 = en 7 from by rw [hen_1354, va_up_ne _ _ (by decide)]])⟩) (hkp_1354) (lv_sub hl [0, 1] rfl) hh
theorem kw_X12_next {R : Room} {s : State} {args : Array Value} {own : String} {idx : Nat} (hts : ∀ w ∈ TB, w.before args s = true) (hl : Cond.methodLink own idx yX12_next ∈ TB) (hR : 2 + 1 ≤ R.frames ∧ 8 + (2 + 11) + 40 * 2 ≤ R.locals) : CallW R s args own RX12 idx yX12_next cX12_next 2 (some .boolean) (Cond.code yX12_next cX12_next 2 (some .boolean) :: TB) (rmN 2) 0 0 1 := cwV 1 hts (TB_V hl tw_1048 ts_40 tw_9 tw_1049) rfl rfl rfl (by decide +kernel) hR
