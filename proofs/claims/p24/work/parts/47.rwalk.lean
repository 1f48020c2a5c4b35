set_option maxHeartbeats 4000000 in
set_option maxRecDepth 100000 in
/-- goThrough -/
theorem c_X12_goThrough (l : Launch) (D : va_G) (cy : Nat → ClassId) (sz : Nat) (cs : List Nat) (ad : Nat → Nat) (en : Nat → va_E) (hI : RX cy cs ad en) (n : Nat) (hn1 : 1 ≤ n) (hn8 : n ≤ 8)   : Met l yX12_goThrough (Cond.code yX12_goThrough cX12_goThrough 5 none :: TB) (rmN 3) (va_Pc [.ref (ad 0), .int (nI n)] (Pre D cy cs ad en sz)) (va_Qv (S := Nat → va_E) (fun en1 => RX cy cs ad en1 ∧ (∀ c, (c ≠ 0 ∧ c ≠ 6 ∧ c ≠ 7 ∧ c ≠ 10 ∧ c ≠ 11) → en1 c = en c) ∧ KP en en1) (PostM D cs ad) (Af cs ad sz)) 0 0 (Af cs ad sz) := by
  refine Met.ofW (cc := cX12_goThrough) (maxL := 5) (ret := none) (by decide) rfl ?_
  intro p e s m args below meth c s₁ B hml hv
  obtain ⟨rfl, hsz, hP, hK, hD0⟩ := hv
  have hx := B.exec
  have hb := B.bytes
  have hr := B.returns
  have hts : ∀ w ∈ TB, w.before _ s = true := fun w h => atoms_spec (ws := _ :: TB) B.pre w (List.mem_cons_of_mem _ h)
  have hown : s.vm.findClass RX12 = some m.cls := findClass_of_methodNamed B.named
  have hlocks := B.notSynchronized
  have hh : Hp D (Af cs ad sz) (Af cs ad sz) s.heap s.heap [] cs ad en := ⟨hP, Af_self hD0, va_S.rf⟩
  have hA : ∀ q : Nat, s.heap.size ≤ q → Af cs ad sz q := fun q h => Or.inr (by rw [hsz] at h; exact h)
  have hl := lv_entry ([.ref (ad 0), .int (nI n)]) (n := 5) (Nat.le_of_ble_eq_true rfl)
  rw [lg_entry_eq]
  generalize (lg_sl ([.ref (ad 0), .int (nI n)]) ++ List.replicate (5 - (lg_sl ([.ref (ad 0), .int (nI n)])).length) Slot.unset).toArray = ls at hl ⊢
  have hl : lv_has ls 5 [(0, .ref (ad 0)), (1, .int (nI n))] := hl
  have hf0 : ∀ c, (c ≠ 0 ∧ c ≠ 6 ∧ c ≠ 7 ∧ c ≠ 10 ∧ c ≠ 11) → en c = en c := fun _ _ => rfl
  obtain ⟨fa, hi, wd, mo, tb, dp, many, grt, lst, nou, rm, rb, pr, wo, es1395, hwd2, hwd3, hmo, htb, hwo⟩ := getr_M hI
  refine lv_aload_n hx hb dX12_goThrough_0 rfl (lv_at hl 0 rfl) ?_
  refine lv_lconst (v := 0) hx hb dX12_goThrough_1 (by decide) ?_
  refine hp_put hx hb hts ix12 tyX12 tyX12_ok nmX12 hown hK hh (q := 0) rfl (hI.1 _ (by decide)) es1395 rfl 15 (by decide) (hts _ tw_894) (fun _ h9 => h9) rfl (ty := .long) (by decide +kernel) rfl rfl (Nat.le_of_ble_eq_true rfl) dX12_goThrough_2 (fun H locs en_1396 hen_1396 hh => ?_)
  have es1395_1396 : en_1396 0 = .inr (11, [.int fa, .int hi, .int (nI wd), .int (nI mo), .int (nI tb), .ref (ad 1), .ref (ad 2), .ref (ad 3), .ref (ad 4), .ref (ad 5), .ref (ad 6), .ref (ad 7), .ref (ad 8), .ref (ad 9), .int dp, .long 0, .long grt, .long lst, .long nou, .ref (ad 10), .ref (ad 11), .ref (ad 12), .int rm, .long rb, .ref (ad 13), .int pr, .ref (ad 14), .ref (ad 15), .ref (ad 16), .ref (ad 17), .int (nI wo), .ref (ad 18), .ref (ad 19)]) := by rw [hen_1396]; exact va_up_self _ _ _
  have hI_1396 : RX cy cs ad en_1396 := by rw [hen_1396]; exact upr_M hI ⟨fa, hi, wd, mo, tb, dp, 0, grt, lst, nou, rm, rb, pr, wo, rfl, hwd2, hwd3, hmo, htb, hwo⟩
  have hf_1396 : ∀ c, (c ≠ 0 ∧ c ≠ 6 ∧ c ≠ 7 ∧ c ≠ 10 ∧ c ≠ 11) → en_1396 c = en c := fun c hc => Eq.trans (show en_1396 c = en c from by rw [hen_1396, va_up_ne _ _ (by omega)]) (hf0 c hc)
  have hkp_1396 : KP en en_1396 := KP_fv (KP_rf en) es1395 es1395_1396 hi (nI wd) (nI mo) (nI tb) pr (nI wo) rfl rfl rfl rfl rfl rfl rfl rfl rfl rfl rfl rfl
  refine lv_aload_n hx hb dX12_goThrough_5 rfl (lv_at hl 0 rfl) ?_
  refine lv_ldc2 hx hb hown (hts _ tw_1015) dX12_goThrough_6 ?_
  refine hp_put hx hb hts ix12 tyX12 tyX12_ok nmX12 hown hK hh (q := 0) rfl (hI.1 _ (by decide)) es1395_1396 rfl 16 (by decide) (hts _ tw_895) (fun _ h9 => h9) rfl (ty := .long) (by decide +kernel) rfl rfl (Nat.le_of_ble_eq_true rfl) dX12_goThrough_9 (fun H locs en_1397 hen_1397 hh => ?_)
  have es1395_1397 : en_1397 0 = .inr (11, [.int fa, .int hi, .int (nI wd), .int (nI mo), .int (nI tb), .ref (ad 1), .ref (ad 2), .ref (ad 3), .ref (ad 4), .ref (ad 5), .ref (ad 6), .ref (ad 7), .ref (ad 8), .ref (ad 9), .int dp, .long 0, .long (-9223372036854775808), .long lst, .long nou, .ref (ad 10), .ref (ad 11), .ref (ad 12), .int rm, .long rb, .ref (ad 13), .int pr, .ref (ad 14), .ref (ad 15), .ref (ad 16), .ref (ad 17), .int (nI wo), .ref (ad 18), .ref (ad 19)]) := by rw [hen_1397]; exact va_up_self _ _ _
  have hI_1397 : RX cy cs ad en_1397 := by rw [hen_1397]; exact upr_M hI_1396 ⟨fa, hi, wd, mo, tb, dp, 0, (-9223372036854775808), lst, nou, rm, rb, pr, wo, rfl, hwd2, hwd3, hmo, htb, hwo⟩
  have hf_1397 : ∀ c, (c ≠ 0 ∧ c ≠ 6 ∧ c ≠ 7 ∧ c ≠ 10 ∧ c ≠ 11) → en_1397 c = en c := fun c hc => Eq.trans (show en_1397 c = en_1396 c from by rw [hen_1397, va_up_ne _ _ (by omega)]) (hf_1396 c hc)
  have hkp_1397 : KP en en_1397 := KP_fv hkp_1396 es1395_1396 es1395_1397 hi (nI wd) (nI mo) (nI tb) pr (nI wo) rfl rfl rfl rfl rfl rfl rfl rfl rfl rfl rfl rfl
  refine lv_aload_n hx hb dX12_goThrough_12 rfl (lv_at hl 0 rfl) ?_
  refine lv_ldc2 hx hb hown (hts _ tw_1015) dX12_goThrough_13 ?_
  refine hp_put hx hb hts ix12 tyX12 tyX12_ok nmX12 hown hK hh (q := 0) rfl (hI.1 _ (by decide)) es1395_1397 rfl 17 (by decide) (hts _ tw_896) (fun _ h9 => h9) rfl (ty := .long) (by decide +kernel) rfl rfl (Nat.le_of_ble_eq_true rfl) dX12_goThrough_16 (fun H locs en_1398 hen_1398 hh => ?_)
  have es1395_1398 : en_1398 0 = .inr (11, [.int fa, .int hi, .int (nI wd), .int (nI mo), .int (nI tb), .ref (ad 1), .ref (ad 2), .ref (ad 3), .ref (ad 4), .ref (ad 5), .ref (ad 6), .ref (ad 7), .ref (ad 8), .ref (ad 9), .int dp, .long 0, .long (-9223372036854775808), .long (-9223372036854775808), .long nou, .ref (ad 10), .ref (ad 11), .ref (ad 12), .int rm, .long rb, .ref (ad 13), .int pr, .ref (ad 14), .ref (ad 15), .ref (ad 16), .ref (ad 17), .int (nI wo), .ref (ad 18), .ref (ad 19)]) := by rw [hen_1398]; exact va_up_self _ _ _
  have hI_1398 : RX cy cs ad en_1398 := by rw [hen_1398]; exact upr_M hI_1397 ⟨fa, hi, wd, mo, tb, dp, 0, (-9223372036854775808), (-9223372036854775808), nou, rm, rb, pr, wo, rfl, hwd2, hwd3, hmo, htb, hwo⟩
  have hf_1398 : ∀ c, (c ≠ 0 ∧ c ≠ 6 ∧ c ≠ 7 ∧ c ≠ 10 ∧ c ≠ 11) → en_1398 c = en c := fun c hc => Eq.trans (show en_1398 c = en_1397 c from by rw [hen_1398, va_up_ne _ _ (by omega)]) (hf_1397 c hc)
  have hkp_1398 : KP en en_1398 := KP_fv hkp_1397 es1395_1397 es1395_1398 hi (nI wd) (nI mo) (nI tb) pr (nI wo) rfl rfl rfl rfl rfl rfl rfl rfl rfl rfl rfl rfl
  refine lv_aload_n hx hb dX12_goThrough_19 rfl (lv_at hl 0 rfl) ?_
  refine lv_lconst (v := 0) hx hb dX12_goThrough_20 (by decide) ?_
  refine hp_put hx hb hts ix12 tyX12 tyX12_ok nmX12 hown hK hh (q := 0) rfl (hI.1 _ (by decide)) es1395_1398 rfl 18 (by decide) (hts _ tw_897) (fun _ h9 => h9) rfl (ty := .long) (by decide +kernel) rfl rfl (Nat.le_of_ble_eq_true rfl) dX12_goThrough_21 (fun H locs en_1399 hen_1399 hh => ?_)
  have es1395_1399 : en_1399 0 = .inr (11, [.int fa, .int hi, .int (nI wd), .int (nI mo), .int (nI tb), .ref (ad 1), .ref (ad 2), .ref (ad 3), .ref (ad 4), .ref (ad 5), .ref (ad 6), .ref (ad 7), .ref (ad 8), .ref (ad 9), .int dp, .long 0, .long (-9223372036854775808), .long (-9223372036854775808), .long 0, .ref (ad 10), .ref (ad 11), .ref (ad 12), .int rm, .long rb, .ref (ad 13), .int pr, .ref (ad 14), .ref (ad 15), .ref (ad 16), .ref (ad 17), .int (nI wo), .ref (ad 18), .ref (ad 19)]) := by rw [hen_1399]; exact va_up_self _ _ _
  have hI_1399 : RX cy cs ad en_1399 := by rw [hen_1399]; exact upr_M hI_1398 ⟨fa, hi, wd, mo, tb, dp, 0, (-9223372036854775808), (-9223372036854775808), 0, rm, rb, pr, wo, rfl, hwd2, hwd3, hmo, htb, hwo⟩
  have hf_1399 : ∀ c, (c ≠ 0 ∧ c ≠ 6 ∧ c ≠ 7 ∧ c ≠ 10 ∧ c ≠ 11) → en_1399 c = en c := fun c hc => Eq.trans (show en_1399 c = en_1398 c from by rw [hen_1399, va_up_ne _ _ (by omega)]) (hf_1398 c hc)
  have hkp_1399 : KP en en_1399 := KP_fv hkp_1398 es1395_1398 es1395_1399 hi (nI wd) (nI mo) (nI tb) pr (nI wo) rfl rfl rfl rfl rfl rfl rfl rfl rfl rfl rfl rfl
  refine lv_aload_n hx hb dX12_goThrough_24 rfl (lv_at hl 0 rfl) ?_
  refine hp_callMv (va_runV (As := []) (rest := []) ⟨hx, hb, hml, hown, hts⟩ (c_X12_beginWords l D cy _ cs ad en_1399 hI_1399  ) (kw_X12_beginWords hts tw_1038 ⟨by decide, by decide⟩) (preV_of hh hK (hI.1 _ (by decide)) es1395_1399 rfl) rfl rfl hl.1 rfl (lv_room (Nat.le_of_ble_eq_true rfl)) dX12_goThrough_25 ⟨Nat.le_of_ble_eq_true rfl, Nat.le_of_ble_eq_true rfl⟩) hh hA (fun H locs en_1400 hw_1400 hh => ?_)
  obtain ⟨hI_1400, hu_1400, hd0_1400, hg0_1400, hx_1400⟩ := hw_1400
  have hND_1400 : ND en_1400 n 0 0 := ⟨by omega, Or.inl hd0_1400, fun i h => absurd h (Nat.not_lt_zero i), by rw [hg0_1400]; decide, by omega⟩
  have hf_1400 : ∀ c, (c ≠ 0 ∧ c ≠ 6 ∧ c ≠ 7 ∧ c ≠ 10 ∧ c ≠ 11) → en_1400 c = en c := fun c hc => (hu_1400 c (by omega)).trans (hf_1399 c hc)
  have hkp_1400 : KP en en_1400 := KP_tr hkp_1399 hx_1400
  have loop_1401 : ∀ (fu mm1401 : Nat)  (d1401 : Nat) (u1401 : Nat) (en_1401 : Nat → va_E) (ls : Array Slot) (H : Heap) (locs : List Loc), mm1401 < fu → RX cy cs ad en_1401 → (∀ c, (c ≠ 0 ∧ c ≠ 6 ∧ c ≠ 7 ∧ c ≠ 10 ∧ c ≠ 11) → en_1401 c = en c) → (ND en_1401 n d1401 u1401) → (134217728 ≤ nmv (rdF (en_1401 7)) d1401 u1401 + mm1401) → (KP en en_1401) → lv_has ls 5 [(0, .ref (ad 0)), (1, .int (nI n))] → Hp D (Af cs ad sz) (Af cs ad sz) s.heap H locs cs ad en_1401 → W p l e (headSpec (Cond.code yX12_goThrough cX12_goThrough 5 none :: TB) (rmN 3)).room s m ([.ref (ad 0), .int (nI n)] : List Value).toArray below meth c H locs 0 0 (MQ below (va_Qv (S := Nat → va_E) (fun en1 => RX cy cs ad en1 ∧ (∀ c, (c ≠ 0 ∧ c ≠ 6 ∧ c ≠ 7 ∧ c ≠ 10 ∧ c ≠ 11) → en1 c = en c) ∧ KP en en1) (PostM D cs ad) (Af cs ad sz)) ([.ref (ad 0), .int (nI n)] : List Value).toArray s 0 0 (Af cs ad sz)) (F0 m 28 ls []) := by
    intro fu
    induction fu with
    | zero => intro mm1401 d1401 u1401 en_1401 ls H locs h2; exact absurd h2 (by omega)
    | succ fu ih_1401 =>
      intro mm1401 d1401 u1401 en_1401 ls H locs hmm_1401 hI_1401 hf_1401 i0_1401 i1_1401 i2_1401 hl hh
      have hlt_1401 := nmv_lt i0_1401.2.2 (by have h9 := i0_1401.1; omega)
      have hwd_1401 := i0_1401.1
      refine lv_aload_n hx hb dX12_goThrough_28 rfl (lv_at hl 0 rfl) ?_
      refine lv_iload_n hx hb dX12_goThrough_29 rfl (lv_at hl 1 rfl) ?_
      obtain ⟨fa_1402, hi_1402, wd_1402, mo_1402, tb_1402, dp_1402, many_1402, grt_1402, lst_1402, nou_1402, rm_1402, rb_1402, pr_1402, wo_1402, es1402, p0_1402, p1_1402, p2_1402, p3_1402, p4_1402⟩ := getr_M hI_1401
      have hq2_1403 : wd_1402 = wd := n_eq ((show nI wd_1402 = rdI (en_1401 0) 2 from by rw [es1402]; rfl).trans (i2_1401.2.1.trans (show rdI (en 0) 2 = nI wd from by rw [es1395]; rfl))) (by omega) (by omega)
      have hq3_1403 : mo_1402 = mo := n_eq ((show nI mo_1402 = rdI (en_1401 0) 3 from by rw [es1402]; rfl).trans (i2_1401.2.2.1.trans (show rdI (en 0) 3 = nI mo from by rw [es1395]; rfl))) (by omega) (by omega)
      have hq4_1403 : tb_1402 = tb := n_eq ((show nI tb_1402 = rdI (en_1401 0) 4 from by rw [es1402]; rfl).trans (i2_1401.2.2.2.1.trans (show rdI (en 0) 4 = nI tb from by rw [es1395]; rfl))) (by omega) (by omega)
      have hq30_1403 : wo_1402 = wo := n_eq ((show nI wo_1402 = rdI (en_1401 0) 30 from by rw [es1402]; rfl).trans (i2_1401.2.2.2.2.2.trans (show rdI (en 0) 30 = nI wo from by rw [es1395]; rfl))) (by omega) (by omega)
      rw [hq2_1403, hq3_1403, hq4_1403, hq30_1403] at es1402
      refine hp_callMi (va_runV (As := [.int (nI n)]) (rest := []) ⟨hx, hb, hml, hown, hts⟩ (c_X12_next l D cy _ cs ad en_1401 hI_1401 n (by omega) (by omega) d1401 u1401 i0_1401) (kw_X12_next hts tw_1046 ⟨by decide, by decide⟩) (preV_of hh hK (hI.1 _ (by decide)) es1402 rfl) rfl rfl hl.1 rfl (lv_room (Nat.le_of_ble_eq_true rfl)) dX12_goThrough_30 ⟨Nat.le_of_ble_eq_true rfl, Nat.le_of_ble_eq_true rfl⟩) hh hA (fun r_1404 H locs en_1404 hw_1404 hh => ?_)
      obtain ⟨hI_1404, hu_1404, hx_1404, hkq_1404⟩ := hw_1404
      have hf_1404 : ∀ c, (c ≠ 0 ∧ c ≠ 6 ∧ c ≠ 7 ∧ c ≠ 10 ∧ c ≠ 11) → en_1404 c = en c := fun c hc => (hu_1404 c (by omega)).trans (hf_1401 c hc)
      have hkp_1404 : KP en en_1404 := KP_tr i2_1401 hkq_1404
      rcases hx_1404 with hr_1404 | ⟨hr_1404, u1_1404, hND_1404, hu1_1404, hnm_1404⟩
      · rw [hr_1404]
        refine lv_if_eq (tgt := 179) hx hb dX12_goThrough_33 (by decide) (fun _ => ?_) (fun c_0 => absurd c_0 (by decide))
        exact hp_vretM hx hb hr hlocks hh (⟨hI_1404, hf_1404, hkp_1404⟩) dX12_goThrough_179
      · rw [hr_1404]
        have hall_1404 := NW_all hND_1404.2.2 (by omega) hu1_1404
        refine lv_if_eq (tgt := 179) hx hb dX12_goThrough_33 (by decide) (fun c_0 => absurd c_0 (by decide)) (fun _ => ?_)
        refine lv_aload_n hx hb dX12_goThrough_36 rfl (lv_at hl 0 rfl) ?_
        refine lv_iload_n hx hb dX12_goThrough_37 rfl (lv_at hl 1 rfl) ?_
        obtain ⟨fa_1405, hi_1405, wd_1405, mo_1405, tb_1405, dp_1405, many_1405, grt_1405, lst_1405, nou_1405, rm_1405, rb_1405, pr_1405, wo_1405, es1405, p0_1405, p1_1405, p2_1405, p3_1405, p4_1405⟩ := getr_M hI_1404
        have hq2_1406 : wd_1405 = wd := n_eq ((show nI wd_1405 = rdI (en_1404 0) 2 from by rw [es1405]; rfl).trans (hkp_1404.2.1.trans (show rdI (en 0) 2 = nI wd from by rw [es1395]; rfl))) (by omega) (by omega)
        have hq3_1406 : mo_1405 = mo := n_eq ((show nI mo_1405 = rdI (en_1404 0) 3 from by rw [es1405]; rfl).trans (hkp_1404.2.2.1.trans (show rdI (en 0) 3 = nI mo from by rw [es1395]; rfl))) (by omega) (by omega)
        have hq4_1406 : tb_1405 = tb := n_eq ((show nI tb_1405 = rdI (en_1404 0) 4 from by rw [es1405]; rfl).trans (hkp_1404.2.2.2.1.trans (show rdI (en 0) 4 = nI tb from by rw [es1395]; rfl))) (by omega) (by omega)
        have hq30_1406 : wo_1405 = wo := n_eq ((show nI wo_1405 = rdI (en_1404 0) 30 from by rw [es1405]; rfl).trans (hkp_1404.2.2.2.2.2.trans (show rdI (en 0) 30 = nI wo from by rw [es1395]; rfl))) (by omega) (by omega)
        rw [hq2_1406, hq3_1406, hq4_1406, hq30_1406] at es1405
        refine hp_callRl (va_runV (As := [.int (nI n)]) (rest := []) ⟨hx, hb, hml, hown, hts⟩ (c_X12_normAt l D cy _ cs ad en_1404 hI_1404 n (by omega)) (kw_X12_normAt hts tw_1058 ⟨by decide, by decide⟩) (preV_of hh hK (hI.1 _ (by decide)) es1405 rfl) rfl rfl hl.1 rfl (lv_room (Nat.le_of_ble_eq_true rfl)) dX12_goThrough_38 ⟨Nat.le_of_ble_eq_true rfl, Nat.le_of_ble_eq_true rfl⟩) hh hA (fun r_1407 H locs hw_1407 hh => ?_)
        refine lv_lstore_n (lv' := [(2, .long r_1407), (0, .ref (ad 0)), (1, .int (nI n))]) hx hb dX12_goThrough_41 rfl hl (by decide) rfl (fun ls hl => ?_)
        have join_1408 : ∀  (en_1408 : Nat → va_E) (ls : Array Slot) (H : Heap) (locs : List Loc), RX cy cs ad en_1408 → (∀ c, (c ≠ 0 ∧ c ≠ 6 ∧ c ≠ 7 ∧ c ≠ 10 ∧ c ≠ 11) → en_1408 c = en c) → KP en en_1408 → SD en_1404 en_1408 → lv_has ls 5 [(2, .long r_1407), (0, .ref (ad 0)), (1, .int (nI n))] → Hp D (Af cs ad sz) (Af cs ad sz) s.heap H locs cs ad en_1408 → W p l e (headSpec (Cond.code yX12_goThrough cX12_goThrough 5 none :: TB) (rmN 3)).room s m ([.ref (ad 0), .int (nI n)] : List Value).toArray below meth c H locs 0 0 (MQ below (va_Qv (S := Nat → va_E) (fun en1 => RX cy cs ad en1 ∧ (∀ c, (c ≠ 0 ∧ c ≠ 6 ∧ c ≠ 7 ∧ c ≠ 10 ∧ c ≠ 11) → en1 c = en c) ∧ KP en en1) (PostM D cs ad) (Af cs ad sz)) ([.ref (ad 0), .int (nI n)] : List Value).toArray s 0 0 (Af cs ad sz)) (F0 m 94 ls []) := by
          intro  en_1408 ls H locs hI_1408 hf_1408 hkp_1408 hsd_1408  hl hh
          have join_1409 : ∀  (en_1409 : Nat → va_E) (ls : Array Slot) (H : Heap) (locs : List Loc), RX cy cs ad en_1409 → (∀ c, (c ≠ 0 ∧ c ≠ 6 ∧ c ≠ 7 ∧ c ≠ 10 ∧ c ≠ 11) → en_1409 c = en c) → KP en en_1409 → SD en_1404 en_1409 → lv_has ls 5 [(2, .long r_1407), (0, .ref (ad 0)), (1, .int (nI n))] → Hp D (Af cs ad sz) (Af cs ad sz) s.heap H locs cs ad en_1409 → W p l e (headSpec (Cond.code yX12_goThrough cX12_goThrough 5 none :: TB) (rmN 3)).room s m ([.ref (ad 0), .int (nI n)] : List Value).toArray below meth c H locs 0 0 (MQ below (va_Qv (S := Nat → va_E) (fun en1 => RX cy cs ad en1 ∧ (∀ c, (c ≠ 0 ∧ c ≠ 6 ∧ c ≠ 7 ∧ c ≠ 10 ∧ c ≠ 11) → en1 c = en c) ∧ KP en en1) (PostM D cs ad) (Af cs ad sz)) ([.ref (ad 0), .int (nI n)] : List Value).toArray s 0 0 (Af cs ad sz)) (F0 m 146 ls []) := by
            intro  en_1409 ls H locs hI_1409 hf_1409 hkp_1409 hsd_1409  hl hh
            refine lv_aload_n hx hb dX12_goThrough_146 rfl (lv_at hl 1 rfl) ?_
            refine lv_dup hx hb dX12_goThrough_147 rfl ?_
            obtain ⟨fa_1410, hi_1410, wd_1410, mo_1410, tb_1410, dp_1410, many_1410, grt_1410, lst_1410, nou_1410, rm_1410, rb_1410, pr_1410, wo_1410, es1410, p0_1410, p1_1410, p2_1410, p3_1410, p4_1410⟩ := getr_M hI_1409
            have hq2_1411 : wd_1410 = wd := n_eq ((show nI wd_1410 = rdI (en_1409 0) 2 from by rw [es1410]; rfl).trans (hkp_1409.2.1.trans (show rdI (en 0) 2 = nI wd from by rw [es1395]; rfl))) (by omega) (by omega)
            have hq3_1411 : mo_1410 = mo := n_eq ((show nI mo_1410 = rdI (en_1409 0) 3 from by rw [es1410]; rfl).trans (hkp_1409.2.2.1.trans (show rdI (en 0) 3 = nI mo from by rw [es1395]; rfl))) (by omega) (by omega)
            have hq4_1411 : tb_1410 = tb := n_eq ((show nI tb_1410 = rdI (en_1409 0) 4 from by rw [es1410]; rfl).trans (hkp_1409.2.2.2.1.trans (show rdI (en 0) 4 = nI tb from by rw [es1395]; rfl))) (by omega) (by omega)
            have hq30_1411 : wo_1410 = wo := n_eq ((show nI wo_1410 = rdI (en_1409 0) 30 from by rw [es1410]; rfl).trans (hkp_1409.2.2.2.2.2.trans (show rdI (en 0) 30 = nI wo from by rw [es1395]; rfl))) (by omega) (by omega)
            rw [hq2_1411, hq3_1411, hq4_1411, hq30_1411] at es1410
            refine hp_get hx hb hts ix12 hown hK hh (q := 0) rfl (hI.1 _ (by decide)) es1410 rfl 18 (by decide) (hts _ tw_897) (fun _ h9 => h9) rfl dX12_goThrough_148 ?_
            refine lv_lload_n hx hb dX12_goThrough_151 rfl (lv_at hl 0 rfl) ?_
            refine lv_lconst (v := 0) hx hb dX12_goThrough_152 (by decide) ?_
            refine W.lcmp hx hb dX12_goThrough_153 ?_
            refine lv_if_ne (tgt := 161) hx hb dX12_goThrough_154 (by decide) (fun c_1412 => ?_) (fun c_1412 => ?_)
            · refine lv_lconst (v := 0) hx hb dX12_goThrough_161 (by decide) ?_
              refine lv_ladd hx hb dX12_goThrough_162 ?_
              refine hp_put hx hb hts ix12 tyX12 tyX12_ok nmX12 hown hK hh (q := 0) rfl (hI.1 _ (by decide)) es1410 rfl 18 (by decide) (hts _ tw_897) (fun _ h9 => h9) rfl (ty := .long) (by decide +kernel) rfl rfl (Nat.le_of_ble_eq_true rfl) dX12_goThrough_163 (fun H locs en_1413 hen_1413 hh => ?_)
              have es1410_1413 : en_1413 0 = .inr (11, [.int fa_1410, .int hi_1410, .int (nI wd), .int (nI mo), .int (nI tb), .ref (ad 1), .ref (ad 2), .ref (ad 3), .ref (ad 4), .ref (ad 5), .ref (ad 6), .ref (ad 7), .ref (ad 8), .ref (ad 9), .int dp_1410, .long many_1410, .long grt_1410, .long lst_1410, .long (nou_1410 + 0), .ref (ad 10), .ref (ad 11), .ref (ad 12), .int rm_1410, .long rb_1410, .ref (ad 13), .int pr_1410, .ref (ad 14), .ref (ad 15), .ref (ad 16), .ref (ad 17), .int (nI wo), .ref (ad 18), .ref (ad 19)]) := by rw [hen_1413]; exact va_up_self _ _ _
              have hI_1413 : RX cy cs ad en_1413 := by rw [hen_1413]; exact upr_M hI_1409 ⟨fa_1410, hi_1410, wd, mo, tb, dp_1410, many_1410, grt_1410, lst_1410, (nou_1410 + 0), rm_1410, rb_1410, pr_1410, wo, rfl, hwd2, hwd3, hmo, htb, hwo⟩
              have hf_1413 : ∀ c, (c ≠ 0 ∧ c ≠ 6 ∧ c ≠ 7 ∧ c ≠ 10 ∧ c ≠ 11) → en_1413 c = en c := fun c hc => Eq.trans (show en_1413 c = en_1409 c from by rw [hen_1413, va_up_ne _ _ (by omega)]) (hf_1409 c hc)
              have hkp_1413 : KP en en_1413 := KP_fv hkp_1409 es1410 es1410_1413 hi_1410 (nI wd) (nI mo) (nI tb) pr_1410 (nI wo) rfl rfl rfl rfl rfl rfl rfl rfl rfl rfl rfl rfl
              have hsd_1413 : SD en_1404 en_1413 := SD_fv hsd_1409 es1410 es1410_1413 (show en_1413 7 = en_1409 7 from by rw [hen_1413, va_up_ne _ _ (by decide)]) dp_1410 rfl rfl
              refine lv_aload_n hx hb dX12_goThrough_166 rfl (lv_at hl 1 rfl) ?_
              refine lv_dup hx hb dX12_goThrough_167 rfl ?_
              refine hp_get hx hb hts ix12 hown hK hh (q := 0) rfl (hI.1 _ (by decide)) es1410_1413 rfl 15 (by decide) (hts _ tw_894) (fun _ h9 => h9) rfl dX12_goThrough_168 ?_
              refine lv_lconst (v := 1) hx hb dX12_goThrough_171 (by decide) ?_
              refine lv_ladd hx hb dX12_goThrough_172 ?_
              refine hp_put hx hb hts ix12 tyX12 tyX12_ok nmX12 hown hK hh (q := 0) rfl (hI.1 _ (by decide)) es1410_1413 rfl 15 (by decide) (hts _ tw_894) (fun _ h9 => h9) rfl (ty := .long) (by decide +kernel) rfl rfl (Nat.le_of_ble_eq_true rfl) dX12_goThrough_173 (fun H locs en_1414 hen_1414 hh => ?_)
              have es1410_1414 : en_1414 0 = .inr (11, [.int fa_1410, .int hi_1410, .int (nI wd), .int (nI mo), .int (nI tb), .ref (ad 1), .ref (ad 2), .ref (ad 3), .ref (ad 4), .ref (ad 5), .ref (ad 6), .ref (ad 7), .ref (ad 8), .ref (ad 9), .int dp_1410, .long (many_1410 + 1), .long grt_1410, .long lst_1410, .long (nou_1410 + 0), .ref (ad 10), .ref (ad 11), .ref (ad 12), .int rm_1410, .long rb_1410, .ref (ad 13), .int pr_1410, .ref (ad 14), .ref (ad 15), .ref (ad 16), .ref (ad 17), .int (nI wo), .ref (ad 18), .ref (ad 19)]) := by rw [hen_1414]; exact va_up_self _ _ _
              have hI_1414 : RX cy cs ad en_1414 := by rw [hen_1414]; exact upr_M hI_1413 ⟨fa_1410, hi_1410, wd, mo, tb, dp_1410, (many_1410 + 1), grt_1410, lst_1410, (nou_1410 + 0), rm_1410, rb_1410, pr_1410, wo, rfl, hwd2, hwd3, hmo, htb, hwo⟩
              have hf_1414 : ∀ c, (c ≠ 0 ∧ c ≠ 6 ∧ c ≠ 7 ∧ c ≠ 10 ∧ c ≠ 11) → en_1414 c = en c := fun c hc => Eq.trans (show en_1414 c = en_1413 c from by rw [hen_1414, va_up_ne _ _ (by omega)]) (hf_1413 c hc)
              have hkp_1414 : KP en en_1414 := KP_fv hkp_1413 es1410_1413 es1410_1414 hi_1410 (nI wd) (nI mo) (nI tb) pr_1410 (nI wo) rfl rfl rfl rfl rfl rfl rfl rfl rfl rfl rfl rfl
              have hsd_1414 : SD en_1404 en_1414 := SD_fv hsd_1413 es1410_1413 es1410_1414 (show en_1414 7 = en_1413 7 from by rw [hen_1414, va_up_ne _ _ (by decide)]) dp_1410 rfl rfl
              refine lv_goto (tgt := 28) hx hb dX12_goThrough_176 (by decide) ?_
              exact ih_1401 (mm1401 - 1) (n - 1) u1_1404 en_1414 ls H locs (by omega) hI_1414 hf_1414 (ND_sd hND_1404 hsd_1414) (by rw [hsd_1414.2]; have h1 := hnm_1404; have h2 := i1_1401; omega) (hkp_1414) (lv_sub hl [1, 2] rfl) hh
            · refine lv_lconst (v := 1) hx hb dX12_goThrough_157 (by decide) ?_
              refine lv_goto (tgt := 162) hx hb dX12_goThrough_158 (by decide) ?_
              refine lv_ladd hx hb dX12_goThrough_162 ?_
              refine hp_put hx hb hts ix12 tyX12 tyX12_ok nmX12 hown hK hh (q := 0) rfl (hI.1 _ (by decide)) es1410 rfl 18 (by decide) (hts _ tw_897) (fun _ h9 => h9) rfl (ty := .long) (by decide +kernel) rfl rfl (Nat.le_of_ble_eq_true rfl) dX12_goThrough_163 (fun H locs en_1415 hen_1415 hh => ?_)
              have es1410_1415 : en_1415 0 = .inr (11, [.int fa_1410, .int hi_1410, .int (nI wd), .int (nI mo), .int (nI tb), .ref (ad 1), .ref (ad 2), .ref (ad 3), .ref (ad 4), .ref (ad 5), .ref (ad 6), .ref (ad 7), .ref (ad 8), .ref (ad 9), .int dp_1410, .long many_1410, .long grt_1410, .long lst_1410, .long (nou_1410 + 1), .ref (ad 10), .ref (ad 11), .ref (ad 12), .int rm_1410, .long rb_1410, .ref (ad 13), .int pr_1410, .ref (ad 14), .ref (ad 15), .ref (ad 16), .ref (ad 17), .int (nI wo), .ref (ad 18), .ref (ad 19)]) := by rw [hen_1415]; exact va_up_self _ _ _
              have hI_1415 : RX cy cs ad en_1415 := by rw [hen_1415]; exact upr_M hI_1409 ⟨fa_1410, hi_1410, wd, mo, tb, dp_1410, many_1410, grt_1410, lst_1410, (nou_1410 + 1), rm_1410, rb_1410, pr_1410, wo, rfl, hwd2, hwd3, hmo, htb, hwo⟩
              have hf_1415 : ∀ c, (c ≠ 0 ∧ c ≠ 6 ∧ c ≠ 7 ∧ c ≠ 10 ∧ c ≠ 11) → en_1415 c = en c := fun c hc => Eq.trans (show en_1415 c = en_1409 c from by rw [hen_1415, va_up_ne _ _ (by omega)]) (hf_1409 c hc)
              have hkp_1415 : KP en en_1415 := KP_fv hkp_1409 es1410 es1410_1415 hi_1410 (nI wd) (nI mo) (nI tb) pr_1410 (nI wo) rfl rfl rfl rfl rfl rfl rfl rfl rfl rfl rfl rfl
              have hsd_1415 : SD en_1404 en_1415 := SD_fv hsd_1409 es1410 es1410_1415 (show en_1415 7 = en_1409 7 from by rw [hen_1415, va_up_ne _ _ (by decide)]) dp_1410 rfl rfl
              refine lv_aload_n hx hb dX12_goThrough_166 rfl (lv_at hl 1 rfl) ?_
              refine lv_dup hx hb dX12_goThrough_167 rfl ?_
              refine hp_get hx hb hts ix12 hown hK hh (q := 0) rfl (hI.1 _ (by decide)) es1410_1415 rfl 15 (by decide) (hts _ tw_894) (fun _ h9 => h9) rfl dX12_goThrough_168 ?_
              refine lv_lconst (v := 1) hx hb dX12_goThrough_171 (by decide) ?_
              refine lv_ladd hx hb dX12_goThrough_172 ?_
              refine hp_put hx hb hts ix12 tyX12 tyX12_ok nmX12 hown hK hh (q := 0) rfl (hI.1 _ (by decide)) es1410_1415 rfl 15 (by decide) (hts _ tw_894) (fun _ h9 => h9) rfl (ty := .long) (by decide +kernel) rfl rfl (Nat.le_of_ble_eq_true rfl) dX12_goThrough_173 (fun H locs en_1416 hen_1416 hh => ?_)
              have es1410_1416 : en_1416 0 = .inr (11, [.int fa_1410, .int hi_1410, .int (nI wd), .int (nI mo), .int (nI tb), .ref (ad 1), .ref (ad 2), .ref (ad 3), .ref (ad 4), .ref (ad 5), .ref (ad 6), .ref (ad 7), .ref (ad 8), .ref (ad 9), .int dp_1410, .long (many_1410 + 1), .long grt_1410, .long lst_1410, .long (nou_1410 + 1), .ref (ad 10), .ref (ad 11), .ref (ad 12), .int rm_1410, .long rb_1410, .ref (ad 13), .int pr_1410, .ref (ad 14), .ref (ad 15), .ref (ad 16), .ref (ad 17), .int (nI wo), .ref (ad 18), .ref (ad 19)]) := by rw [hen_1416]; exact va_up_self _ _ _
              have hI_1416 : RX cy cs ad en_1416 := by rw [hen_1416]; exact upr_M hI_1415 ⟨fa_1410, hi_1410, wd, mo, tb, dp_1410, (many_1410 + 1), grt_1410, lst_1410, (nou_1410 + 1), rm_1410, rb_1410, pr_1410, wo, rfl, hwd2, hwd3, hmo, htb, hwo⟩
              have hf_1416 : ∀ c, (c ≠ 0 ∧ c ≠ 6 ∧ c ≠ 7 ∧ c ≠ 10 ∧ c ≠ 11) → en_1416 c = en c := fun c hc => Eq.trans (show en_1416 c = en_1415 c from by rw [hen_1416, va_up_ne _ _ (by omega)]) (hf_1415 c hc)
              have hkp_1416 : KP en en_1416 := KP_fv hkp_1415 es1410_1415 es1410_1416 hi_1410 (nI wd) (nI mo) (nI tb) pr_1410 (nI wo) rfl rfl rfl rfl rfl rfl rfl rfl rfl rfl rfl rfl
              have hsd_1416 : SD en_1404 en_1416 := SD_fv hsd_1415 es1410_1415 es1410_1416 (show en_1416 7 = en_1415 7 from by rw [hen_1416, va_up_ne _ _ (by decide)]) dp_1410 rfl rfl
              refine lv_goto (tgt := 28) hx hb dX12_goThrough_176 (by decide) ?_
              exact ih_1401 (mm1401 - 1) (n - 1) u1_1404 en_1416 ls H locs (by omega) hI_1416 hf_1416 (ND_sd hND_1404 hsd_1416) (by rw [hsd_1416.2]; have h1 := hnm_1404; have h2 := i1_1401; omega) (hkp_1416) (lv_sub hl [1, 2] rfl) hh
          refine lv_aload_n hx hb dX12_goThrough_94 rfl (lv_at hl 1 rfl) ?_
          obtain ⟨fa_1417, hi_1417, wd_1417, mo_1417, tb_1417, dp_1417, many_1417, grt_1417, lst_1417, nou_1417, rm_1417, rb_1417, pr_1417, wo_1417, es1417, p0_1417, p1_1417, p2_1417, p3_1417, p4_1417⟩ := getr_M hI_1408
          have hq2_1418 : wd_1417 = wd := n_eq ((show nI wd_1417 = rdI (en_1408 0) 2 from by rw [es1417]; rfl).trans (hkp_1408.2.1.trans (show rdI (en 0) 2 = nI wd from by rw [es1395]; rfl))) (by omega) (by omega)
          have hq3_1418 : mo_1417 = mo := n_eq ((show nI mo_1417 = rdI (en_1408 0) 3 from by rw [es1417]; rfl).trans (hkp_1408.2.2.1.trans (show rdI (en 0) 3 = nI mo from by rw [es1395]; rfl))) (by omega) (by omega)
          have hq4_1418 : tb_1417 = tb := n_eq ((show nI tb_1417 = rdI (en_1408 0) 4 from by rw [es1417]; rfl).trans (hkp_1408.2.2.2.1.trans (show rdI (en 0) 4 = nI tb from by rw [es1395]; rfl))) (by omega) (by omega)
          have hq30_1418 : wo_1417 = wo := n_eq ((show nI wo_1417 = rdI (en_1408 0) 30 from by rw [es1417]; rfl).trans (hkp_1408.2.2.2.2.2.trans (show rdI (en 0) 30 = nI wo from by rw [es1395]; rfl))) (by omega) (by omega)
          rw [hq2_1418, hq3_1418, hq4_1418, hq30_1418] at es1417
          refine hp_get hx hb hts ix12 hown hK hh (q := 0) rfl (hI.1 _ (by decide)) es1417 rfl 15 (by decide) (hts _ tw_894) (fun _ h9 => h9) rfl dX12_goThrough_95 ?_
          refine lv_lconst (v := 0) hx hb dX12_goThrough_98 (by decide) ?_
          refine W.lcmp hx hb dX12_goThrough_99 ?_
          refine lv_if_eq (tgt := 112) hx hb dX12_goThrough_100 (by decide) (fun c_1419 => ?_) (fun c_1419 => ?_)
          · refine lv_aload_n hx hb dX12_goThrough_112 rfl (lv_at hl 1 rfl) ?_
            refine lv_lload_n hx hb dX12_goThrough_113 rfl (lv_at hl 0 rfl) ?_
            refine hp_put hx hb hts ix12 tyX12 tyX12_ok nmX12 hown hK hh (q := 0) rfl (hI.1 _ (by decide)) es1417 rfl 17 (by decide) (hts _ tw_896) (fun _ h9 => h9) rfl (ty := .long) (by decide +kernel) rfl rfl (Nat.le_of_ble_eq_true rfl) dX12_goThrough_114 (fun H locs en_1420 hen_1420 hh => ?_)
            have es1417_1420 : en_1420 0 = .inr (11, [.int fa_1417, .int hi_1417, .int (nI wd), .int (nI mo), .int (nI tb), .ref (ad 1), .ref (ad 2), .ref (ad 3), .ref (ad 4), .ref (ad 5), .ref (ad 6), .ref (ad 7), .ref (ad 8), .ref (ad 9), .int dp_1417, .long many_1417, .long grt_1417, .long r_1407, .long nou_1417, .ref (ad 10), .ref (ad 11), .ref (ad 12), .int rm_1417, .long rb_1417, .ref (ad 13), .int pr_1417, .ref (ad 14), .ref (ad 15), .ref (ad 16), .ref (ad 17), .int (nI wo), .ref (ad 18), .ref (ad 19)]) := by rw [hen_1420]; exact va_up_self _ _ _
            have hI_1420 : RX cy cs ad en_1420 := by rw [hen_1420]; exact upr_M hI_1408 ⟨fa_1417, hi_1417, wd, mo, tb, dp_1417, many_1417, grt_1417, r_1407, nou_1417, rm_1417, rb_1417, pr_1417, wo, rfl, hwd2, hwd3, hmo, htb, hwo⟩
            have hf_1420 : ∀ c, (c ≠ 0 ∧ c ≠ 6 ∧ c ≠ 7 ∧ c ≠ 10 ∧ c ≠ 11) → en_1420 c = en c := fun c hc => Eq.trans (show en_1420 c = en_1408 c from by rw [hen_1420, va_up_ne _ _ (by omega)]) (hf_1408 c hc)
            have hkp_1420 : KP en en_1420 := KP_fv hkp_1408 es1417 es1417_1420 hi_1417 (nI wd) (nI mo) (nI tb) pr_1417 (nI wo) rfl rfl rfl rfl rfl rfl rfl rfl rfl rfl rfl rfl
            have hsd_1420 : SD en_1404 en_1420 := SD_fv hsd_1408 es1417 es1417_1420 (show en_1420 7 = en_1408 7 from by rw [hen_1420, va_up_ne _ _ (by decide)]) dp_1417 rfl rfl
            refine lv_iconst (v := 0) hx hb dX12_goThrough_117 (by decide) ?_
            refine lv_istore (lv' := [(4, .int 0), (2, .long r_1407), (0, .ref (ad 0)), (1, .int (nI n))]) hx hb dX12_goThrough_118 hl (by decide) rfl (fun ls hl => ?_)
            have loop_1421 : ∀ (fu j1421 : Nat)  (en_1421 : Nat → va_E) (ls : Array Slot) (H : Heap) (locs : List Loc), 0 ≤ j1421 → j1421 ≤ n → n < j1421 + fu → RX cy cs ad en_1421 → (∀ c, (c ≠ 0 ∧ c ≠ 6 ∧ c ≠ 7 ∧ c ≠ 10 ∧ c ≠ 11) → en_1421 c = en c) → (KP en en_1421) → (SD en_1404 en_1421) → lv_has ls 5 [(4, .int (nI j1421)), (2, .long r_1407), (0, .ref (ad 0)), (1, .int (nI n))] → Hp D (Af cs ad sz) (Af cs ad sz) s.heap H locs cs ad en_1421 → W p l e (headSpec (Cond.code yX12_goThrough cX12_goThrough 5 none :: TB) (rmN 3)).room s m ([.ref (ad 0), .int (nI n)] : List Value).toArray below meth c H locs 0 0 (MQ below (va_Qv (S := Nat → va_E) (fun en1 => RX cy cs ad en1 ∧ (∀ c, (c ≠ 0 ∧ c ≠ 6 ∧ c ≠ 7 ∧ c ≠ 10 ∧ c ≠ 11) → en1 c = en c) ∧ KP en en1) (PostM D cs ad) (Af cs ad sz)) ([.ref (ad 0), .int (nI n)] : List Value).toArray s 0 0 (Af cs ad sz)) (F0 m 120 ls []) := by
              intro fu
              induction fu with
              | zero => intro j1421  en_1421 ls H locs h0 h1 h2; exact absurd h2 (by omega)
              | succ fu ih_1421 =>
                intro j1421  en_1421 ls H locs hj0_1421 hj_1421 hfu_1421 hI_1421 hf_1421 i0_1421 i1_1421 hl hh
                refine lv_iload hx hb dX12_goThrough_120 (lv_at hl 0 rfl) ?_
                refine lv_iload_n hx hb dX12_goThrough_122 rfl (lv_at hl 3 rfl) ?_
                refine lv_icmp_ge (tgt := 146) hx hb dX12_goThrough_123 (by decide) (fun c_1422 => ?_) (fun c_1422 => ?_)
                · have n_1422 : n ≤ j1421 := n_le (a := n) (b := j1421) c_1422 (by omega) (by omega)
                  exact join_1409  en_1421 ls _ _ hI_1421 hf_1421 i0_1421 i1_1421 (lv_sub hl [1, 2, 3] rfl) hh
                · have n_1422 : j1421 < n := n_nle (a := n) (b := j1421) c_1422 (by omega) (by omega)
                  refine lv_aload_n hx hb dX12_goThrough_126 rfl (lv_at hl 2 rfl) ?_
                  obtain ⟨fa_1423, hi_1423, wd_1423, mo_1423, tb_1423, dp_1423, many_1423, grt_1423, lst_1423, nou_1423, rm_1423, rb_1423, pr_1423, wo_1423, es1423, p0_1423, p1_1423, p2_1423, p3_1423, p4_1423⟩ := getr_M hI_1421
                  have hq2_1424 : wd_1423 = wd := n_eq ((show nI wd_1423 = rdI (en_1421 0) 2 from by rw [es1423]; rfl).trans (i0_1421.2.1.trans (show rdI (en 0) 2 = nI wd from by rw [es1395]; rfl))) (by omega) (by omega)
                  have hq3_1424 : mo_1423 = mo := n_eq ((show nI mo_1423 = rdI (en_1421 0) 3 from by rw [es1423]; rfl).trans (i0_1421.2.2.1.trans (show rdI (en 0) 3 = nI mo from by rw [es1395]; rfl))) (by omega) (by omega)
                  have hq4_1424 : tb_1423 = tb := n_eq ((show nI tb_1423 = rdI (en_1421 0) 4 from by rw [es1423]; rfl).trans (i0_1421.2.2.2.1.trans (show rdI (en 0) 4 = nI tb from by rw [es1395]; rfl))) (by omega) (by omega)
                  have hq30_1424 : wo_1423 = wo := n_eq ((show nI wo_1423 = rdI (en_1421 0) 30 from by rw [es1423]; rfl).trans (i0_1421.2.2.2.2.2.trans (show rdI (en 0) 30 = nI wo from by rw [es1395]; rfl))) (by omega) (by omega)
                  rw [hq2_1424, hq3_1424, hq4_1424, hq30_1424] at es1423
                  refine hp_get hx hb hts ix12 hown hK hh (q := 0) rfl (hI.1 _ (by decide)) es1423 rfl 20 (by decide) (hts _ tw_899) (fun _ h9 => h9) rfl dX12_goThrough_127 ?_
                  refine lv_iload hx hb dX12_goThrough_130 (lv_at hl 0 rfl) ?_
                  refine lv_aload_n hx hb dX12_goThrough_132 rfl (lv_at hl 2 rfl) ?_
                  refine hp_get hx hb hts ix12 hown hK hh (q := 0) rfl (hI.1 _ (by decide)) es1423 rfl 11 (by decide) (hts _ tw_890) (fun _ h9 => h9) rfl dX12_goThrough_133 ?_
                  refine lv_iload hx hb dX12_goThrough_136 (lv_at hl 0 rfl) ?_
                  obtain ⟨f_1425, es1425⟩ := getr_nw hI_1421
                  refine hp_iald hx hb hK hh (q := 7) rfl (hI.1 _ (by decide)) es1425 (vp_in_nI (n := j1421) (by omega) (by decide)) dX12_goThrough_138 ?_
                  rw [nI_clamp (n := j1421) (by omega)]
                  obtain ⟨v_1426, hv_1426, hve_1426⟩ := hall_1404 j1421 (by omega)
                  rw [show f_1425 j1421 = nI v_1426 from (show f_1425 j1421 = rdF (en_1404 7) j1421 from by rw [← i1_1421.2, es1425]; rfl).trans hve_1426]
                  obtain ⟨f_1427, es1427⟩ := getr_sm hI_1421
                  refine hp_iast hx hb hK hh (q := 11) rfl (hI.1 _ (by decide)) es1427 (vp_in_nI (n := j1421) (by omega) (by decide)) dX12_goThrough_139 (fun H locs en_1428 hen_1428 hh => ?_)
                  rw [nI_clamp (n := j1421) (by omega)] at hen_1428
                  have es1423_1428 : en_1428 0 = .inr (11, [.int fa_1423, .int hi_1423, .int (nI wd), .int (nI mo), .int (nI tb), .ref (ad 1), .ref (ad 2), .ref (ad 3), .ref (ad 4), .ref (ad 5), .ref (ad 6), .ref (ad 7), .ref (ad 8), .ref (ad 9), .int dp_1423, .long many_1423, .long grt_1423, .long lst_1423, .long nou_1423, .ref (ad 10), .ref (ad 11), .ref (ad 12), .int rm_1423, .long rb_1423, .ref (ad 13), .int pr_1423, .ref (ad 14), .ref (ad 15), .ref (ad 16), .ref (ad 17), .int (nI wo), .ref (ad 18), .ref (ad 19)]) := by rw [hen_1428, va_up_ne _ _ (by decide)]; exact es1423
                  have es1425_1428 : en_1428 7 = .inl (cy 0, 13, .inl f_1425) := by rw [hen_1428, va_up_ne _ _ (by decide)]; exact es1425
                  have es1427_1428 : en_1428 11 = .inl (cy 0, 12, .inl (upd f_1427 j1421 (nI v_1426))) := by rw [hen_1428]; exact va_up_self _ _ _
                  have hI_1428 : RX cy cs ad en_1428 := by rw [hen_1428]; exact upr_sm hI_1421 ⟨(upd f_1427 j1421 (nI v_1426)), rfl⟩
                  have hf_1428 : ∀ c, (c ≠ 0 ∧ c ≠ 6 ∧ c ≠ 7 ∧ c ≠ 10 ∧ c ≠ 11) → en_1428 c = en c := fun c hc => Eq.trans (show en_1428 c = en_1421 c from by rw [hen_1428, va_up_ne _ _ (by omega)]) (hf_1421 c hc)
                  have hkp_1428 : KP en en_1428 := KP_same i0_1421 (show en_1428 0 = en_1421 0 from by rw [hen_1428, va_up_ne _ _ (by decide)])
                  have hsd_1428 : SD en_1404 en_1428 := SD_same i1_1421 (show en_1428 0 = en_1421 0 from by rw [hen_1428, va_up_ne _ _ (by decide)]) (show en_1428 7 = en_1421 7 from by rw [hen_1428, va_up_ne _ _ (by decide)])
                  refine lv_iinc (v := (nI (j1421 + 1))) (lv' := [(4, .int (nI (j1421 + 1))), (2, .long r_1407), (0, .ref (ad 0)), (1, .int (nI n))]) hx hb dX12_goThrough_140 hl (k := 0) rfl (nI_1 _) (by decide) rfl (fun ls hl => ?_)
                  refine lv_goto (tgt := 120) hx hb dX12_goThrough_143 (by decide) ?_
                  exact ih_1421 ((j1421 + 1))  en_1428 ls H locs (by omega) (by omega) (by omega) hI_1428 hf_1428 (hkp_1428) (hsd_1428) (lv_sub hl [0, 1, 2, 3] rfl) hh
            exact loop_1421 (n + 1) 0  en_1420 ls _ _ (Nat.le_refl _) (by omega) (by omega) hI_1420 hf_1420 (hkp_1420) (hsd_1420) (lv_sub hl [0, 1, 2, 3] rfl) hh
          · refine lv_lload_n hx hb dX12_goThrough_103 rfl (lv_at hl 0 rfl) ?_
            refine lv_aload_n hx hb dX12_goThrough_104 rfl (lv_at hl 1 rfl) ?_
            refine hp_get hx hb hts ix12 hown hK hh (q := 0) rfl (hI.1 _ (by decide)) es1417 rfl 17 (by decide) (hts _ tw_896) (fun _ h9 => h9) rfl dX12_goThrough_105 ?_
            refine W.lcmp hx hb dX12_goThrough_108 ?_
            refine lv_if_ge (tgt := 146) hx hb dX12_goThrough_109 (by decide) (fun c_1429 => ?_) (fun c_1429 => ?_)
            · exact join_1409  en_1408 ls _ _ hI_1408 hf_1408 hkp_1408 hsd_1408 (lv_sub hl [0, 1, 2] rfl) hh
            · refine lv_aload_n hx hb dX12_goThrough_112 rfl (lv_at hl 1 rfl) ?_
              refine lv_lload_n hx hb dX12_goThrough_113 rfl (lv_at hl 0 rfl) ?_
              refine hp_put hx hb hts ix12 tyX12 tyX12_ok nmX12 hown hK hh (q := 0) rfl (hI.1 _ (by decide)) es1417 rfl 17 (by decide) (hts _ tw_896) (fun _ h9 => h9) rfl (ty := .long) (by decide +kernel) rfl rfl (Nat.le_of_ble_eq_true rfl) dX12_goThrough_114 (fun H locs en_1430 hen_1430 hh => ?_)
              have es1417_1430 : en_1430 0 = .inr (11, [.int fa_1417, .int hi_1417, .int (nI wd), .int (nI mo), .int (nI tb), .ref (ad 1), .ref (ad 2), .ref (ad 3), .ref (ad 4), .ref (ad 5), .ref (ad 6), .ref (ad 7), .ref (ad 8), .ref (ad 9), .int dp_1417, .long many_1417, .long grt_1417, .long r_1407, .long nou_1417, .ref (ad 10), .ref (ad 11), .ref (ad 12), .int rm_1417, .long rb_1417, .ref (ad 13), .int pr_1417, .ref (ad 14), .ref (ad 15), .ref (ad 16), .ref (ad 17), .int (nI wo), .ref (ad 18), .ref (ad 19)]) := by rw [hen_1430]; exact va_up_self _ _ _
              have hI_1430 : RX cy cs ad en_1430 := by rw [hen_1430]; exact upr_M hI_1408 ⟨fa_1417, hi_1417, wd, mo, tb, dp_1417, many_1417, grt_1417, r_1407, nou_1417, rm_1417, rb_1417, pr_1417, wo, rfl, hwd2, hwd3, hmo, htb, hwo⟩
              have hf_1430 : ∀ c, (c ≠ 0 ∧ c ≠ 6 ∧ c ≠ 7 ∧ c ≠ 10 ∧ c ≠ 11) → en_1430 c = en c := fun c hc => Eq.trans (show en_1430 c = en_1408 c from by rw [hen_1430, va_up_ne _ _ (by omega)]) (hf_1408 c hc)
              have hkp_1430 : KP en en_1430 := KP_fv hkp_1408 es1417 es1417_1430 hi_1417 (nI wd) (nI mo) (nI tb) pr_1417 (nI wo) rfl rfl rfl rfl rfl rfl rfl rfl rfl rfl rfl rfl
              have hsd_1430 : SD en_1404 en_1430 := SD_fv hsd_1408 es1417 es1417_1430 (show en_1430 7 = en_1408 7 from by rw [hen_1430, va_up_ne _ _ (by decide)]) dp_1417 rfl rfl
              refine lv_iconst (v := 0) hx hb dX12_goThrough_117 (by decide) ?_
              refine lv_istore (lv' := [(4, .int 0), (2, .long r_1407), (0, .ref (ad 0)), (1, .int (nI n))]) hx hb dX12_goThrough_118 hl (by decide) rfl (fun ls hl => ?_)
              have loop_1431 : ∀ (fu j1431 : Nat)  (en_1431 : Nat → va_E) (ls : Array Slot) (H : Heap) (locs : List Loc), 0 ≤ j1431 → j1431 ≤ n → n < j1431 + fu → RX cy cs ad en_1431 → (∀ c, (c ≠ 0 ∧ c ≠ 6 ∧ c ≠ 7 ∧ c ≠ 10 ∧ c ≠ 11) → en_1431 c = en c) → (KP en en_1431) → (SD en_1404 en_1431) → lv_has ls 5 [(4, .int (nI j1431)), (2, .long r_1407), (0, .ref (ad 0)), (1, .int (nI n))] → Hp D (Af cs ad sz) (Af cs ad sz) s.heap H locs cs ad en_1431 → W p l e (headSpec (Cond.code yX12_goThrough cX12_goThrough 5 none :: TB) (rmN 3)).room s m ([.ref (ad 0), .int (nI n)] : List Value).toArray below meth c H locs 0 0 (MQ below (va_Qv (S := Nat → va_E) (fun en1 => RX cy cs ad en1 ∧ (∀ c, (c ≠ 0 ∧ c ≠ 6 ∧ c ≠ 7 ∧ c ≠ 10 ∧ c ≠ 11) → en1 c = en c) ∧ KP en en1) (PostM D cs ad) (Af cs ad sz)) ([.ref (ad 0), .int (nI n)] : List Value).toArray s 0 0 (Af cs ad sz)) (F0 m 120 ls []) := by
                intro fu
                induction fu with
                | zero => intro j1431  en_1431 ls H locs h0 h1 h2; exact absurd h2 (by omega)
                | succ fu ih_1431 =>
                  intro j1431  en_1431 ls H locs hj0_1431 hj_1431 hfu_1431 hI_1431 hf_1431 i0_1431 i1_1431 hl hh
                  refine lv_iload hx hb dX12_goThrough_120 (lv_at hl 0 rfl) ?_
                  refine lv_iload_n hx hb dX12_goThrough_122 rfl (lv_at hl 3 rfl) ?_
                  refine lv_icmp_ge (tgt := 146) hx hb dX12_goThrough_123 (by decide) (fun c_1432 => ?_) (fun c_1432 => ?_)
                  · have n_1432 : n ≤ j1431 := n_le (a := n) (b := j1431) c_1432 (by omega) (by omega)
                    exact join_1409  en_1431 ls _ _ hI_1431 hf_1431 i0_1431 i1_1431 (lv_sub hl [1, 2, 3] rfl) hh
                  · have n_1432 : j1431 < n := n_nle (a := n) (b := j1431) c_1432 (by omega) (by omega)
                    refine lv_aload_n hx hb dX12_goThrough_126 rfl (lv_at hl 2 rfl) ?_
                    obtain ⟨fa_1433, hi_1433, wd_1433, mo_1433, tb_1433, dp_1433, many_1433, grt_1433, lst_1433, nou_1433, rm_1433, rb_1433, pr_1433, wo_1433, es1433, p0_1433, p1_1433, p2_1433, p3_1433, p4_1433⟩ := getr_M hI_1431
                    have hq2_1434 : wd_1433 = wd := n_eq ((show nI wd_1433 = rdI (en_1431 0) 2 from by rw [es1433]; rfl).trans (i0_1431.2.1.trans (show rdI (en 0) 2 = nI wd from by rw [es1395]; rfl))) (by omega) (by omega)
                    have hq3_1434 : mo_1433 = mo := n_eq ((show nI mo_1433 = rdI (en_1431 0) 3 from by rw [es1433]; rfl).trans (i0_1431.2.2.1.trans (show rdI (en 0) 3 = nI mo from by rw [es1395]; rfl))) (by omega) (by omega)
                    have hq4_1434 : tb_1433 = tb := n_eq ((show nI tb_1433 = rdI (en_1431 0) 4 from by rw [es1433]; rfl).trans (i0_1431.2.2.2.1.trans (show rdI (en 0) 4 = nI tb from by rw [es1395]; rfl))) (by omega) (by omega)
                    have hq30_1434 : wo_1433 = wo := n_eq ((show nI wo_1433 = rdI (en_1431 0) 30 from by rw [es1433]; rfl).trans (i0_1431.2.2.2.2.2.trans (show rdI (en 0) 30 = nI wo from by rw [es1395]; rfl))) (by omega) (by omega)
                    rw [hq2_1434, hq3_1434, hq4_1434, hq30_1434] at es1433
                    refine hp_get hx hb hts ix12 hown hK hh (q := 0) rfl (hI.1 _ (by decide)) es1433 rfl 20 (by decide) (hts _ tw_899) (fun _ h9 => h9) rfl dX12_goThrough_127 ?_
                    refine lv_iload hx hb dX12_goThrough_130 (lv_at hl 0 rfl) ?_
                    refine lv_aload_n hx hb dX12_goThrough_132 rfl (lv_at hl 2 rfl) ?_
                    refine hp_get hx hb hts ix12 hown hK hh (q := 0) rfl (hI.1 _ (by decide)) es1433 rfl 11 (by decide) (hts _ tw_890) (fun _ h9 => h9) rfl dX12_goThrough_133 ?_
                    refine lv_iload hx hb dX12_goThrough_136 (lv_at hl 0 rfl) ?_
                    obtain ⟨f_1435, es1435⟩ := getr_nw hI_1431
                    refine hp_iald hx hb hK hh (q := 7) rfl (hI.1 _ (by decide)) es1435 (vp_in_nI (n := j1431) (by omega) (by decide)) dX12_goThrough_138 ?_
                    rw [nI_clamp (n := j1431) (by omega)]
                    obtain ⟨v_1436, hv_1436, hve_1436⟩ := hall_1404 j1431 (by omega)
                    rw [show f_1435 j1431 = nI v_1436 from (show f_1435 j1431 = rdF (en_1404 7) j1431 from by rw [← i1_1431.2, es1435]; rfl).trans hve_1436]
                    obtain ⟨f_1437, es1437⟩ := getr_sm hI_1431
                    refine hp_iast hx hb hK hh (q := 11) rfl (hI.1 _ (by decide)) es1437 (vp_in_nI (n := j1431) (by omega) (by decide)) dX12_goThrough_139 (fun H locs en_1438 hen_1438 hh => ?_)
                    rw [nI_clamp (n := j1431) (by omega)] at hen_1438
                    have es1433_1438 : en_1438 0 = .inr (11, [.int fa_1433, .int hi_1433, .int (nI wd), .int (nI mo), .int (nI tb), .ref (ad 1), .ref (ad 2), .ref (ad 3), .ref (ad 4), .ref (ad 5), .ref (ad 6), .ref (ad 7), .ref (ad 8), .ref (ad 9), .int dp_1433, .long many_1433, .long grt_1433, .long lst_1433, .long nou_1433, .ref (ad 10), .ref (ad 11), .ref (ad 12), .int rm_1433, .long rb_1433, .ref (ad 13), .int pr_1433, .ref (ad 14), .ref (ad 15), .ref (ad 16), .ref (ad 17), .int (nI wo), .ref (ad 18), .ref (ad 19)]) := by rw [hen_1438, va_up_ne _ _ (by decide)]; exact es1433
                    have es1435_1438 : en_1438 7 = .inl (cy 0, 13, .inl f_1435) := by rw [hen_1438, va_up_ne _ _ (by decide)]; exact es1435
                    have es1437_1438 : en_1438 11 = .inl (cy 0, 12, .inl (upd f_1437 j1431 (nI v_1436))) := by rw [hen_1438]; exact va_up_self _ _ _
                    have hI_1438 : RX cy cs ad en_1438 := by rw [hen_1438]; exact upr_sm hI_1431 ⟨(upd f_1437 j1431 (nI v_1436)), rfl⟩
                    have hf_1438 : ∀ c, (c ≠ 0 ∧ c ≠ 6 ∧ c ≠ 7 ∧ c ≠ 10 ∧ c ≠ 11) → en_1438 c = en c := fun c hc => Eq.trans (show en_1438 c = en_1431 c from by rw [hen_1438, va_up_ne _ _ (by omega)]) (hf_1431 c hc)
                    have hkp_1438 : KP en en_1438 := KP_same i0_1431 (show en_1438 0 = en_1431 0 from by rw [hen_1438, va_up_ne _ _ (by decide)])
                    have hsd_1438 : SD en_1404 en_1438 := SD_same i1_1431 (show en_1438 0 = en_1431 0 from by rw [hen_1438, va_up_ne _ _ (by decide)]) (show en_1438 7 = en_1431 7 from by rw [hen_1438, va_up_ne _ _ (by decide)])
                    refine lv_iinc (v := (nI (j1431 + 1))) (lv' := [(4, .int (nI (j1431 + 1))), (2, .long r_1407), (0, .ref (ad 0)), (1, .int (nI n))]) hx hb dX12_goThrough_140 hl (k := 0) rfl (nI_1 _) (by decide) rfl (fun ls hl => ?_)
                    refine lv_goto (tgt := 120) hx hb dX12_goThrough_143 (by decide) ?_
                    exact ih_1431 ((j1431 + 1))  en_1438 ls H locs (by omega) (by omega) (by omega) hI_1438 hf_1438 (hkp_1438) (hsd_1438) (lv_sub hl [0, 1, 2, 3] rfl) hh
              exact loop_1431 (n + 1) 0  en_1430 ls _ _ (Nat.le_refl _) (by omega) (by omega) hI_1430 hf_1430 (hkp_1430) (hsd_1430) (lv_sub hl [0, 1, 2, 3] rfl) hh
        refine lv_aload_n hx hb dX12_goThrough_42 rfl (lv_at hl 1 rfl) ?_
        refine hp_get hx hb hts ix12 hown hK hh (q := 0) rfl (hI.1 _ (by decide)) es1405 rfl 15 (by decide) (hts _ tw_894) (fun _ h9 => h9) rfl dX12_goThrough_43 ?_
        refine lv_lconst (v := 0) hx hb dX12_goThrough_46 (by decide) ?_
        refine W.lcmp hx hb dX12_goThrough_47 ?_
        refine lv_if_eq (tgt := 60) hx hb dX12_goThrough_48 (by decide) (fun c_1439 => ?_) (fun c_1439 => ?_)
        · refine lv_aload_n hx hb dX12_goThrough_60 rfl (lv_at hl 1 rfl) ?_
          refine lv_lload_n hx hb dX12_goThrough_61 rfl (lv_at hl 0 rfl) ?_
          refine hp_put hx hb hts ix12 tyX12 tyX12_ok nmX12 hown hK hh (q := 0) rfl (hI.1 _ (by decide)) es1405 rfl 16 (by decide) (hts _ tw_895) (fun _ h9 => h9) rfl (ty := .long) (by decide +kernel) rfl rfl (Nat.le_of_ble_eq_true rfl) dX12_goThrough_62 (fun H locs en_1440 hen_1440 hh => ?_)
          have es1405_1440 : en_1440 0 = .inr (11, [.int fa_1405, .int hi_1405, .int (nI wd), .int (nI mo), .int (nI tb), .ref (ad 1), .ref (ad 2), .ref (ad 3), .ref (ad 4), .ref (ad 5), .ref (ad 6), .ref (ad 7), .ref (ad 8), .ref (ad 9), .int dp_1405, .long many_1405, .long r_1407, .long lst_1405, .long nou_1405, .ref (ad 10), .ref (ad 11), .ref (ad 12), .int rm_1405, .long rb_1405, .ref (ad 13), .int pr_1405, .ref (ad 14), .ref (ad 15), .ref (ad 16), .ref (ad 17), .int (nI wo), .ref (ad 18), .ref (ad 19)]) := by rw [hen_1440]; exact va_up_self _ _ _
          have hI_1440 : RX cy cs ad en_1440 := by rw [hen_1440]; exact upr_M hI_1404 ⟨fa_1405, hi_1405, wd, mo, tb, dp_1405, many_1405, r_1407, lst_1405, nou_1405, rm_1405, rb_1405, pr_1405, wo, rfl, hwd2, hwd3, hmo, htb, hwo⟩
          have hf_1440 : ∀ c, (c ≠ 0 ∧ c ≠ 6 ∧ c ≠ 7 ∧ c ≠ 10 ∧ c ≠ 11) → en_1440 c = en c := fun c hc => Eq.trans (show en_1440 c = en_1404 c from by rw [hen_1440, va_up_ne _ _ (by omega)]) (hf_1404 c hc)
          have hkp_1440 : KP en en_1440 := KP_fv hkp_1404 es1405 es1405_1440 hi_1405 (nI wd) (nI mo) (nI tb) pr_1405 (nI wo) rfl rfl rfl rfl rfl rfl rfl rfl rfl rfl rfl rfl
          have hsd_1440 : SD en_1404 en_1440 := SD_fv (SD_rf en_1404) es1405 es1405_1440 (show en_1440 7 = en_1404 7 from by rw [hen_1440, va_up_ne _ _ (by decide)]) dp_1405 rfl rfl
          refine lv_iconst (v := 0) hx hb dX12_goThrough_65 (by decide) ?_
          refine lv_istore (lv' := [(4, .int 0), (2, .long r_1407), (0, .ref (ad 0)), (1, .int (nI n))]) hx hb dX12_goThrough_66 hl (by decide) rfl (fun ls hl => ?_)
          have loop_1441 : ∀ (fu j1441 : Nat)  (en_1441 : Nat → va_E) (ls : Array Slot) (H : Heap) (locs : List Loc), 0 ≤ j1441 → j1441 ≤ n → n < j1441 + fu → RX cy cs ad en_1441 → (∀ c, (c ≠ 0 ∧ c ≠ 6 ∧ c ≠ 7 ∧ c ≠ 10 ∧ c ≠ 11) → en_1441 c = en c) → (KP en en_1441) → (SD en_1404 en_1441) → lv_has ls 5 [(4, .int (nI j1441)), (2, .long r_1407), (0, .ref (ad 0)), (1, .int (nI n))] → Hp D (Af cs ad sz) (Af cs ad sz) s.heap H locs cs ad en_1441 → W p l e (headSpec (Cond.code yX12_goThrough cX12_goThrough 5 none :: TB) (rmN 3)).room s m ([.ref (ad 0), .int (nI n)] : List Value).toArray below meth c H locs 0 0 (MQ below (va_Qv (S := Nat → va_E) (fun en1 => RX cy cs ad en1 ∧ (∀ c, (c ≠ 0 ∧ c ≠ 6 ∧ c ≠ 7 ∧ c ≠ 10 ∧ c ≠ 11) → en1 c = en c) ∧ KP en en1) (PostM D cs ad) (Af cs ad sz)) ([.ref (ad 0), .int (nI n)] : List Value).toArray s 0 0 (Af cs ad sz)) (F0 m 68 ls []) := by
            intro fu
            induction fu with
            | zero => intro j1441  en_1441 ls H locs h0 h1 h2; exact absurd h2 (by omega)
            | succ fu ih_1441 =>
              intro j1441  en_1441 ls H locs hj0_1441 hj_1441 hfu_1441 hI_1441 hf_1441 i0_1441 i1_1441 hl hh
              refine lv_iload hx hb dX12_goThrough_68 (lv_at hl 0 rfl) ?_
              refine lv_iload_n hx hb dX12_goThrough_70 rfl (lv_at hl 3 rfl) ?_
              refine lv_icmp_ge (tgt := 94) hx hb dX12_goThrough_71 (by decide) (fun c_1442 => ?_) (fun c_1442 => ?_)
              · have n_1442 : n ≤ j1441 := n_le (a := n) (b := j1441) c_1442 (by omega) (by omega)
                exact join_1408  en_1441 ls _ _ hI_1441 hf_1441 i0_1441 i1_1441 (lv_sub hl [1, 2, 3] rfl) hh
              · have n_1442 : j1441 < n := n_nle (a := n) (b := j1441) c_1442 (by omega) (by omega)
                refine lv_aload_n hx hb dX12_goThrough_74 rfl (lv_at hl 2 rfl) ?_
                obtain ⟨fa_1443, hi_1443, wd_1443, mo_1443, tb_1443, dp_1443, many_1443, grt_1443, lst_1443, nou_1443, rm_1443, rb_1443, pr_1443, wo_1443, es1443, p0_1443, p1_1443, p2_1443, p3_1443, p4_1443⟩ := getr_M hI_1441
                have hq2_1444 : wd_1443 = wd := n_eq ((show nI wd_1443 = rdI (en_1441 0) 2 from by rw [es1443]; rfl).trans (i0_1441.2.1.trans (show rdI (en 0) 2 = nI wd from by rw [es1395]; rfl))) (by omega) (by omega)
                have hq3_1444 : mo_1443 = mo := n_eq ((show nI mo_1443 = rdI (en_1441 0) 3 from by rw [es1443]; rfl).trans (i0_1441.2.2.1.trans (show rdI (en 0) 3 = nI mo from by rw [es1395]; rfl))) (by omega) (by omega)
                have hq4_1444 : tb_1443 = tb := n_eq ((show nI tb_1443 = rdI (en_1441 0) 4 from by rw [es1443]; rfl).trans (i0_1441.2.2.2.1.trans (show rdI (en 0) 4 = nI tb from by rw [es1395]; rfl))) (by omega) (by omega)
                have hq30_1444 : wo_1443 = wo := n_eq ((show nI wo_1443 = rdI (en_1441 0) 30 from by rw [es1443]; rfl).trans (i0_1441.2.2.2.2.2.trans (show rdI (en 0) 30 = nI wo from by rw [es1395]; rfl))) (by omega) (by omega)
                rw [hq2_1444, hq3_1444, hq4_1444, hq30_1444] at es1443
                refine hp_get hx hb hts ix12 hown hK hh (q := 0) rfl (hI.1 _ (by decide)) es1443 rfl 19 (by decide) (hts _ tw_898) (fun _ h9 => h9) rfl dX12_goThrough_75 ?_
                refine lv_iload hx hb dX12_goThrough_78 (lv_at hl 0 rfl) ?_
                refine lv_aload_n hx hb dX12_goThrough_80 rfl (lv_at hl 2 rfl) ?_
                refine hp_get hx hb hts ix12 hown hK hh (q := 0) rfl (hI.1 _ (by decide)) es1443 rfl 11 (by decide) (hts _ tw_890) (fun _ h9 => h9) rfl dX12_goThrough_81 ?_
                refine lv_iload hx hb dX12_goThrough_84 (lv_at hl 0 rfl) ?_
                obtain ⟨f_1445, es1445⟩ := getr_nw hI_1441
                refine hp_iald hx hb hK hh (q := 7) rfl (hI.1 _ (by decide)) es1445 (vp_in_nI (n := j1441) (by omega) (by decide)) dX12_goThrough_86 ?_
                rw [nI_clamp (n := j1441) (by omega)]
                obtain ⟨v_1446, hv_1446, hve_1446⟩ := hall_1404 j1441 (by omega)
                rw [show f_1445 j1441 = nI v_1446 from (show f_1445 j1441 = rdF (en_1404 7) j1441 from by rw [← i1_1441.2, es1445]; rfl).trans hve_1446]
                obtain ⟨f_1447, es1447⟩ := getr_gt hI_1441
                refine hp_iast hx hb hK hh (q := 10) rfl (hI.1 _ (by decide)) es1447 (vp_in_nI (n := j1441) (by omega) (by decide)) dX12_goThrough_87 (fun H locs en_1448 hen_1448 hh => ?_)
                rw [nI_clamp (n := j1441) (by omega)] at hen_1448
                have es1443_1448 : en_1448 0 = .inr (11, [.int fa_1443, .int hi_1443, .int (nI wd), .int (nI mo), .int (nI tb), .ref (ad 1), .ref (ad 2), .ref (ad 3), .ref (ad 4), .ref (ad 5), .ref (ad 6), .ref (ad 7), .ref (ad 8), .ref (ad 9), .int dp_1443, .long many_1443, .long grt_1443, .long lst_1443, .long nou_1443, .ref (ad 10), .ref (ad 11), .ref (ad 12), .int rm_1443, .long rb_1443, .ref (ad 13), .int pr_1443, .ref (ad 14), .ref (ad 15), .ref (ad 16), .ref (ad 17), .int (nI wo), .ref (ad 18), .ref (ad 19)]) := by rw [hen_1448, va_up_ne _ _ (by decide)]; exact es1443
                have es1445_1448 : en_1448 7 = .inl (cy 0, 13, .inl f_1445) := by rw [hen_1448, va_up_ne _ _ (by decide)]; exact es1445
                have es1447_1448 : en_1448 10 = .inl (cy 0, 12, .inl (upd f_1447 j1441 (nI v_1446))) := by rw [hen_1448]; exact va_up_self _ _ _
                have hI_1448 : RX cy cs ad en_1448 := by rw [hen_1448]; exact upr_gt hI_1441 ⟨(upd f_1447 j1441 (nI v_1446)), rfl⟩
                have hf_1448 : ∀ c, (c ≠ 0 ∧ c ≠ 6 ∧ c ≠ 7 ∧ c ≠ 10 ∧ c ≠ 11) → en_1448 c = en c := fun c hc => Eq.trans (show en_1448 c = en_1441 c from by rw [hen_1448, va_up_ne _ _ (by omega)]) (hf_1441 c hc)
                have hkp_1448 : KP en en_1448 := KP_same i0_1441 (show en_1448 0 = en_1441 0 from by rw [hen_1448, va_up_ne _ _ (by decide)])
                have hsd_1448 : SD en_1404 en_1448 := SD_same i1_1441 (show en_1448 0 = en_1441 0 from by rw [hen_1448, va_up_ne _ _ (by decide)]) (show en_1448 7 = en_1441 7 from by rw [hen_1448, va_up_ne _ _ (by decide)])
                refine lv_iinc (v := (nI (j1441 + 1))) (lv' := [(4, .int (nI (j1441 + 1))), (2, .long r_1407), (0, .ref (ad 0)), (1, .int (nI n))]) hx hb dX12_goThrough_88 hl (k := 0) rfl (nI_1 _) (by decide) rfl (fun ls hl => ?_)
                refine lv_goto (tgt := 68) hx hb dX12_goThrough_91 (by decide) ?_
                exact ih_1441 ((j1441 + 1))  en_1448 ls H locs (by omega) (by omega) (by omega) hI_1448 hf_1448 (hkp_1448) (hsd_1448) (lv_sub hl [0, 1, 2, 3] rfl) hh
          exact loop_1441 (n + 1) 0  en_1440 ls _ _ (Nat.le_refl _) (by omega) (by omega) hI_1440 hf_1440 (hkp_1440) (hsd_1440) (lv_sub hl [0, 1, 2, 3] rfl) hh
        · refine lv_lload_n hx hb dX12_goThrough_51 rfl (lv_at hl 0 rfl) ?_
          refine lv_aload_n hx hb dX12_goThrough_52 rfl (lv_at hl 1 rfl) ?_
          refine hp_get hx hb hts ix12 hown hK hh (q := 0) rfl (hI.1 _ (by decide)) es1405 rfl 16 (by decide) (hts _ tw_895) (fun _ h9 => h9) rfl dX12_goThrough_53 ?_
          refine W.lcmp hx hb dX12_goThrough_56 ?_
          refine lv_if_le (tgt := 94) hx hb dX12_goThrough_57 (by decide) (fun c_1449 => ?_) (fun c_1449 => ?_)
          · exact join_1408  en_1404 ls _ _ hI_1404 hf_1404 hkp_1404 (SD_rf en_1404) (lv_sub hl [0, 1, 2] rfl) hh
          · refine lv_aload_n hx hb dX12_goThrough_60 rfl (lv_at hl 1 rfl) ?_
            refine lv_lload_n hx hb dX12_goThrough_61 rfl (lv_at hl 0 rfl) ?_
            refine hp_put hx hb hts ix12 tyX12 tyX12_ok nmX12 hown hK hh (q := 0) rfl (hI.1 _ (by decide)) es1405 rfl 16 (by decide) (hts _ tw_895) (fun _ h9 => h9) rfl (ty := .long) (by decide +kernel) rfl rfl (Nat.le_of_ble_eq_true rfl) dX12_goThrough_62 (fun H locs en_1450 hen_1450 hh => ?_)
            have es1405_1450 : en_1450 0 = .inr (11, [.int fa_1405, .int hi_1405, .int (nI wd), .int (nI mo), .int (nI tb), .ref (ad 1), .ref (ad 2), .ref (ad 3), .ref (ad 4), .ref (ad 5), .ref (ad 6), .ref (ad 7), .ref (ad 8), .ref (ad 9), .int dp_1405, .long many_1405, .long r_1407, .long lst_1405, .long nou_1405, .ref (ad 10), .ref (ad 11), .ref (ad 12), .int rm_1405, .long rb_1405, .ref (ad 13), .int pr_1405, .ref (ad 14), .ref (ad 15), .ref (ad 16), .ref (ad 17), .int (nI wo), .ref (ad 18), .ref (ad 19)]) := by rw [hen_1450]; exact va_up_self _ _ _
            have hI_1450 : RX cy cs ad en_1450 := by rw [hen_1450]; exact upr_M hI_1404 ⟨fa_1405, hi_1405, wd, mo, tb, dp_1405, many_1405, r_1407, lst_1405, nou_1405, rm_1405, rb_1405, pr_1405, wo, rfl, hwd2, hwd3, hmo, htb, hwo⟩
            have hf_1450 : ∀ c, (c ≠ 0 ∧ c ≠ 6 ∧ c ≠ 7 ∧ c ≠ 10 ∧ c ≠ 11) → en_1450 c = en c := fun c hc => Eq.trans (show en_1450 c = en_1404 c from by rw [hen_1450, va_up_ne _ _ (by omega)]) (hf_1404 c hc)
            have hkp_1450 : KP en en_1450 := KP_fv hkp_1404 es1405 es1405_1450 hi_1405 (nI wd) (nI mo) (nI tb) pr_1405 (nI wo) rfl rfl rfl rfl rfl rfl rfl rfl rfl rfl rfl rfl
            have hsd_1450 : SD en_1404 en_1450 := SD_fv (SD_rf en_1404) es1405 es1405_1450 (show en_1450 7 = en_1404 7 from by rw [hen_1450, va_up_ne _ _ (by decide)]) dp_1405 rfl rfl
            refine lv_iconst (v := 0) hx hb dX12_goThrough_65 (by decide) ?_
            refine lv_istore (lv' := [(4, .int 0), (2, .long r_1407), (0, .ref (ad 0)), (1, .int (nI n))]) hx hb dX12_goThrough_66 hl (by decide) rfl (fun ls hl => ?_)
            have loop_1451 : ∀ (fu j1451 : Nat)  (en_1451 : Nat → va_E) (ls : Array Slot) (H : Heap) (locs : List Loc), 0 ≤ j1451 → j1451 ≤ n → n < j1451 + fu → RX cy cs ad en_1451 → (∀ c, (c ≠ 0 ∧ c ≠ 6 ∧ c ≠ 7 ∧ c ≠ 10 ∧ c ≠ 11) → en_1451 c = en c) → (KP en en_1451) → (SD en_1404 en_1451) → lv_has ls 5 [(4, .int (nI j1451)), (2, .long r_1407), (0, .ref (ad 0)), (1, .int (nI n))] → Hp D (Af cs ad sz) (Af cs ad sz) s.heap H locs cs ad en_1451 → W p l e (headSpec (Cond.code yX12_goThrough cX12_goThrough 5 none :: TB) (rmN 3)).room s m ([.ref (ad 0), .int (nI n)] : List Value).toArray below meth c H locs 0 0 (MQ below (va_Qv (S := Nat → va_E) (fun en1 => RX cy cs ad en1 ∧ (∀ c, (c ≠ 0 ∧ c ≠ 6 ∧ c ≠ 7 ∧ c ≠ 10 ∧ c ≠ 11) → en1 c = en c) ∧ KP en en1) (PostM D cs ad) (Af cs ad sz)) ([.ref (ad 0), .int (nI n)] : List Value).toArray s 0 0 (Af cs ad sz)) (F0 m 68 ls []) := by
              intro fu
              induction fu with
              | zero => intro j1451  en_1451 ls H locs h0 h1 h2; exact absurd h2 (by omega)
              | succ fu ih_1451 =>
                intro j1451  en_1451 ls H locs hj0_1451 hj_1451 hfu_1451 hI_1451 hf_1451 i0_1451 i1_1451 hl hh
                refine lv_iload hx hb dX12_goThrough_68 (lv_at hl 0 rfl) ?_
                refine lv_iload_n hx hb dX12_goThrough_70 rfl (lv_at hl 3 rfl) ?_
                refine lv_icmp_ge (tgt := 94) hx hb dX12_goThrough_71 (by decide) (fun c_1452 => ?_) (fun c_1452 => ?_)
                · have n_1452 : n ≤ j1451 := n_le (a := n) (b := j1451) c_1452 (by omega) (by omega)
                  exact join_1408  en_1451 ls _ _ hI_1451 hf_1451 i0_1451 i1_1451 (lv_sub hl [1, 2, 3] rfl) hh
                · have n_1452 : j1451 < n := n_nle (a := n) (b := j1451) c_1452 (by omega) (by omega)
                  refine lv_aload_n hx hb dX12_goThrough_74 rfl (lv_at hl 2 rfl) ?_
                  obtain ⟨fa_1453, hi_1453, wd_1453, mo_1453, tb_1453, dp_1453, many_1453, grt_1453, lst_1453, nou_1453, rm_1453, rb_1453, pr_1453, wo_1453, es1453, p0_1453, p1_1453, p2_1453, p3_1453, p4_1453⟩ := getr_M hI_1451
                  have hq2_1454 : wd_1453 = wd := n_eq ((show nI wd_1453 = rdI (en_1451 0) 2 from by rw [es1453]; rfl).trans (i0_1451.2.1.trans (show rdI (en 0) 2 = nI wd from by rw [es1395]; rfl))) (by omega) (by omega)
                  have hq3_1454 : mo_1453 = mo := n_eq ((show nI mo_1453 = rdI (en_1451 0) 3 from by rw [es1453]; rfl).trans (i0_1451.2.2.1.trans (show rdI (en 0) 3 = nI mo from by rw [es1395]; rfl))) (by omega) (by omega)
                  have hq4_1454 : tb_1453 = tb := n_eq ((show nI tb_1453 = rdI (en_1451 0) 4 from by rw [es1453]; rfl).trans (i0_1451.2.2.2.1.trans (show rdI (en 0) 4 = nI tb from by rw [es1395]; rfl))) (by omega) (by omega)
                  have hq30_1454 : wo_1453 = wo := n_eq ((show nI wo_1453 = rdI (en_1451 0) 30 from by rw [es1453]; rfl).trans (i0_1451.2.2.2.2.2.trans (show rdI (en 0) 30 = nI wo from by rw [es1395]; rfl))) (by omega) (by omega)
                  rw [hq2_1454, hq3_1454, hq4_1454, hq30_1454] at es1453
                  refine hp_get hx hb hts ix12 hown hK hh (q := 0) rfl (hI.1 _ (by decide)) es1453 rfl 19 (by decide) (hts _ tw_898) (fun _ h9 => h9) rfl dX12_goThrough_75 ?_
                  refine lv_iload hx hb dX12_goThrough_78 (lv_at hl 0 rfl) ?_
                  refine lv_aload_n hx hb dX12_goThrough_80 rfl (lv_at hl 2 rfl) ?_
                  refine hp_get hx hb hts ix12 hown hK hh (q := 0) rfl (hI.1 _ (by decide)) es1453 rfl 11 (by decide) (hts _ tw_890) (fun _ h9 => h9) rfl dX12_goThrough_81 ?_
                  refine lv_iload hx hb dX12_goThrough_84 (lv_at hl 0 rfl) ?_
                  obtain ⟨f_1455, es1455⟩ := getr_nw hI_1451
                  refine hp_iald hx hb hK hh (q := 7) rfl (hI.1 _ (by decide)) es1455 (vp_in_nI (n := j1451) (by omega) (by decide)) dX12_goThrough_86 ?_
                  rw [nI_clamp (n := j1451) (by omega)]
                  obtain ⟨v_1456, hv_1456, hve_1456⟩ := hall_1404 j1451 (by omega)
                  rw [show f_1455 j1451 = nI v_1456 from (show f_1455 j1451 = rdF (en_1404 7) j1451 from by rw [← i1_1451.2, es1455]; rfl).trans hve_1456]
                  obtain ⟨f_1457, es1457⟩ := getr_gt hI_1451
                  refine hp_iast hx hb hK hh (q := 10) rfl (hI.1 _ (by decide)) es1457 (vp_in_nI (n := j1451) (by omega) (by decide)) dX12_goThrough_87 (fun H locs en_1458 hen_1458 hh => ?_)
                  rw [nI_clamp (n := j1451) (by omega)] at hen_1458
                  have es1453_1458 : en_1458 0 = .inr (11, [.int fa_1453, .int hi_1453, .int (nI wd), .int (nI mo), .int (nI tb), .ref (ad 1), .ref (ad 2), .ref (ad 3), .ref (ad 4), .ref (ad 5), .ref (ad 6), .ref (ad 7), .ref (ad 8), .ref (ad 9), .int dp_1453, .long many_1453, .long grt_1453, .long lst_1453, .long nou_1453, .ref (ad 10), .ref (ad 11), .ref (ad 12), .int rm_1453, .long rb_1453, .ref (ad 13), .int pr_1453, .ref (ad 14), .ref (ad 15), .ref (ad 16), .ref (ad 17), .int (nI wo), .ref (ad 18), .ref (ad 19)]) := by rw [hen_1458, va_up_ne _ _ (by decide)]; exact es1453
                  have es1455_1458 : en_1458 7 = .inl (cy 0, 13, .inl f_1455) := by rw [hen_1458, va_up_ne _ _ (by decide)]; exact es1455
                  have es1457_1458 : en_1458 10 = .inl (cy 0, 12, .inl (upd f_1457 j1451 (nI v_1456))) := by rw [hen_1458]; exact va_up_self _ _ _
                  have hI_1458 : RX cy cs ad en_1458 := by rw [hen_1458]; exact upr_gt hI_1451 ⟨(upd f_1457 j1451 (nI v_1456)), rfl⟩
                  have hf_1458 : ∀ c, (c ≠ 0 ∧ c ≠ 6 ∧ c ≠ 7 ∧ c ≠ 10 ∧ c ≠ 11) → en_1458 c = en c := fun c hc => Eq.trans (show en_1458 c = en_1451 c from by rw [hen_1458, va_up_ne _ _ (by omega)]) (hf_1451 c hc)
                  have hkp_1458 : KP en en_1458 := KP_same i0_1451 (show en_1458 0 = en_1451 0 from by rw [hen_1458, va_up_ne _ _ (by decide)])
                  have hsd_1458 : SD en_1404 en_1458 := SD_same i1_1451 (show en_1458 0 = en_1451 0 from by rw [hen_1458, va_up_ne _ _ (by decide)]) (show en_1458 7 = en_1451 7 from by rw [hen_1458, va_up_ne _ _ (by decide)])
                  refine lv_iinc (v := (nI (j1451 + 1))) (lv' := [(4, .int (nI (j1451 + 1))), (2, .long r_1407), (0, .ref (ad 0)), (1, .int (nI n))]) hx hb dX12_goThrough_88 hl (k := 0) rfl (nI_1 _) (by decide) rfl (fun ls hl => ?_)
                  refine lv_goto (tgt := 68) hx hb dX12_goThrough_91 (by decide) ?_
                  exact ih_1451 ((j1451 + 1))  en_1458 ls H locs (by omega) (by omega) (by omega) hI_1458 hf_1458 (hkp_1458) (hsd_1458) (lv_sub hl [0, 1, 2, 3] rfl) hh
            exact loop_1451 (n + 1) 0  en_1450 ls _ _ (Nat.le_refl _) (by omega) (by omega) hI_1450 hf_1450 (hkp_1450) (hsd_1450) (lv_sub hl [0, 1, 2, 3] rfl) hh
  exact loop_1401 (134217728 + 1) 134217728 0 0 en_1400 ls _ _ (by omega) hI_1400 hf_1400 (hND_1400) (by omega) (hkp_1400) (lv_sub hl [0, 1] rfl) hh
theorem kw_X12_goThrough {R : Room} {s : State} {args : Array Value} {own : String} {idx : Nat} (hts : ∀ w ∈ TB, w.before args s = true) (hl : Cond.methodLink own idx yX12_goThrough ∈ TB) (hR : 3 + 1 ≤ R.frames ∧ 8 + (5 + 11) + 40 * 3 ≤ R.locals) : CallW R s args own RX12 idx yX12_goThrough cX12_goThrough 5 none (Cond.code yX12_goThrough cX12_goThrough 5 none :: TB) (rmN 3) 0 0 1 := cwV 1 hts (TB_V hl tw_1036 ts_37 tw_9 tw_1037) rfl rfl rfl (by decide +kernel) hR
set_option maxHeartbeats 4000000 in
set_option maxRecDepth 100000 in
/-- X12_length -/
theorem c_X12_length (l : Launch) (D : va_G) (cy : Nat → ClassId) (sz : Nat) (cs : List Nat) (ad : Nat → Nat) (en : Nat → va_E) (hI : RX cy cs ad en) (n9 w9 : Int32)   : Met l yX12_length (Cond.code yX12_length cX12_length 3 (some .long) :: TB) (rmN 4) (va_Pc [.ref (ad 0), .int n9, .int w9] (Pre D cy cs ad en sz)) (va_Ql (S := Nat → va_E) (fun r en1 => RX cy cs ad en1 ∧ (∀ c, (c ≠ 0 ∧ c ≠ 6 ∧ c ≠ 7 ∧ c ≠ 8 ∧ c ≠ 9 ∧ c ≠ 10 ∧ c ≠ 11) → en1 c = en c) ∧ KP en en1) (PostM D cs ad) (Af cs ad sz)) 0 0 (Af cs ad sz) := by
  refine Met.ofW (cc := cX12_length) (maxL := 3) (ret := (some .long)) (by decide) rfl ?_
  intro p e s m args below meth c s₁ B hml hv
  obtain ⟨rfl, hsz, hP, hK, hD0⟩ := hv
  have hx := B.exec
  have hb := B.bytes
  have hr := B.returns
  have hts : ∀ w ∈ TB, w.before _ s = true := fun w h => atoms_spec (ws := _ :: TB) B.pre w (List.mem_cons_of_mem _ h)
  have hown : s.vm.findClass RX12 = some m.cls := findClass_of_methodNamed B.named
  have hlocks := B.notSynchronized
  have hh : Hp D (Af cs ad sz) (Af cs ad sz) s.heap s.heap [] cs ad en := ⟨hP, Af_self hD0, va_S.rf⟩
  have hA : ∀ q : Nat, s.heap.size ≤ q → Af cs ad sz q := fun q h => Or.inr (by rw [hsz] at h; exact h)
  have hl := lv_entry ([.ref (ad 0), .int n9, .int w9]) (n := 3) (Nat.le_of_ble_eq_true rfl)
  rw [lg_entry_eq]
  generalize (lg_sl ([.ref (ad 0), .int n9, .int w9]) ++ List.replicate (3 - (lg_sl ([.ref (ad 0), .int n9, .int w9])).length) Slot.unset).toArray = ls at hl ⊢
  have hl : lv_has ls 3 [(0, .ref (ad 0)), (1, .int n9), (2, .int w9)] := hl
  have hf0 : ∀ c, (c ≠ 0 ∧ c ≠ 6 ∧ c ≠ 7 ∧ c ≠ 8 ∧ c ≠ 9 ∧ c ≠ 10 ∧ c ≠ 11) → en c = en c := fun _ _ => rfl
  obtain ⟨fa, hi, wd, mo, tb, dp, many, grt, lst, nou, rm, rb, pr, wo, es1459, hwd2, hwd3, hmo, htb, hwo⟩ := getr_M hI
  refine lv_iload_n hx hb dX12_length_0 rfl (lv_at hl 1 rfl) ?_
  refine lv_i2l hx hb dX12_length_1 rfl ?_
  refine lv_lconst (v := 1) hx hb dX12_length_2 (by decide) ?_
  refine lv_ldc2 hx hb hown (hts _ tw_1024) dX12_length_3 ?_
  refine hp_callRi (va_runS (As := [.long n9.toInt64, .long 1, .long 8]) (rest := []) ⟨hx, hb, hml, hown, hts⟩ (c_X12_within l D cy _ cs ad en n9.toInt64 1 8) (kw_X12_within hts tw_985 ⟨by decide, by decide⟩) (preS_of hh hK) rfl rfl hl.1 rfl (lv_room (Nat.le_of_ble_eq_true rfl)) dX12_length_6 ⟨Nat.le_of_ble_eq_true rfl, Nat.le_of_ble_eq_true rfl⟩) hh hA (fun r_1460 H locs hw_1460 hh => ?_)
  rcases Decidable.em (wi n9 1 8) with hp_1460 | hp_1460
  · obtain rfl : r_1460 = 1 := Eq.trans hw_1460 (if_pos ((wj_32 (by decide) (by decide)).mpr hp_1460))
    obtain ⟨N_1460, rfl, hA_1460, hB_1460⟩ := wi_natB hp_1460 1 8 (by decide) (by decide)
    refine lv_if_eq (tgt := 32) hx hb dX12_length_9 (by decide) (fun c_0 => absurd c_0 (by decide)) (fun _ => ?_)
    refine lv_iload_n hx hb dX12_length_12 rfl (lv_at hl 2 rfl) ?_
    refine lv_i2l hx hb dX12_length_13 rfl ?_
    refine lv_lconst (v := 0) hx hb dX12_length_14 (by decide) ?_
    refine lv_ldc2 hx hb hown (hts _ tw_984) dX12_length_15 ?_
    refine hp_callRi (va_runS (As := [.long w9.toInt64, .long 0, .long 3]) (rest := []) ⟨hx, hb, hml, hown, hts⟩ (c_X12_within l D cy _ cs ad en w9.toInt64 0 3) (kw_X12_within hts tw_985 ⟨by decide, by decide⟩) (preS_of hh hK) rfl rfl hl.1 rfl (lv_room (Nat.le_of_ble_eq_true rfl)) dX12_length_18 ⟨Nat.le_of_ble_eq_true rfl, Nat.le_of_ble_eq_true rfl⟩) hh hA (fun r_1461 H locs hw_1461 hh => ?_)
    rcases Decidable.em (wi w9 0 3) with hp_1461 | hp_1461
    · obtain rfl : r_1461 = 1 := Eq.trans hw_1461 (if_pos ((wj_32 (by decide) (by decide)).mpr hp_1461))
      obtain ⟨N_1461, rfl, hA_1461, hB_1461⟩ := wi_natB hp_1461 0 3 (by decide) (by decide)
      refine lv_if_eq (tgt := 32) hx hb dX12_length_21 (by decide) (fun c_0 => absurd c_0 (by decide)) (fun _ => ?_)
      refine lv_aload_n hx hb dX12_length_24 rfl (lv_at hl 0 rfl) ?_
      refine lv_iload_n hx hb dX12_length_25 rfl (lv_at hl 1 rfl) ?_
      refine hp_callMi (va_runV (As := [.int (nI N_1460)]) (rest := []) ⟨hx, hb, hml, hown, hts⟩ (c_X12_isSpent l D cy _ cs ad en hI N_1460 (by omega)) (kw_X12_isSpent hts tw_1025 ⟨by decide, by decide⟩) (preV_of hh hK (hI.1 _ (by decide)) es1459 rfl) rfl rfl hl.1 rfl (lv_room (Nat.le_of_ble_eq_true rfl)) dX12_length_26 ⟨Nat.le_of_ble_eq_true rfl, Nat.le_of_ble_eq_true rfl⟩) hh hA (fun r_1462 H locs en_1462 hw_1462 hh => ?_)
      obtain ⟨hI_1462, hu_1462, hx_1462⟩ := hw_1462
      have es1459_1462 : en_1462 0 = .inr (11, [.int fa, .int hi, .int (nI wd), .int (nI mo), .int (nI tb), .ref (ad 1), .ref (ad 2), .ref (ad 3), .ref (ad 4), .ref (ad 5), .ref (ad 6), .ref (ad 7), .ref (ad 8), .ref (ad 9), .int dp, .long many, .long grt, .long lst, .long nou, .ref (ad 10), .ref (ad 11), .ref (ad 12), .int rm, .long rb, .ref (ad 13), .int pr, .ref (ad 14), .ref (ad 15), .ref (ad 16), .ref (ad 17), .int (nI wo), .ref (ad 18), .ref (ad 19)]) := (hu_1462 0 (by omega)).trans es1459
      have hf_1462 : ∀ c, (c ≠ 0 ∧ c ≠ 6 ∧ c ≠ 7 ∧ c ≠ 8 ∧ c ≠ 9 ∧ c ≠ 10 ∧ c ≠ 11) → en_1462 c = en c := fun c hc => (hu_1462 c (by omega)).trans (hf0 c hc)
      have hkp_1462 : KP en en_1462 := KP_same (KP_rf en) (hu_1462 0 (by omega))
      have hw_1462 := hx_1462
      rcases hw_1462 with hb_1462 | hb_1462
      · obtain rfl : r_1462 = 0 := hb_1462
        refine lv_if_eq (tgt := 36) hx hb dX12_length_29 (by decide) (fun _ => ?_) (fun c_0 => absurd c_0 (by decide))
        refine lv_aload_n hx hb dX12_length_36 rfl (lv_at hl 0 rfl) ?_
        refine lv_iload_n hx hb dX12_length_37 rfl (lv_at hl 1 rfl) ?_
        refine hp_callMv (va_runV (As := [.int (nI N_1460)]) (rest := []) ⟨hx, hb, hml, hown, hts⟩ (c_X12_goThrough l D cy _ cs ad en_1462 hI_1462 N_1460 (by omega) (by omega)) (kw_X12_goThrough hts tw_1034 ⟨by decide, by decide⟩) (preV_of hh hK (hI.1 _ (by decide)) es1459_1462 rfl) rfl rfl hl.1 rfl (lv_room (Nat.le_of_ble_eq_true rfl)) dX12_length_38 ⟨Nat.le_of_ble_eq_true rfl, Nat.le_of_ble_eq_true rfl⟩) hh hA (fun H locs en_1463 hw_1463 hh => ?_)
        obtain ⟨hI_1463, hu_1463, hx_1463⟩ := hw_1463
        have hf_1463 : ∀ c, (c ≠ 0 ∧ c ≠ 6 ∧ c ≠ 7 ∧ c ≠ 8 ∧ c ≠ 9 ∧ c ≠ 10 ∧ c ≠ 11) → en_1463 c = en c := fun c hc => (hu_1463 c (by omega)).trans (hf_1462 c hc)
        have hkp_1463 : KP en en_1463 := KP_tr hkp_1462 hx_1463
        refine lv_iload_n hx hb dX12_length_41 rfl (lv_at hl 2 rfl) ?_
        refine lv_if_ne (tgt := 52) hx hb dX12_length_42 (by decide) (fun c_1464 => ?_) (fun c_1464 => ?_)
        · have n_1464 : N_1461 ≠ 0 := n_neq (a := N_1461) (b := 0) c_1464 (by omega) (by decide)
          refine lv_iload_n hx hb dX12_length_52 rfl (lv_at hl 2 rfl) ?_
          refine lv_iconst (v := 1) hx hb dX12_length_53 (by decide) ?_
          refine lv_icmp_ne (tgt := 64) hx hb dX12_length_54 (by decide) (fun c_1465 => ?_) (fun c_1465 => ?_)
          · have n_1465 : N_1461 ≠ 1 := n_neq (a := N_1461) (b := 1) c_1465 (by omega) (by decide)
            refine lv_iload_n hx hb dX12_length_64 rfl (lv_at hl 2 rfl) ?_
            refine lv_iconst (v := 2) hx hb dX12_length_65 (by decide) ?_
            refine lv_icmp_ne (tgt := 76) hx hb dX12_length_66 (by decide) (fun c_1466 => ?_) (fun c_1466 => ?_)
            · have n_1466 : N_1461 ≠ 2 := n_neq (a := N_1461) (b := 2) c_1466 (by omega) (by decide)
              refine lv_aload_n hx hb dX12_length_76 rfl (lv_at hl 0 rfl) ?_
              obtain ⟨fa_1467, hi_1467, wd_1467, mo_1467, tb_1467, dp_1467, many_1467, grt_1467, lst_1467, nou_1467, rm_1467, rb_1467, pr_1467, wo_1467, es1467, p0_1467, p1_1467, p2_1467, p3_1467, p4_1467⟩ := getr_M hI_1463
              have hq2_1468 : wd_1467 = wd := n_eq ((show nI wd_1467 = rdI (en_1463 0) 2 from by rw [es1467]; rfl).trans (hkp_1463.2.1.trans (show rdI (en 0) 2 = nI wd from by rw [es1459]; rfl))) (by omega) (by omega)
              have hq3_1468 : mo_1467 = mo := n_eq ((show nI mo_1467 = rdI (en_1463 0) 3 from by rw [es1467]; rfl).trans (hkp_1463.2.2.1.trans (show rdI (en 0) 3 = nI mo from by rw [es1459]; rfl))) (by omega) (by omega)
              have hq4_1468 : tb_1467 = tb := n_eq ((show nI tb_1467 = rdI (en_1463 0) 4 from by rw [es1467]; rfl).trans (hkp_1463.2.2.2.1.trans (show rdI (en 0) 4 = nI tb from by rw [es1459]; rfl))) (by omega) (by omega)
              have hq30_1468 : wo_1467 = wo := n_eq ((show nI wo_1467 = rdI (en_1463 0) 30 from by rw [es1467]; rfl).trans (hkp_1463.2.2.2.2.2.trans (show rdI (en 0) 30 = nI wo from by rw [es1459]; rfl))) (by omega) (by omega)
              rw [hq2_1468, hq3_1468, hq4_1468, hq30_1468] at es1467
              refine hp_get hx hb hts ix12 hown hK hh (q := 0) rfl (hI.1 _ (by decide)) es1467 rfl 18 (by decide) (hts _ tw_897) (fun _ h9 => h9) rfl dX12_length_77 ?_
              exact hp_lretM hx hb hr hlocks hh (⟨hI_1463, hf_1463, hkp_1463⟩) dX12_length_80
            · have n_1466 : N_1461 = 2 := n_eq (a := N_1461) (b := 2) c_1466 (by omega) (by decide)
              refine lv_aload_n hx hb dX12_length_69 rfl (lv_at hl 0 rfl) ?_
              obtain ⟨fa_1469, hi_1469, wd_1469, mo_1469, tb_1469, dp_1469, many_1469, grt_1469, lst_1469, nou_1469, rm_1469, rb_1469, pr_1469, wo_1469, es1469, p0_1469, p1_1469, p2_1469, p3_1469, p4_1469⟩ := getr_M hI_1463
              have hq2_1470 : wd_1469 = wd := n_eq ((show nI wd_1469 = rdI (en_1463 0) 2 from by rw [es1469]; rfl).trans (hkp_1463.2.1.trans (show rdI (en 0) 2 = nI wd from by rw [es1459]; rfl))) (by omega) (by omega)
              have hq3_1470 : mo_1469 = mo := n_eq ((show nI mo_1469 = rdI (en_1463 0) 3 from by rw [es1469]; rfl).trans (hkp_1463.2.2.1.trans (show rdI (en 0) 3 = nI mo from by rw [es1459]; rfl))) (by omega) (by omega)
              have hq4_1470 : tb_1469 = tb := n_eq ((show nI tb_1469 = rdI (en_1463 0) 4 from by rw [es1469]; rfl).trans (hkp_1463.2.2.2.1.trans (show rdI (en 0) 4 = nI tb from by rw [es1459]; rfl))) (by omega) (by omega)
              have hq30_1470 : wo_1469 = wo := n_eq ((show nI wo_1469 = rdI (en_1463 0) 30 from by rw [es1469]; rfl).trans (hkp_1463.2.2.2.2.2.trans (show rdI (en 0) 30 = nI wo from by rw [es1459]; rfl))) (by omega) (by omega)
              rw [hq2_1470, hq3_1470, hq4_1470, hq30_1470] at es1469
              refine hp_get hx hb hts ix12 hown hK hh (q := 0) rfl (hI.1 _ (by decide)) es1469 rfl 17 (by decide) (hts _ tw_896) (fun _ h9 => h9) rfl dX12_length_70 ?_
              refine lv_goto (tgt := 80) hx hb dX12_length_73 (by decide) ?_
              exact hp_lretM hx hb hr hlocks hh (⟨hI_1463, hf_1463, hkp_1463⟩) dX12_length_80
          · have n_1465 : N_1461 = 1 := n_eq (a := N_1461) (b := 1) c_1465 (by omega) (by decide)
            refine lv_aload_n hx hb dX12_length_57 rfl (lv_at hl 0 rfl) ?_
            obtain ⟨fa_1471, hi_1471, wd_1471, mo_1471, tb_1471, dp_1471, many_1471, grt_1471, lst_1471, nou_1471, rm_1471, rb_1471, pr_1471, wo_1471, es1471, p0_1471, p1_1471, p2_1471, p3_1471, p4_1471⟩ := getr_M hI_1463
            have hq2_1472 : wd_1471 = wd := n_eq ((show nI wd_1471 = rdI (en_1463 0) 2 from by rw [es1471]; rfl).trans (hkp_1463.2.1.trans (show rdI (en 0) 2 = nI wd from by rw [es1459]; rfl))) (by omega) (by omega)
            have hq3_1472 : mo_1471 = mo := n_eq ((show nI mo_1471 = rdI (en_1463 0) 3 from by rw [es1471]; rfl).trans (hkp_1463.2.2.1.trans (show rdI (en 0) 3 = nI mo from by rw [es1459]; rfl))) (by omega) (by omega)
            have hq4_1472 : tb_1471 = tb := n_eq ((show nI tb_1471 = rdI (en_1463 0) 4 from by rw [es1471]; rfl).trans (hkp_1463.2.2.2.1.trans (show rdI (en 0) 4 = nI tb from by rw [es1459]; rfl))) (by omega) (by omega)
            have hq30_1472 : wo_1471 = wo := n_eq ((show nI wo_1471 = rdI (en_1463 0) 30 from by rw [es1471]; rfl).trans (hkp_1463.2.2.2.2.2.trans (show rdI (en 0) 30 = nI wo from by rw [es1459]; rfl))) (by omega) (by omega)
            rw [hq2_1472, hq3_1472, hq4_1472, hq30_1472] at es1471
            refine hp_get hx hb hts ix12 hown hK hh (q := 0) rfl (hI.1 _ (by decide)) es1471 rfl 16 (by decide) (hts _ tw_895) (fun _ h9 => h9) rfl dX12_length_58 ?_
            refine lv_goto (tgt := 80) hx hb dX12_length_61 (by decide) ?_
            exact hp_lretM hx hb hr hlocks hh (⟨hI_1463, hf_1463, hkp_1463⟩) dX12_length_80
        · have n_1464 : N_1461 = 0 := n_eq (a := N_1461) (b := 0) c_1464 (by omega) (by decide)
          refine lv_aload_n hx hb dX12_length_45 rfl (lv_at hl 0 rfl) ?_
          obtain ⟨fa_1473, hi_1473, wd_1473, mo_1473, tb_1473, dp_1473, many_1473, grt_1473, lst_1473, nou_1473, rm_1473, rb_1473, pr_1473, wo_1473, es1473, p0_1473, p1_1473, p2_1473, p3_1473, p4_1473⟩ := getr_M hI_1463
          have hq2_1474 : wd_1473 = wd := n_eq ((show nI wd_1473 = rdI (en_1463 0) 2 from by rw [es1473]; rfl).trans (hkp_1463.2.1.trans (show rdI (en 0) 2 = nI wd from by rw [es1459]; rfl))) (by omega) (by omega)
          have hq3_1474 : mo_1473 = mo := n_eq ((show nI mo_1473 = rdI (en_1463 0) 3 from by rw [es1473]; rfl).trans (hkp_1463.2.2.1.trans (show rdI (en 0) 3 = nI mo from by rw [es1459]; rfl))) (by omega) (by omega)
          have hq4_1474 : tb_1473 = tb := n_eq ((show nI tb_1473 = rdI (en_1463 0) 4 from by rw [es1473]; rfl).trans (hkp_1463.2.2.2.1.trans (show rdI (en 0) 4 = nI tb from by rw [es1459]; rfl))) (by omega) (by omega)
          have hq30_1474 : wo_1473 = wo := n_eq ((show nI wo_1473 = rdI (en_1463 0) 30 from by rw [es1473]; rfl).trans (hkp_1463.2.2.2.2.2.trans (show rdI (en 0) 30 = nI wo from by rw [es1459]; rfl))) (by omega) (by omega)
          rw [hq2_1474, hq3_1474, hq4_1474, hq30_1474] at es1473
          refine hp_get hx hb hts ix12 hown hK hh (q := 0) rfl (hI.1 _ (by decide)) es1473 rfl 15 (by decide) (hts _ tw_894) (fun _ h9 => h9) rfl dX12_length_46 ?_
          refine lv_goto (tgt := 80) hx hb dX12_length_49 (by decide) ?_
          exact hp_lretM hx hb hr hlocks hh (⟨hI_1463, hf_1463, hkp_1463⟩) dX12_length_80
      · obtain rfl : r_1462 = 1 := hb_1462
        refine lv_if_eq (tgt := 36) hx hb dX12_length_29 (by decide) (fun c_0 => absurd c_0 (by decide)) (fun _ => ?_)
        refine lv_ldc2 hx hb hown (hts _ tw_1015) dX12_length_32 ?_
        exact hp_lretM hx hb hr hlocks hh (⟨hI_1462, hf_1462, hkp_1462⟩) dX12_length_35
    · obtain rfl : r_1461 = 0 := Eq.trans hw_1461 (if_neg (fun q => hp_1461 ((wj_32 (by decide) (by decide)).mp q)))
      refine lv_if_eq (tgt := 32) hx hb dX12_length_21 (by decide) (fun _ => ?_) (fun c_0 => absurd c_0 (by decide))
      refine lv_ldc2 hx hb hown (hts _ tw_1015) dX12_length_32 ?_
      exact hp_lretM hx hb hr hlocks hh (⟨hI, hf0, (KP_rf en)⟩) dX12_length_35
  · obtain rfl : r_1460 = 0 := Eq.trans hw_1460 (if_neg (fun q => hp_1460 ((wj_32 (by decide) (by decide)).mp q)))
    refine lv_if_eq (tgt := 32) hx hb dX12_length_9 (by decide) (fun _ => ?_) (fun c_0 => absurd c_0 (by decide))
    refine lv_ldc2 hx hb hown (hts _ tw_1015) dX12_length_32 ?_
    exact hp_lretM hx hb hr hlocks hh (⟨hI, hf0, (KP_rf en)⟩) dX12_length_35
theorem kw_X12_length {R : Room} {s : State} {args : Array Value} {own : String} {idx : Nat} (hts : ∀ w ∈ TB, w.before args s = true) (hl : Cond.methodLink own idx yX12_length ∈ TB) (hR : 4 + 1 ≤ R.frames ∧ 8 + (3 + 11) + 40 * 4 ≤ R.locals) : CallW R s args own RX12 idx yX12_length cX12_length 3 (some .long) (Cond.code yX12_length cX12_length 3 (some .long) :: TB) (rmN 4) 0 0 2 := cwV 2 hts (TB_V hl tw_1021 tw_1022 tw_9 tw_1023) rfl rfl rfl (by decide +kernel) hR
set_option maxHeartbeats 4000000 in
set_option maxRecDepth 100000 in
/-- X12_extreme -/
theorem c_X12_extreme (l : Launch) (D : va_G) (cy : Nat → ClassId) (sz : Nat) (cs : List Nat) (ad : Nat → Nat) (en : Nat → va_E) (hI : RX cy cs ad en) (n9 z9 i9 : Int32)   : Met l yX12_extreme (Cond.code yX12_extreme cX12_extreme 4 (some .int) :: TB) (rmN 4) (va_Pc [.ref (ad 0), .int n9, .int z9, .int i9] (Pre D cy cs ad en sz)) (va_Qi (S := Nat → va_E) (fun r en1 => RX cy cs ad en1 ∧ (∀ c, (c ≠ 0 ∧ c ≠ 6 ∧ c ≠ 7 ∧ c ≠ 8 ∧ c ≠ 9 ∧ c ≠ 10 ∧ c ≠ 11) → en1 c = en c) ∧ KP en en1) (PostM D cs ad) (Af cs ad sz)) 0 0 (Af cs ad sz) := by
  refine Met.ofW (cc := cX12_extreme) (maxL := 4) (ret := (some .int)) (by decide) rfl ?_
  intro p e s m args below meth c s₁ B hml hv
  obtain ⟨rfl, hsz, hP, hK, hD0⟩ := hv
  have hx := B.exec
  have hb := B.bytes
  have hr := B.returns
  have hts : ∀ w ∈ TB, w.before _ s = true := fun w h => atoms_spec (ws := _ :: TB) B.pre w (List.mem_cons_of_mem _ h)
  have hown : s.vm.findClass RX12 = some m.cls := findClass_of_methodNamed B.named
  have hlocks := B.notSynchronized
  have hh : Hp D (Af cs ad sz) (Af cs ad sz) s.heap s.heap [] cs ad en := ⟨hP, Af_self hD0, va_S.rf⟩
  have hA : ∀ q : Nat, s.heap.size ≤ q → Af cs ad sz q := fun q h => Or.inr (by rw [hsz] at h; exact h)
  have hl := lv_entry ([.ref (ad 0), .int n9, .int z9, .int i9]) (n := 4) (Nat.le_of_ble_eq_true rfl)
  rw [lg_entry_eq]
  generalize (lg_sl ([.ref (ad 0), .int n9, .int z9, .int i9]) ++ List.replicate (4 - (lg_sl ([.ref (ad 0), .int n9, .int z9, .int i9])).length) Slot.unset).toArray = ls at hl ⊢
  have hl : lv_has ls 4 [(0, .ref (ad 0)), (1, .int n9), (2, .int z9), (3, .int i9)] := hl
  have hf0 : ∀ c, (c ≠ 0 ∧ c ≠ 6 ∧ c ≠ 7 ∧ c ≠ 8 ∧ c ≠ 9 ∧ c ≠ 10 ∧ c ≠ 11) → en c = en c := fun _ _ => rfl
  obtain ⟨fa, hi, wd, mo, tb, dp, many, grt, lst, nou, rm, rb, pr, wo, es1475, hwd2, hwd3, hmo, htb, hwo⟩ := getr_M hI
  refine lv_iload_n hx hb dX12_extreme_0 rfl (lv_at hl 1 rfl) ?_
  refine lv_i2l hx hb dX12_extreme_1 rfl ?_
  refine lv_lconst (v := 1) hx hb dX12_extreme_2 (by decide) ?_
  refine lv_ldc2 hx hb hown (hts _ tw_1024) dX12_extreme_3 ?_
  refine hp_callRi (va_runS (As := [.long n9.toInt64, .long 1, .long 8]) (rest := []) ⟨hx, hb, hml, hown, hts⟩ (c_X12_within l D cy _ cs ad en n9.toInt64 1 8) (kw_X12_within hts tw_985 ⟨by decide, by decide⟩) (preS_of hh hK) rfl rfl hl.1 rfl (lv_room (Nat.le_of_ble_eq_true rfl)) dX12_extreme_6 ⟨Nat.le_of_ble_eq_true rfl, Nat.le_of_ble_eq_true rfl⟩) hh hA (fun r_1476 H locs hw_1476 hh => ?_)
  rcases Decidable.em (wi n9 1 8) with hp_1476 | hp_1476
  · obtain rfl : r_1476 = 1 := Eq.trans hw_1476 (if_pos ((wj_32 (by decide) (by decide)).mpr hp_1476))
    obtain ⟨N_1476, rfl, hA_1476, hB_1476⟩ := wi_natB hp_1476 1 8 (by decide) (by decide)
    refine lv_if_eq (tgt := 35) hx hb dX12_extreme_9 (by decide) (fun c_0 => absurd c_0 (by decide)) (fun _ => ?_)
    refine lv_iload_n hx hb dX12_extreme_12 rfl (lv_at hl 2 rfl) ?_
    refine lv_i2l hx hb dX12_extreme_13 rfl ?_
    refine lv_lconst (v := 0) hx hb dX12_extreme_14 (by decide) ?_
    refine lv_lconst (v := 1) hx hb dX12_extreme_15 (by decide) ?_
    refine hp_callRi (va_runS (As := [.long z9.toInt64, .long 0, .long 1]) (rest := []) ⟨hx, hb, hml, hown, hts⟩ (c_X12_within l D cy _ cs ad en z9.toInt64 0 1) (kw_X12_within hts tw_985 ⟨by decide, by decide⟩) (preS_of hh hK) rfl rfl hl.1 rfl (lv_room (Nat.le_of_ble_eq_true rfl)) dX12_extreme_16 ⟨Nat.le_of_ble_eq_true rfl, Nat.le_of_ble_eq_true rfl⟩) hh hA (fun r_1477 H locs hw_1477 hh => ?_)
    rcases Decidable.em (wi z9 0 1) with hp_1477 | hp_1477
    · obtain rfl : r_1477 = 1 := Eq.trans hw_1477 (if_pos ((wj_32 (by decide) (by decide)).mpr hp_1477))
      obtain ⟨N_1477, rfl, hA_1477, hB_1477⟩ := wi_natB hp_1477 0 1 (by decide) (by decide)
      refine lv_if_eq (tgt := 35) hx hb dX12_extreme_19 (by decide) (fun c_0 => absurd c_0 (by decide)) (fun _ => ?_)
      refine lv_iload_n hx hb dX12_extreme_22 rfl (lv_at hl 3 rfl) ?_
      refine lv_i2l hx hb dX12_extreme_23 rfl ?_
      refine lv_lconst (v := 0) hx hb dX12_extreme_24 (by decide) ?_
      refine lv_iload_n hx hb dX12_extreme_25 rfl (lv_at hl 1 rfl) ?_
      refine lv_i2l hx hb dX12_extreme_26 rfl ?_
      refine lv_lconst (v := 1) hx hb dX12_extreme_27 (by decide) ?_
      refine lv_lsub hx hb dX12_extreme_28 ?_
      refine hp_callRi (va_runS (As := [.long i9.toInt64, .long 0, .long ((nI N_1476).toInt64 - 1)]) (rest := []) ⟨hx, hb, hml, hown, hts⟩ (c_X12_within l D cy _ cs ad en i9.toInt64 0 ((nI N_1476).toInt64 - 1)) (kw_X12_within hts tw_985 ⟨by decide, by decide⟩) (preS_of hh hK) rfl rfl hl.1 rfl (lv_room (Nat.le_of_ble_eq_true rfl)) dX12_extreme_29 ⟨Nat.le_of_ble_eq_true rfl, Nat.le_of_ble_eq_true rfl⟩) hh hA (fun r_1478 H locs hw_1478 hh => ?_)
      rcases Decidable.em (0 ≤ i9.toInt ∧ i9.toInt < (N_1476 : Int)) with hp_1478 | hp_1478
      · obtain rfl : r_1478 = 1 := Eq.trans hw_1478 (if_pos ((wj_m1 (by omega)).mpr hp_1478))
        obtain ⟨N_1478, rfl, hB_1478⟩ := has_nat hp_1478
        refine lv_if_ne (tgt := 38) hx hb dX12_extreme_32 (by decide) (fun _ => ?_) (fun c_0 => absurd c_0 (by decide))
        refine lv_aload_n hx hb dX12_extreme_38 rfl (lv_at hl 0 rfl) ?_
        refine lv_iload_n hx hb dX12_extreme_39 rfl (lv_at hl 1 rfl) ?_
        refine hp_callMi (va_runV (As := [.int (nI N_1476)]) (rest := []) ⟨hx, hb, hml, hown, hts⟩ (c_X12_isSpent l D cy _ cs ad en hI N_1476 (by omega)) (kw_X12_isSpent hts tw_1025 ⟨by decide, by decide⟩) (preV_of hh hK (hI.1 _ (by decide)) es1475 rfl) rfl rfl hl.1 rfl (lv_room (Nat.le_of_ble_eq_true rfl)) dX12_extreme_40 ⟨Nat.le_of_ble_eq_true rfl, Nat.le_of_ble_eq_true rfl⟩) hh hA (fun r_1479 H locs en_1479 hw_1479 hh => ?_)
        obtain ⟨hI_1479, hu_1479, hx_1479⟩ := hw_1479
        have es1475_1479 : en_1479 0 = .inr (11, [.int fa, .int hi, .int (nI wd), .int (nI mo), .int (nI tb), .ref (ad 1), .ref (ad 2), .ref (ad 3), .ref (ad 4), .ref (ad 5), .ref (ad 6), .ref (ad 7), .ref (ad 8), .ref (ad 9), .int dp, .long many, .long grt, .long lst, .long nou, .ref (ad 10), .ref (ad 11), .ref (ad 12), .int rm, .long rb, .ref (ad 13), .int pr, .ref (ad 14), .ref (ad 15), .ref (ad 16), .ref (ad 17), .int (nI wo), .ref (ad 18), .ref (ad 19)]) := (hu_1479 0 (by omega)).trans es1475
        have hf_1479 : ∀ c, (c ≠ 0 ∧ c ≠ 6 ∧ c ≠ 7 ∧ c ≠ 8 ∧ c ≠ 9 ∧ c ≠ 10 ∧ c ≠ 11) → en_1479 c = en c := fun c hc => (hu_1479 c (by omega)).trans (hf0 c hc)
        have hkp_1479 : KP en en_1479 := KP_same (KP_rf en) (hu_1479 0 (by omega))
        have hw_1479 := hx_1479
        rcases hw_1479 with hb_1479 | hb_1479
        · obtain rfl : r_1479 = 0 := hb_1479
          refine lv_if_eq (tgt := 49) hx hb dX12_extreme_43 (by decide) (fun _ => ?_) (fun c_0 => absurd c_0 (by decide))
          refine lv_aload_n hx hb dX12_extreme_49 rfl (lv_at hl 0 rfl) ?_
          refine lv_iload_n hx hb dX12_extreme_50 rfl (lv_at hl 1 rfl) ?_
          refine hp_callMv (va_runV (As := [.int (nI N_1476)]) (rest := []) ⟨hx, hb, hml, hown, hts⟩ (c_X12_goThrough l D cy _ cs ad en_1479 hI_1479 N_1476 (by omega) (by omega)) (kw_X12_goThrough hts tw_1034 ⟨by decide, by decide⟩) (preV_of hh hK (hI.1 _ (by decide)) es1475_1479 rfl) rfl rfl hl.1 rfl (lv_room (Nat.le_of_ble_eq_true rfl)) dX12_extreme_51 ⟨Nat.le_of_ble_eq_true rfl, Nat.le_of_ble_eq_true rfl⟩) hh hA (fun H locs en_1480 hw_1480 hh => ?_)
          obtain ⟨hI_1480, hu_1480, hx_1480⟩ := hw_1480
          have hf_1480 : ∀ c, (c ≠ 0 ∧ c ≠ 6 ∧ c ≠ 7 ∧ c ≠ 8 ∧ c ≠ 9 ∧ c ≠ 10 ∧ c ≠ 11) → en_1480 c = en c := fun c hc => (hu_1480 c (by omega)).trans (hf_1479 c hc)
          have hkp_1480 : KP en en_1480 := KP_tr hkp_1479 hx_1480
          refine lv_aload_n hx hb dX12_extreme_54 rfl (lv_at hl 0 rfl) ?_
          obtain ⟨fa_1481, hi_1481, wd_1481, mo_1481, tb_1481, dp_1481, many_1481, grt_1481, lst_1481, nou_1481, rm_1481, rb_1481, pr_1481, wo_1481, es1481, p0_1481, p1_1481, p2_1481, p3_1481, p4_1481⟩ := getr_M hI_1480
          have hq2_1482 : wd_1481 = wd := n_eq ((show nI wd_1481 = rdI (en_1480 0) 2 from by rw [es1481]; rfl).trans (hkp_1480.2.1.trans (show rdI (en 0) 2 = nI wd from by rw [es1475]; rfl))) (by omega) (by omega)
          have hq3_1482 : mo_1481 = mo := n_eq ((show nI mo_1481 = rdI (en_1480 0) 3 from by rw [es1481]; rfl).trans (hkp_1480.2.2.1.trans (show rdI (en 0) 3 = nI mo from by rw [es1475]; rfl))) (by omega) (by omega)
          have hq4_1482 : tb_1481 = tb := n_eq ((show nI tb_1481 = rdI (en_1480 0) 4 from by rw [es1481]; rfl).trans (hkp_1480.2.2.2.1.trans (show rdI (en 0) 4 = nI tb from by rw [es1475]; rfl))) (by omega) (by omega)
          have hq30_1482 : wo_1481 = wo := n_eq ((show nI wo_1481 = rdI (en_1480 0) 30 from by rw [es1481]; rfl).trans (hkp_1480.2.2.2.2.2.trans (show rdI (en 0) 30 = nI wo from by rw [es1475]; rfl))) (by omega) (by omega)
          rw [hq2_1482, hq3_1482, hq4_1482, hq30_1482] at es1481
          refine hp_get hx hb hts ix12 hown hK hh (q := 0) rfl (hI.1 _ (by decide)) es1481 rfl 15 (by decide) (hts _ tw_894) (fun _ h9 => h9) rfl dX12_extreme_55 ?_
          refine lv_lconst (v := 0) hx hb dX12_extreme_58 (by decide) ?_
          refine W.lcmp hx hb dX12_extreme_59 ?_
          refine lv_if_ne (tgt := 68) hx hb dX12_extreme_60 (by decide) (fun c_1483 => ?_) (fun c_1483 => ?_)
          · refine lv_iload_n hx hb dX12_extreme_68 rfl (lv_at hl 2 rfl) ?_
            refine lv_if_ne (tgt := 81) hx hb dX12_extreme_69 (by decide) (fun c_1484 => ?_) (fun c_1484 => ?_)
            · have n_1484 : N_1477 ≠ 0 := n_neq (a := N_1477) (b := 0) c_1484 (by omega) (by decide)
              refine lv_aload_n hx hb dX12_extreme_81 rfl (lv_at hl 0 rfl) ?_
              refine hp_get hx hb hts ix12 hown hK hh (q := 0) rfl (hI.1 _ (by decide)) es1481 rfl 20 (by decide) (hts _ tw_899) (fun _ h9 => h9) rfl dX12_extreme_82 ?_
              refine lv_iload_n hx hb dX12_extreme_85 rfl (lv_at hl 3 rfl) ?_
              obtain ⟨f_1485, es1485⟩ := getr_sm hI_1480
              refine hp_iald hx hb hK hh (q := 11) rfl (hI.1 _ (by decide)) es1485 (vp_in_nI (n := N_1478) (by omega) (by decide)) dX12_extreme_86 ?_
              rw [nI_clamp (n := N_1478) (by omega)]
              exact hp_iretM hx hb hr rfl hlocks hh (⟨hI_1480, hf_1480, hkp_1480⟩) dX12_extreme_87
            · have n_1484 : N_1477 = 0 := n_eq (a := N_1477) (b := 0) c_1484 (by omega) (by decide)
              refine lv_aload_n hx hb dX12_extreme_72 rfl (lv_at hl 0 rfl) ?_
              refine hp_get hx hb hts ix12 hown hK hh (q := 0) rfl (hI.1 _ (by decide)) es1481 rfl 19 (by decide) (hts _ tw_898) (fun _ h9 => h9) rfl dX12_extreme_73 ?_
              refine lv_iload_n hx hb dX12_extreme_76 rfl (lv_at hl 3 rfl) ?_
              obtain ⟨f_1486, es1486⟩ := getr_gt hI_1480
              refine hp_iald hx hb hK hh (q := 10) rfl (hI.1 _ (by decide)) es1486 (vp_in_nI (n := N_1478) (by omega) (by decide)) dX12_extreme_77 ?_
              rw [nI_clamp (n := N_1478) (by omega)]
              refine lv_goto (tgt := 87) hx hb dX12_extreme_78 (by decide) ?_
              exact hp_iretM hx hb hr rfl hlocks hh (⟨hI_1480, hf_1480, hkp_1480⟩) dX12_extreme_87
          · refine lv_bipush (v := (-9)) hx hb dX12_extreme_63 (by decide) ?_
            refine lv_goto (tgt := 87) hx hb dX12_extreme_65 (by decide) ?_
            exact hp_iretM hx hb hr rfl hlocks hh (⟨hI_1480, hf_1480, hkp_1480⟩) dX12_extreme_87
        · obtain rfl : r_1479 = 1 := hb_1479
          refine lv_if_eq (tgt := 49) hx hb dX12_extreme_43 (by decide) (fun c_0 => absurd c_0 (by decide)) (fun _ => ?_)
          refine lv_bipush (v := (-6)) hx hb dX12_extreme_46 (by decide) ?_
          exact hp_iretM hx hb hr rfl hlocks hh (⟨hI_1479, hf_1479, hkp_1479⟩) dX12_extreme_48
      · obtain rfl : r_1478 = 0 := Eq.trans hw_1478 (if_neg (fun q => hp_1478 ((wj_m1 (by omega)).mp q)))
        refine lv_if_ne (tgt := 38) hx hb dX12_extreme_32 (by decide) (fun c_0 => absurd c_0 (by decide)) (fun _ => ?_)
        refine lv_bipush (v := (-2)) hx hb dX12_extreme_35 (by decide) ?_
        exact hp_iretM hx hb hr rfl hlocks hh (⟨hI, hf0, (KP_rf en)⟩) dX12_extreme_37
    · obtain rfl : r_1477 = 0 := Eq.trans hw_1477 (if_neg (fun q => hp_1477 ((wj_32 (by decide) (by decide)).mp q)))
      refine lv_if_eq (tgt := 35) hx hb dX12_extreme_19 (by decide) (fun _ => ?_) (fun c_0 => absurd c_0 (by decide))
      refine lv_bipush (v := (-2)) hx hb dX12_extreme_35 (by decide) ?_
      exact hp_iretM hx hb hr rfl hlocks hh (⟨hI, hf0, (KP_rf en)⟩) dX12_extreme_37
  · obtain rfl : r_1476 = 0 := Eq.trans hw_1476 (if_neg (fun q => hp_1476 ((wj_32 (by decide) (by decide)).mp q)))
    refine lv_if_eq (tgt := 35) hx hb dX12_extreme_9 (by decide) (fun _ => ?_) (fun c_0 => absurd c_0 (by decide))
    refine lv_bipush (v := (-2)) hx hb dX12_extreme_35 (by decide) ?_
    exact hp_iretM hx hb hr rfl hlocks hh (⟨hI, hf0, (KP_rf en)⟩) dX12_extreme_37
theorem kw_X12_extreme {R : Room} {s : State} {args : Array Value} {own : String} {idx : Nat} (hts : ∀ w ∈ TB, w.before args s = true) (hl : Cond.methodLink own idx yX12_extreme ∈ TB) (hR : 4 + 1 ≤ R.frames ∧ 8 + (4 + 11) + 40 * 4 ≤ R.locals) : CallW R s args own RX12 idx yX12_extreme cX12_extreme 4 (some .int) (Cond.code yX12_extreme cX12_extreme 4 (some .int) :: TB) (rmN 4) 0 0 3 := cwV 3 hts (TB_V hl tw_1066 tw_1067 tw_9 tw_1068) rfl rfl rfl (by decide +kernel) hR
set_option maxHeartbeats 4000000 in
set_option maxRecDepth 100000 in
/-- findRings -/
theorem c_X12_findRings (l : Launch) (D : va_G) (cy : Nat → ClassId) (sz : Nat) (cs : List Nat) (ad : Nat → Nat) (en : Nat → va_E) (hI : RX cy cs ad en) (n : Nat) (hn1 : 1 ≤ n) (hn8 : n ≤ 8)   : Met l yX12_findRings (Cond.code yX12_findRings cX12_findRings 3 none :: TB) (rmN 3) (va_Pc [.ref (ad 0), .int (nI n)] (Pre D cy cs ad en sz)) (va_Qv (S := Nat → va_E) (fun en1 => RX cy cs ad en1 ∧ (∀ c, (c ≠ 0 ∧ c ≠ 6 ∧ c ≠ 7 ∧ c ≠ 12 ∧ c ≠ 13) → en1 c = en c) ∧ KP en en1) (PostM D cs ad) (Af cs ad sz)) 0 0 (Af cs ad sz) := by
  refine Met.ofW (cc := cX12_findRings) (maxL := 3) (ret := none) (by decide) rfl ?_
  intro p e s m args below meth c s₁ B hml hv
  obtain ⟨rfl, hsz, hP, hK, hD0⟩ := hv
  have hx := B.exec
  have hb := B.bytes
  have hr := B.returns
  have hts : ∀ w ∈ TB, w.before _ s = true := fun w h => atoms_spec (ws := _ :: TB) B.pre w (List.mem_cons_of_mem _ h)
  have hown : s.vm.findClass RX12 = some m.cls := findClass_of_methodNamed B.named
  have hlocks := B.notSynchronized
  have hh : Hp D (Af cs ad sz) (Af cs ad sz) s.heap s.heap [] cs ad en := ⟨hP, Af_self hD0, va_S.rf⟩
  have hA : ∀ q : Nat, s.heap.size ≤ q → Af cs ad sz q := fun q h => Or.inr (by rw [hsz] at h; exact h)
  have hl := lv_entry ([.ref (ad 0), .int (nI n)]) (n := 3) (Nat.le_of_ble_eq_true rfl)
  rw [lg_entry_eq]
  generalize (lg_sl ([.ref (ad 0), .int (nI n)]) ++ List.replicate (3 - (lg_sl ([.ref (ad 0), .int (nI n)])).length) Slot.unset).toArray = ls at hl ⊢
  have hl : lv_has ls 3 [(0, .ref (ad 0)), (1, .int (nI n))] := hl
  have hf0 : ∀ c, (c ≠ 0 ∧ c ≠ 6 ∧ c ≠ 7 ∧ c ≠ 12 ∧ c ≠ 13) → en c = en c := fun _ _ => rfl
  obtain ⟨fa, hi, wd, mo, tb, dp, many, grt, lst, nou, rm, rb, pr, wo, es1487, hwd2, hwd3, hmo, htb, hwo⟩ := getr_M hI
  refine lv_aload_n hx hb dX12_findRings_0 rfl (lv_at hl 0 rfl) ?_
  refine lv_iconst (v := 0) hx hb dX12_findRings_1 (by decide) ?_
  refine hp_put hx hb hts ix12 tyX12 tyX12_ok nmX12 hown hK hh (q := 0) rfl (hI.1 _ (by decide)) es1487 rfl 22 (by decide) (hts _ tw_901) (fun _ h9 => h9) rfl (ty := .int) (by decide +kernel) rfl rfl (Nat.le_of_ble_eq_true rfl) dX12_findRings_2 (fun H locs en_1488 hen_1488 hh => ?_)
  have es1487_1488 : en_1488 0 = .inr (11, [.int fa, .int hi, .int (nI wd), .int (nI mo), .int (nI tb), .ref (ad 1), .ref (ad 2), .ref (ad 3), .ref (ad 4), .ref (ad 5), .ref (ad 6), .ref (ad 7), .ref (ad 8), .ref (ad 9), .int dp, .long many, .long grt, .long lst, .long nou, .ref (ad 10), .ref (ad 11), .ref (ad 12), .int 0, .long rb, .ref (ad 13), .int pr, .ref (ad 14), .ref (ad 15), .ref (ad 16), .ref (ad 17), .int (nI wo), .ref (ad 18), .ref (ad 19)]) := by rw [hen_1488]; exact va_up_self _ _ _
  have hI_1488 : RX cy cs ad en_1488 := by rw [hen_1488]; exact upr_M hI ⟨fa, hi, wd, mo, tb, dp, many, grt, lst, nou, 0, rb, pr, wo, rfl, hwd2, hwd3, hmo, htb, hwo⟩
  have hf_1488 : ∀ c, (c ≠ 0 ∧ c ≠ 6 ∧ c ≠ 7 ∧ c ≠ 12 ∧ c ≠ 13) → en_1488 c = en c := fun c hc => Eq.trans (show en_1488 c = en c from by rw [hen_1488, va_up_ne _ _ (by omega)]) (hf0 c hc)
  have hkp_1488 : KP en en_1488 := KP_fv (KP_rf en) es1487 es1487_1488 hi (nI wd) (nI mo) (nI tb) pr (nI wo) rfl rfl rfl rfl rfl rfl rfl rfl rfl rfl rfl rfl
  refine lv_aload_n hx hb dX12_findRings_5 rfl (lv_at hl 0 rfl) ?_
  refine lv_lconst (v := 0) hx hb dX12_findRings_6 (by decide) ?_
  refine hp_put hx hb hts ix12 tyX12 tyX12_ok nmX12 hown hK hh (q := 0) rfl (hI.1 _ (by decide)) es1487_1488 rfl 23 (by decide) (hts _ tw_902) (fun _ h9 => h9) rfl (ty := .long) (by decide +kernel) rfl rfl (Nat.le_of_ble_eq_true rfl) dX12_findRings_7 (fun H locs en_1489 hen_1489 hh => ?_)
  have es1487_1489 : en_1489 0 = .inr (11, [.int fa, .int hi, .int (nI wd), .int (nI mo), .int (nI tb), .ref (ad 1), .ref (ad 2), .ref (ad 3), .ref (ad 4), .ref (ad 5), .ref (ad 6), .ref (ad 7), .ref (ad 8), .ref (ad 9), .int dp, .long many, .long grt, .long lst, .long nou, .ref (ad 10), .ref (ad 11), .ref (ad 12), .int 0, .long 0, .ref (ad 13), .int pr, .ref (ad 14), .ref (ad 15), .ref (ad 16), .ref (ad 17), .int (nI wo), .ref (ad 18), .ref (ad 19)]) := by rw [hen_1489]; exact va_up_self _ _ _
  have hI_1489 : RX cy cs ad en_1489 := by rw [hen_1489]; exact upr_M hI_1488 ⟨fa, hi, wd, mo, tb, dp, many, grt, lst, nou, 0, 0, pr, wo, rfl, hwd2, hwd3, hmo, htb, hwo⟩
  have hf_1489 : ∀ c, (c ≠ 0 ∧ c ≠ 6 ∧ c ≠ 7 ∧ c ≠ 12 ∧ c ≠ 13) → en_1489 c = en c := fun c hc => Eq.trans (show en_1489 c = en_1488 c from by rw [hen_1489, va_up_ne _ _ (by omega)]) (hf_1488 c hc)
  have hkp_1489 : KP en en_1489 := KP_fv hkp_1488 es1487_1488 es1487_1489 hi (nI wd) (nI mo) (nI tb) pr (nI wo) rfl rfl rfl rfl rfl rfl rfl rfl rfl rfl rfl rfl
  refine lv_aload_n hx hb dX12_findRings_10 rfl (lv_at hl 0 rfl) ?_
  refine hp_callMv (va_runV (As := []) (rest := []) ⟨hx, hb, hml, hown, hts⟩ (c_X12_beginWords l D cy _ cs ad en_1489 hI_1489  ) (kw_X12_beginWords hts tw_1038 ⟨by decide, by decide⟩) (preV_of hh hK (hI.1 _ (by decide)) es1487_1489 rfl) rfl rfl hl.1 rfl (lv_room (Nat.le_of_ble_eq_true rfl)) dX12_findRings_11 ⟨Nat.le_of_ble_eq_true rfl, Nat.le_of_ble_eq_true rfl⟩) hh hA (fun H locs en_1490 hw_1490 hh => ?_)
  obtain ⟨hI_1490, hu_1490, hd0_1490, hg0_1490, hx_1490⟩ := hw_1490
  have hND_1490 : ND en_1490 n 0 0 := ⟨by omega, Or.inl hd0_1490, fun i h => absurd h (Nat.not_lt_zero i), by rw [hg0_1490]; decide, by omega⟩
  have hf_1490 : ∀ c, (c ≠ 0 ∧ c ≠ 6 ∧ c ≠ 7 ∧ c ≠ 12 ∧ c ≠ 13) → en_1490 c = en c := fun c hc => (hu_1490 c (by omega)).trans (hf_1489 c hc)
  have hkp_1490 : KP en en_1490 := KP_tr hkp_1489 hx_1490
  have loop_1491 : ∀ (fu mm1491 : Nat)  (d1491 : Nat) (u1491 : Nat) (en_1491 : Nat → va_E) (ls : Array Slot) (H : Heap) (locs : List Loc), mm1491 < fu → RX cy cs ad en_1491 → (∀ c, (c ≠ 0 ∧ c ≠ 6 ∧ c ≠ 7 ∧ c ≠ 12 ∧ c ≠ 13) → en_1491 c = en c) → (ND en_1491 n d1491 u1491) → (134217728 ≤ nmv (rdF (en_1491 7)) d1491 u1491 + mm1491) → (KP en en_1491) → lv_has ls 3 [(0, .ref (ad 0)), (1, .int (nI n))] → Hp D (Af cs ad sz) (Af cs ad sz) s.heap H locs cs ad en_1491 → W p l e (headSpec (Cond.code yX12_findRings cX12_findRings 3 none :: TB) (rmN 3)).room s m ([.ref (ad 0), .int (nI n)] : List Value).toArray below meth c H locs 0 0 (MQ below (va_Qv (S := Nat → va_E) (fun en1 => RX cy cs ad en1 ∧ (∀ c, (c ≠ 0 ∧ c ≠ 6 ∧ c ≠ 7 ∧ c ≠ 12 ∧ c ≠ 13) → en1 c = en c) ∧ KP en en1) (PostM D cs ad) (Af cs ad sz)) ([.ref (ad 0), .int (nI n)] : List Value).toArray s 0 0 (Af cs ad sz)) (F0 m 14 ls []) := by
    intro fu
    induction fu with
    | zero => intro mm1491 d1491 u1491 en_1491 ls H locs h2; exact absurd h2 (by omega)
    | succ fu ih_1491 =>
      intro mm1491 d1491 u1491 en_1491 ls H locs hmm_1491 hI_1491 hf_1491 i0_1491 i1_1491 i2_1491 hl hh
      have hlt_1491 := nmv_lt i0_1491.2.2 (by have h9 := i0_1491.1; omega)
      have hwd_1491 := i0_1491.1
      refine lv_aload_n hx hb dX12_findRings_14 rfl (lv_at hl 0 rfl) ?_
      refine lv_iload_n hx hb dX12_findRings_15 rfl (lv_at hl 1 rfl) ?_
      obtain ⟨fa_1492, hi_1492, wd_1492, mo_1492, tb_1492, dp_1492, many_1492, grt_1492, lst_1492, nou_1492, rm_1492, rb_1492, pr_1492, wo_1492, es1492, p0_1492, p1_1492, p2_1492, p3_1492, p4_1492⟩ := getr_M hI_1491
      have hq2_1493 : wd_1492 = wd := n_eq ((show nI wd_1492 = rdI (en_1491 0) 2 from by rw [es1492]; rfl).trans (i2_1491.2.1.trans (show rdI (en 0) 2 = nI wd from by rw [es1487]; rfl))) (by omega) (by omega)
      have hq3_1493 : mo_1492 = mo := n_eq ((show nI mo_1492 = rdI (en_1491 0) 3 from by rw [es1492]; rfl).trans (i2_1491.2.2.1.trans (show rdI (en 0) 3 = nI mo from by rw [es1487]; rfl))) (by omega) (by omega)
      have hq4_1493 : tb_1492 = tb := n_eq ((show nI tb_1492 = rdI (en_1491 0) 4 from by rw [es1492]; rfl).trans (i2_1491.2.2.2.1.trans (show rdI (en 0) 4 = nI tb from by rw [es1487]; rfl))) (by omega) (by omega)
      have hq30_1493 : wo_1492 = wo := n_eq ((show nI wo_1492 = rdI (en_1491 0) 30 from by rw [es1492]; rfl).trans (i2_1491.2.2.2.2.2.trans (show rdI (en 0) 30 = nI wo from by rw [es1487]; rfl))) (by omega) (by omega)
      rw [hq2_1493, hq3_1493, hq4_1493, hq30_1493] at es1492
      refine hp_callMi (va_runV (As := [.int (nI n)]) (rest := []) ⟨hx, hb, hml, hown, hts⟩ (c_X12_next l D cy _ cs ad en_1491 hI_1491 n (by omega) (by omega) d1491 u1491 i0_1491) (kw_X12_next hts tw_1046 ⟨by decide, by decide⟩) (preV_of hh hK (hI.1 _ (by decide)) es1492 rfl) rfl rfl hl.1 rfl (lv_room (Nat.le_of_ble_eq_true rfl)) dX12_findRings_16 ⟨Nat.le_of_ble_eq_true rfl, Nat.le_of_ble_eq_true rfl⟩) hh hA (fun r_1494 H locs en_1494 hw_1494 hh => ?_)
      obtain ⟨hI_1494, hu_1494, hx_1494, hkq_1494⟩ := hw_1494
      have hf_1494 : ∀ c, (c ≠ 0 ∧ c ≠ 6 ∧ c ≠ 7 ∧ c ≠ 12 ∧ c ≠ 13) → en_1494 c = en c := fun c hc => (hu_1494 c (by omega)).trans (hf_1491 c hc)
      have hkp_1494 : KP en en_1494 := KP_tr i2_1491 hkq_1494
      rcases hx_1494 with hr_1494 | ⟨hr_1494, u1_1494, hND_1494, hu1_1494, hnm_1494⟩
      · rw [hr_1494]
        refine lv_if_eq (tgt := 131) hx hb dX12_findRings_19 (by decide) (fun _ => ?_) (fun c_0 => absurd c_0 (by decide))
        exact hp_vretM hx hb hr hlocks hh (⟨hI_1494, hf_1494, hkp_1494⟩) dX12_findRings_131
      · rw [hr_1494]
        have hall_1494 := NW_all hND_1494.2.2 (by omega) hu1_1494
        refine lv_if_eq (tgt := 131) hx hb dX12_findRings_19 (by decide) (fun c_0 => absurd c_0 (by decide)) (fun _ => ?_)
        refine lv_iconst (v := 0) hx hb dX12_findRings_22 (by decide) ?_
        refine lv_istore_n (lv' := [(2, .int 0), (0, .ref (ad 0)), (1, .int (nI n))]) hx hb dX12_findRings_23 rfl hl (by decide) rfl (fun ls hl => ?_)
        have loop_1495 : ∀ (fu j1495 : Nat)  (en_1495 : Nat → va_E) (ls : Array Slot) (H : Heap) (locs : List Loc), 0 ≤ j1495 → j1495 ≤ n → n < j1495 + fu → RX cy cs ad en_1495 → (∀ c, (c ≠ 0 ∧ c ≠ 6 ∧ c ≠ 7 ∧ c ≠ 12 ∧ c ≠ 13) → en_1495 c = en c) → (KP en en_1495) → (SD en_1494 en_1495) → lv_has ls 3 [(2, .int (nI j1495)), (0, .ref (ad 0)), (1, .int (nI n))] → Hp D (Af cs ad sz) (Af cs ad sz) s.heap H locs cs ad en_1495 → W p l e (headSpec (Cond.code yX12_findRings cX12_findRings 3 none :: TB) (rmN 3)).room s m ([.ref (ad 0), .int (nI n)] : List Value).toArray below meth c H locs 0 0 (MQ below (va_Qv (S := Nat → va_E) (fun en1 => RX cy cs ad en1 ∧ (∀ c, (c ≠ 0 ∧ c ≠ 6 ∧ c ≠ 7 ∧ c ≠ 12 ∧ c ≠ 13) → en1 c = en c) ∧ KP en en1) (PostM D cs ad) (Af cs ad sz)) ([.ref (ad 0), .int (nI n)] : List Value).toArray s 0 0 (Af cs ad sz)) (F0 m 24 ls []) := by
          intro fu
          induction fu with
          | zero => intro j1495  en_1495 ls H locs h0 h1 h2; exact absurd h2 (by omega)
          | succ fu ih_1495 =>
            intro j1495  en_1495 ls H locs hj0_1495 hj_1495 hfu_1495 hI_1495 hf_1495 i0_1495 i1_1495 hl hh
            refine lv_iload_n hx hb dX12_findRings_24 rfl (lv_at hl 0 rfl) ?_
            refine lv_iload_n hx hb dX12_findRings_25 rfl (lv_at hl 2 rfl) ?_
            refine lv_icmp_ge (tgt := 47) hx hb dX12_findRings_26 (by decide) (fun c_1496 => ?_) (fun c_1496 => ?_)
            · have n_1496 : n ≤ j1495 := n_le (a := n) (b := j1495) c_1496 (by omega) (by omega)
              refine lv_aload_n hx hb dX12_findRings_47 rfl (lv_at hl 1 rfl) ?_
              refine lv_iload_n hx hb dX12_findRings_48 rfl (lv_at hl 2 rfl) ?_
              obtain ⟨fa_1497, hi_1497, wd_1497, mo_1497, tb_1497, dp_1497, many_1497, grt_1497, lst_1497, nou_1497, rm_1497, rb_1497, pr_1497, wo_1497, es1497, p0_1497, p1_1497, p2_1497, p3_1497, p4_1497⟩ := getr_M hI_1495
              have hq2_1498 : wd_1497 = wd := n_eq ((show nI wd_1497 = rdI (en_1495 0) 2 from by rw [es1497]; rfl).trans (i0_1495.2.1.trans (show rdI (en 0) 2 = nI wd from by rw [es1487]; rfl))) (by omega) (by omega)
              have hq3_1498 : mo_1497 = mo := n_eq ((show nI mo_1497 = rdI (en_1495 0) 3 from by rw [es1497]; rfl).trans (i0_1495.2.2.1.trans (show rdI (en 0) 3 = nI mo from by rw [es1487]; rfl))) (by omega) (by omega)
              have hq4_1498 : tb_1497 = tb := n_eq ((show nI tb_1497 = rdI (en_1495 0) 4 from by rw [es1497]; rfl).trans (i0_1495.2.2.2.1.trans (show rdI (en 0) 4 = nI tb from by rw [es1487]; rfl))) (by omega) (by omega)
              have hq30_1498 : wo_1497 = wo := n_eq ((show nI wo_1497 = rdI (en_1495 0) 30 from by rw [es1497]; rfl).trans (i0_1495.2.2.2.2.2.trans (show rdI (en 0) 30 = nI wo from by rw [es1487]; rfl))) (by omega) (by omega)
              rw [hq2_1498, hq3_1498, hq4_1498, hq30_1498] at es1497
              refine hp_callRi (va_runV (As := [.int (nI n)]) (rest := []) ⟨hx, hb, hml, hown, hts⟩ (c_X12_isRing l D cy _ cs ad en_1495 hI_1495 n (by omega) (by omega)) (kw_X12_isRing hts tw_1077 ⟨by decide, by decide⟩) (preV_of hh hK (hI.1 _ (by decide)) es1497 rfl) rfl rfl hl.1 rfl (lv_room (Nat.le_of_ble_eq_true rfl)) dX12_findRings_49 ⟨Nat.le_of_ble_eq_true rfl, Nat.le_of_ble_eq_true rfl⟩) hh hA (fun r_1499 H locs hw_1499 hh => ?_)
              rcases hw_1499 with hb_1499 | hb_1499
              · obtain rfl : r_1499 = 0 := hb_1499
                refine lv_if_ne (tgt := 58) hx hb dX12_findRings_52 (by decide) (fun c_0 => absurd c_0 (by decide)) (fun _ => ?_)
                refine lv_goto (tgt := 14) hx hb dX12_findRings_55 (by decide) ?_
                exact ih_1491 (mm1491 - 1) (n - 1) u1_1494 en_1495 ls H locs (by omega) hI_1495 hf_1495 (ND_sd hND_1494 i1_1495) (by rw [i1_1495.2]; have h1 := hnm_1494; have h2 := i1_1491; omega) (i0_1495) (lv_sub hl [1, 2] rfl) hh
              · obtain rfl : r_1499 = 1 := hb_1499
                refine lv_if_ne (tgt := 58) hx hb dX12_findRings_52 (by decide) (fun _ => ?_) (fun c_0 => absurd c_0 (by decide))
                have join_1500 : ∀  (en_1500 : Nat → va_E) (ls : Array Slot) (H : Heap) (locs : List Loc), RX cy cs ad en_1500 → (∀ c, (c ≠ 0 ∧ c ≠ 6 ∧ c ≠ 7 ∧ c ≠ 12 ∧ c ≠ 13) → en_1500 c = en c) → KP en en_1500 → SD en_1494 en_1500 → lv_has ls 3 [(0, .ref (ad 0)), (1, .int (nI n))] → Hp D (Af cs ad sz) (Af cs ad sz) s.heap H locs cs ad en_1500 → W p l e (headSpec (Cond.code yX12_findRings cX12_findRings 3 none :: TB) (rmN 3)).room s m ([.ref (ad 0), .int (nI n)] : List Value).toArray below meth c H locs 0 0 (MQ below (va_Qv (S := Nat → va_E) (fun en1 => RX cy cs ad en1 ∧ (∀ c, (c ≠ 0 ∧ c ≠ 6 ∧ c ≠ 7 ∧ c ≠ 12 ∧ c ≠ 13) → en1 c = en c) ∧ KP en en1) (PostM D cs ad) (Af cs ad sz)) ([.ref (ad 0), .int (nI n)] : List Value).toArray s 0 0 (Af cs ad sz)) (F0 m 118 ls []) := by
                  intro  en_1500 ls H locs hI_1500 hf_1500 hkp_1500 hsd_1500  hl hh
                  refine lv_aload_n hx hb dX12_findRings_118 rfl (lv_at hl 0 rfl) ?_
                  refine lv_dup hx hb dX12_findRings_119 rfl ?_
                  obtain ⟨fa_1501, hi_1501, wd_1501, mo_1501, tb_1501, dp_1501, many_1501, grt_1501, lst_1501, nou_1501, rm_1501, rb_1501, pr_1501, wo_1501, es1501, p0_1501, p1_1501, p2_1501, p3_1501, p4_1501⟩ := getr_M hI_1500
                  have hq2_1502 : wd_1501 = wd := n_eq ((show nI wd_1501 = rdI (en_1500 0) 2 from by rw [es1501]; rfl).trans (hkp_1500.2.1.trans (show rdI (en 0) 2 = nI wd from by rw [es1487]; rfl))) (by omega) (by omega)
                  have hq3_1502 : mo_1501 = mo := n_eq ((show nI mo_1501 = rdI (en_1500 0) 3 from by rw [es1501]; rfl).trans (hkp_1500.2.2.1.trans (show rdI (en 0) 3 = nI mo from by rw [es1487]; rfl))) (by omega) (by omega)
                  have hq4_1502 : tb_1501 = tb := n_eq ((show nI tb_1501 = rdI (en_1500 0) 4 from by rw [es1501]; rfl).trans (hkp_1500.2.2.2.1.trans (show rdI (en 0) 4 = nI tb from by rw [es1487]; rfl))) (by omega) (by omega)
                  have hq30_1502 : wo_1501 = wo := n_eq ((show nI wo_1501 = rdI (en_1500 0) 30 from by rw [es1501]; rfl).trans (hkp_1500.2.2.2.2.2.trans (show rdI (en 0) 30 = nI wo from by rw [es1487]; rfl))) (by omega) (by omega)
                  rw [hq2_1502, hq3_1502, hq4_1502, hq30_1502] at es1501
                  refine hp_get hx hb hts ix12 hown hK hh (q := 0) rfl (hI.1 _ (by decide)) es1501 rfl 22 (by decide) (hts _ tw_901) (fun _ h9 => h9) rfl dX12_findRings_120 ?_
                  refine lv_iconst (v := 1) hx hb dX12_findRings_123 (by decide) ?_
                  refine lv_iadd hx hb dX12_findRings_124 ?_
                  refine hp_put hx hb hts ix12 tyX12 tyX12_ok nmX12 hown hK hh (q := 0) rfl (hI.1 _ (by decide)) es1501 rfl 22 (by decide) (hts _ tw_901) (fun _ h9 => h9) rfl (ty := .int) (by decide +kernel) rfl rfl (Nat.le_of_ble_eq_true rfl) dX12_findRings_125 (fun H locs en_1503 hen_1503 hh => ?_)
                  have es1501_1503 : en_1503 0 = .inr (11, [.int fa_1501, .int hi_1501, .int (nI wd), .int (nI mo), .int (nI tb), .ref (ad 1), .ref (ad 2), .ref (ad 3), .ref (ad 4), .ref (ad 5), .ref (ad 6), .ref (ad 7), .ref (ad 8), .ref (ad 9), .int dp_1501, .long many_1501, .long grt_1501, .long lst_1501, .long nou_1501, .ref (ad 10), .ref (ad 11), .ref (ad 12), .int (rm_1501 + 1), .long rb_1501, .ref (ad 13), .int pr_1501, .ref (ad 14), .ref (ad 15), .ref (ad 16), .ref (ad 17), .int (nI wo), .ref (ad 18), .ref (ad 19)]) := by rw [hen_1503]; exact va_up_self _ _ _
                  have hI_1503 : RX cy cs ad en_1503 := by rw [hen_1503]; exact upr_M hI_1500 ⟨fa_1501, hi_1501, wd, mo, tb, dp_1501, many_1501, grt_1501, lst_1501, nou_1501, (rm_1501 + 1), rb_1501, pr_1501, wo, rfl, hwd2, hwd3, hmo, htb, hwo⟩
                  have hf_1503 : ∀ c, (c ≠ 0 ∧ c ≠ 6 ∧ c ≠ 7 ∧ c ≠ 12 ∧ c ≠ 13) → en_1503 c = en c := fun c hc => Eq.trans (show en_1503 c = en_1500 c from by rw [hen_1503, va_up_ne _ _ (by omega)]) (hf_1500 c hc)
                  have hkp_1503 : KP en en_1503 := KP_fv hkp_1500 es1501 es1501_1503 hi_1501 (nI wd) (nI mo) (nI tb) pr_1501 (nI wo) rfl rfl rfl rfl rfl rfl rfl rfl rfl rfl rfl rfl
                  have hsd_1503 : SD en_1494 en_1503 := SD_fv hsd_1500 es1501 es1501_1503 (show en_1503 7 = en_1500 7 from by rw [hen_1503, va_up_ne _ _ (by decide)]) dp_1501 rfl rfl
                  refine lv_goto (tgt := 14) hx hb dX12_findRings_128 (by decide) ?_
                  exact ih_1491 (mm1491 - 1) (n - 1) u1_1494 en_1503 ls H locs (by omega) hI_1503 hf_1503 (ND_sd hND_1494 hsd_1503) (by rw [hsd_1503.2]; have h1 := hnm_1494; have h2 := i1_1491; omega) (hkp_1503) (lv_sub hl [0, 1] rfl) hh
                refine lv_aload_n hx hb dX12_findRings_58 rfl (lv_at hl 1 rfl) ?_
                refine hp_get hx hb hts ix12 hown hK hh (q := 0) rfl (hI.1 _ (by decide)) es1497 rfl 22 (by decide) (hts _ tw_901) (fun _ h9 => h9) rfl dX12_findRings_59 ?_
                refine lv_if_eq (tgt := 84) hx hb dX12_findRings_62 (by decide) (fun c_1504 => ?_) (fun c_1504 => ?_)
                · refine lv_aload_n hx hb dX12_findRings_84 rfl (lv_at hl 1 rfl) ?_
                  refine lv_aload_n hx hb dX12_findRings_85 rfl (lv_at hl 1 rfl) ?_
                  refine lv_iload_n hx hb dX12_findRings_86 rfl (lv_at hl 2 rfl) ?_
                  refine hp_callRl (va_runV (As := [.int (nI n)]) (rest := [.ref (ad 0)]) ⟨hx, hb, hml, hown, hts⟩ (c_X12_trackAt l D cy _ cs ad en_1495 hI_1495 n (by omega)) (kw_X12_trackAt hts tw_1093 ⟨by decide, by decide⟩) (preV_of hh hK (hI.1 _ (by decide)) es1497 rfl) rfl rfl hl.1 rfl (lv_room (Nat.le_of_ble_eq_true rfl)) dX12_findRings_87 ⟨Nat.le_of_ble_eq_true rfl, Nat.le_of_ble_eq_true rfl⟩) hh hA (fun r_1505 H locs hw_1505 hh => ?_)
                  refine hp_put hx hb hts ix12 tyX12 tyX12_ok nmX12 hown hK hh (q := 0) rfl (hI.1 _ (by decide)) es1497 rfl 23 (by decide) (hts _ tw_902) (fun _ h9 => h9) rfl (ty := .long) (by decide +kernel) rfl rfl (Nat.le_of_ble_eq_true rfl) dX12_findRings_90 (fun H locs en_1506 hen_1506 hh => ?_)
                  have es1497_1506 : en_1506 0 = .inr (11, [.int fa_1497, .int hi_1497, .int (nI wd), .int (nI mo), .int (nI tb), .ref (ad 1), .ref (ad 2), .ref (ad 3), .ref (ad 4), .ref (ad 5), .ref (ad 6), .ref (ad 7), .ref (ad 8), .ref (ad 9), .int dp_1497, .long many_1497, .long grt_1497, .long lst_1497, .long nou_1497, .ref (ad 10), .ref (ad 11), .ref (ad 12), .int rm_1497, .long r_1505, .ref (ad 13), .int pr_1497, .ref (ad 14), .ref (ad 15), .ref (ad 16), .ref (ad 17), .int (nI wo), .ref (ad 18), .ref (ad 19)]) := by rw [hen_1506]; exact va_up_self _ _ _
                  have hI_1506 : RX cy cs ad en_1506 := by rw [hen_1506]; exact upr_M hI_1495 ⟨fa_1497, hi_1497, wd, mo, tb, dp_1497, many_1497, grt_1497, lst_1497, nou_1497, rm_1497, r_1505, pr_1497, wo, rfl, hwd2, hwd3, hmo, htb, hwo⟩
                  have hf_1506 : ∀ c, (c ≠ 0 ∧ c ≠ 6 ∧ c ≠ 7 ∧ c ≠ 12 ∧ c ≠ 13) → en_1506 c = en c := fun c hc => Eq.trans (show en_1506 c = en_1495 c from by rw [hen_1506, va_up_ne _ _ (by omega)]) (hf_1495 c hc)
                  have hkp_1506 : KP en en_1506 := KP_fv i0_1495 es1497 es1497_1506 hi_1497 (nI wd) (nI mo) (nI tb) pr_1497 (nI wo) rfl rfl rfl rfl rfl rfl rfl rfl rfl rfl rfl rfl
                  have hsd_1506 : SD en_1494 en_1506 := SD_fv i1_1495 es1497 es1497_1506 (show en_1506 7 = en_1495 7 from by rw [hen_1506, va_up_ne _ _ (by decide)]) dp_1497 rfl rfl
                  refine lv_iconst (v := 0) hx hb dX12_findRings_93 (by decide) ?_
                  refine lv_istore_n (lv' := [(2, .int 0), (0, .ref (ad 0)), (1, .int (nI n))]) hx hb dX12_findRings_94 rfl hl (by decide) rfl (fun ls hl => ?_)
                  have loop_1507 : ∀ (fu j1507 : Nat)  (en_1507 : Nat → va_E) (ls : Array Slot) (H : Heap) (locs : List Loc), 0 ≤ j1507 → j1507 ≤ n → n < j1507 + fu → RX cy cs ad en_1507 → (∀ c, (c ≠ 0 ∧ c ≠ 6 ∧ c ≠ 7 ∧ c ≠ 12 ∧ c ≠ 13) → en_1507 c = en c) → (KP en en_1507) → (SD en_1494 en_1507) → lv_has ls 3 [(2, .int (nI j1507)), (0, .ref (ad 0)), (1, .int (nI n))] → Hp D (Af cs ad sz) (Af cs ad sz) s.heap H locs cs ad en_1507 → W p l e (headSpec (Cond.code yX12_findRings cX12_findRings 3 none :: TB) (rmN 3)).room s m ([.ref (ad 0), .int (nI n)] : List Value).toArray below meth c H locs 0 0 (MQ below (va_Qv (S := Nat → va_E) (fun en1 => RX cy cs ad en1 ∧ (∀ c, (c ≠ 0 ∧ c ≠ 6 ∧ c ≠ 7 ∧ c ≠ 12 ∧ c ≠ 13) → en1 c = en c) ∧ KP en en1) (PostM D cs ad) (Af cs ad sz)) ([.ref (ad 0), .int (nI n)] : List Value).toArray s 0 0 (Af cs ad sz)) (F0 m 95 ls []) := by
                    intro fu
                    induction fu with
                    | zero => intro j1507  en_1507 ls H locs h0 h1 h2; exact absurd h2 (by omega)
                    | succ fu ih_1507 =>
                      intro j1507  en_1507 ls H locs hj0_1507 hj_1507 hfu_1507 hI_1507 hf_1507 i0_1507 i1_1507 hl hh
                      refine lv_iload_n hx hb dX12_findRings_95 rfl (lv_at hl 0 rfl) ?_
                      refine lv_iload_n hx hb dX12_findRings_96 rfl (lv_at hl 2 rfl) ?_
                      refine lv_icmp_ge (tgt := 118) hx hb dX12_findRings_97 (by decide) (fun c_1508 => ?_) (fun c_1508 => ?_)
                      · have n_1508 : n ≤ j1507 := n_le (a := n) (b := j1507) c_1508 (by omega) (by omega)
                        exact join_1500  en_1507 ls _ _ hI_1507 hf_1507 i0_1507 i1_1507 (lv_sub hl [1, 2] rfl) hh
                      · have n_1508 : j1507 < n := n_nle (a := n) (b := j1507) c_1508 (by omega) (by omega)
                        refine lv_aload_n hx hb dX12_findRings_100 rfl (lv_at hl 1 rfl) ?_
                        obtain ⟨fa_1509, hi_1509, wd_1509, mo_1509, tb_1509, dp_1509, many_1509, grt_1509, lst_1509, nou_1509, rm_1509, rb_1509, pr_1509, wo_1509, es1509, p0_1509, p1_1509, p2_1509, p3_1509, p4_1509⟩ := getr_M hI_1507
                        have hq2_1510 : wd_1509 = wd := n_eq ((show nI wd_1509 = rdI (en_1507 0) 2 from by rw [es1509]; rfl).trans (i0_1507.2.1.trans (show rdI (en 0) 2 = nI wd from by rw [es1487]; rfl))) (by omega) (by omega)
                        have hq3_1510 : mo_1509 = mo := n_eq ((show nI mo_1509 = rdI (en_1507 0) 3 from by rw [es1509]; rfl).trans (i0_1507.2.2.1.trans (show rdI (en 0) 3 = nI mo from by rw [es1487]; rfl))) (by omega) (by omega)
                        have hq4_1510 : tb_1509 = tb := n_eq ((show nI tb_1509 = rdI (en_1507 0) 4 from by rw [es1509]; rfl).trans (i0_1507.2.2.2.1.trans (show rdI (en 0) 4 = nI tb from by rw [es1487]; rfl))) (by omega) (by omega)
                        have hq30_1510 : wo_1509 = wo := n_eq ((show nI wo_1509 = rdI (en_1507 0) 30 from by rw [es1509]; rfl).trans (i0_1507.2.2.2.2.2.trans (show rdI (en 0) 30 = nI wo from by rw [es1487]; rfl))) (by omega) (by omega)
                        rw [hq2_1510, hq3_1510, hq4_1510, hq30_1510] at es1509
                        refine hp_get hx hb hts ix12 hown hK hh (q := 0) rfl (hI.1 _ (by decide)) es1509 rfl 24 (by decide) (hts _ tw_903) (fun _ h9 => h9) rfl dX12_findRings_101 ?_
                        refine lv_iload_n hx hb dX12_findRings_104 rfl (lv_at hl 0 rfl) ?_
                        refine lv_aload_n hx hb dX12_findRings_105 rfl (lv_at hl 1 rfl) ?_
                        refine hp_get hx hb hts ix12 hown hK hh (q := 0) rfl (hI.1 _ (by decide)) es1509 rfl 11 (by decide) (hts _ tw_890) (fun _ h9 => h9) rfl dX12_findRings_106 ?_
                        refine lv_iload_n hx hb dX12_findRings_109 rfl (lv_at hl 0 rfl) ?_
                        obtain ⟨f_1511, es1511⟩ := getr_nw hI_1507
                        refine hp_iald hx hb hK hh (q := 7) rfl (hI.1 _ (by decide)) es1511 (vp_in_nI (n := j1507) (by omega) (by decide)) dX12_findRings_110 ?_
                        rw [nI_clamp (n := j1507) (by omega)]
                        obtain ⟨v_1512, hv_1512, hve_1512⟩ := hall_1494 j1507 (by omega)
                        rw [show f_1511 j1507 = nI v_1512 from (show f_1511 j1507 = rdF (en_1494 7) j1507 from by rw [← i1_1507.2, es1511]; rfl).trans hve_1512]
                        obtain ⟨f_1513, es1513⟩ := getr_rw hI_1507
                        refine hp_iast hx hb hK hh (q := 13) rfl (hI.1 _ (by decide)) es1513 (vp_in_nI (n := j1507) (by omega) (by decide)) dX12_findRings_111 (fun H locs en_1514 hen_1514 hh => ?_)
                        rw [nI_clamp (n := j1507) (by omega)] at hen_1514
                        have es1509_1514 : en_1514 0 = .inr (11, [.int fa_1509, .int hi_1509, .int (nI wd), .int (nI mo), .int (nI tb), .ref (ad 1), .ref (ad 2), .ref (ad 3), .ref (ad 4), .ref (ad 5), .ref (ad 6), .ref (ad 7), .ref (ad 8), .ref (ad 9), .int dp_1509, .long many_1509, .long grt_1509, .long lst_1509, .long nou_1509, .ref (ad 10), .ref (ad 11), .ref (ad 12), .int rm_1509, .long rb_1509, .ref (ad 13), .int pr_1509, .ref (ad 14), .ref (ad 15), .ref (ad 16), .ref (ad 17), .int (nI wo), .ref (ad 18), .ref (ad 19)]) := by rw [hen_1514, va_up_ne _ _ (by decide)]; exact es1509
                        have es1511_1514 : en_1514 7 = .inl (cy 0, 13, .inl f_1511) := by rw [hen_1514, va_up_ne _ _ (by decide)]; exact es1511
                        have es1513_1514 : en_1514 13 = .inl (cy 0, 12, .inl (upd f_1513 j1507 (nI v_1512))) := by rw [hen_1514]; exact va_up_self _ _ _
                        have hI_1514 : RX cy cs ad en_1514 := by rw [hen_1514]; exact upr_rw hI_1507 ⟨(upd f_1513 j1507 (nI v_1512)), rfl⟩
                        have hf_1514 : ∀ c, (c ≠ 0 ∧ c ≠ 6 ∧ c ≠ 7 ∧ c ≠ 12 ∧ c ≠ 13) → en_1514 c = en c := fun c hc => Eq.trans (show en_1514 c = en_1507 c from by rw [hen_1514, va_up_ne _ _ (by omega)]) (hf_1507 c hc)
                        have hkp_1514 : KP en en_1514 := KP_same i0_1507 (show en_1514 0 = en_1507 0 from by rw [hen_1514, va_up_ne _ _ (by decide)])
                        have hsd_1514 : SD en_1494 en_1514 := SD_same i1_1507 (show en_1514 0 = en_1507 0 from by rw [hen_1514, va_up_ne _ _ (by decide)]) (show en_1514 7 = en_1507 7 from by rw [hen_1514, va_up_ne _ _ (by decide)])
                        refine lv_iinc (v := (nI (j1507 + 1))) (lv' := [(2, .int (nI (j1507 + 1))), (0, .ref (ad 0)), (1, .int (nI n))]) hx hb dX12_findRings_112 hl (k := 0) rfl (nI_1 _) (by decide) rfl (fun ls hl => ?_)
                        refine lv_goto (tgt := 95) hx hb dX12_findRings_115 (by decide) ?_
                        exact ih_1507 ((j1507 + 1))  en_1514 ls H locs (by omega) (by omega) (by omega) hI_1514 hf_1514 (hkp_1514) (hsd_1514) (lv_sub hl [0, 1, 2] rfl) hh
                  exact loop_1507 (n + 1) 0  en_1506 ls _ _ (Nat.le_refl _) (by omega) (by omega) hI_1506 hf_1506 (hkp_1506) (hsd_1506) (lv_sub hl [0, 1, 2] rfl) hh
                · refine lv_aload_n hx hb dX12_findRings_65 rfl (lv_at hl 1 rfl) ?_
                  refine lv_iload_n hx hb dX12_findRings_66 rfl (lv_at hl 2 rfl) ?_
                  refine hp_callRl (va_runV (As := [.int (nI n)]) (rest := []) ⟨hx, hb, hml, hown, hts⟩ (c_X12_trackAt l D cy _ cs ad en_1495 hI_1495 n (by omega)) (kw_X12_trackAt hts tw_1093 ⟨by decide, by decide⟩) (preV_of hh hK (hI.1 _ (by decide)) es1497 rfl) rfl rfl hl.1 rfl (lv_room (Nat.le_of_ble_eq_true rfl)) dX12_findRings_67 ⟨Nat.le_of_ble_eq_true rfl, Nat.le_of_ble_eq_true rfl⟩) hh hA (fun r_1515 H locs hw_1515 hh => ?_)
                  refine hp_callRl (va_runS (As := [.long r_1515]) (rest := []) ⟨hx, hb, hml, hown, hts⟩ (c_X12_sizeOf l D cy _ cs ad en_1495 hI_1495 r_1515 ) (kw_X12_sizeOf hts tw_1062 ⟨by decide, by decide⟩) (preS_of hh hK) rfl rfl hl.1 rfl (lv_room (Nat.le_of_ble_eq_true rfl)) dX12_findRings_70 ⟨Nat.le_of_ble_eq_true rfl, Nat.le_of_ble_eq_true rfl⟩) hh hA (fun r_1516 H locs hw_1516 hh => ?_)
                  obtain rfl : r_1516 = absR r_1515 := hw_1516
                  refine lv_aload_n hx hb dX12_findRings_73 rfl (lv_at hl 1 rfl) ?_
                  refine hp_get hx hb hts ix12 hown hK hh (q := 0) rfl (hI.1 _ (by decide)) es1497 rfl 23 (by decide) (hts _ tw_902) (fun _ h9 => h9) rfl dX12_findRings_74 ?_
                  refine hp_callRl (va_runS (As := [.long rb_1497]) (rest := [.long (absR r_1515)]) ⟨hx, hb, hml, hown, hts⟩ (c_X12_sizeOf l D cy _ cs ad en_1495 hI_1495 rb_1497 ) (kw_X12_sizeOf hts tw_1062 ⟨by decide, by decide⟩) (preS_of hh hK) rfl rfl hl.1 rfl (lv_room (Nat.le_of_ble_eq_true rfl)) dX12_findRings_77 ⟨Nat.le_of_ble_eq_true rfl, Nat.le_of_ble_eq_true rfl⟩) hh hA (fun r_1517 H locs hw_1517 hh => ?_)
                  obtain rfl : r_1517 = absR rb_1497 := hw_1517
                  refine W.lcmp hx hb dX12_findRings_80 ?_
                  refine lv_if_le (tgt := 118) hx hb dX12_findRings_81 (by decide) (fun c_1518 => ?_) (fun c_1518 => ?_)
                  · exact join_1500  en_1495 ls _ _ hI_1495 hf_1495 i0_1495 i1_1495 (lv_sub hl [1, 2] rfl) hh
                  · refine lv_aload_n hx hb dX12_findRings_84 rfl (lv_at hl 1 rfl) ?_
                    refine lv_aload_n hx hb dX12_findRings_85 rfl (lv_at hl 1 rfl) ?_
                    refine lv_iload_n hx hb dX12_findRings_86 rfl (lv_at hl 2 rfl) ?_
                    refine hp_callRl (va_runV (As := [.int (nI n)]) (rest := [.ref (ad 0)]) ⟨hx, hb, hml, hown, hts⟩ (c_X12_trackAt l D cy _ cs ad en_1495 hI_1495 n (by omega)) (kw_X12_trackAt hts tw_1093 ⟨by decide, by decide⟩) (preV_of hh hK (hI.1 _ (by decide)) es1497 rfl) rfl rfl hl.1 rfl (lv_room (Nat.le_of_ble_eq_true rfl)) dX12_findRings_87 ⟨Nat.le_of_ble_eq_true rfl, Nat.le_of_ble_eq_true rfl⟩) hh hA (fun r_1519 H locs hw_1519 hh => ?_)
                    refine hp_put hx hb hts ix12 tyX12 tyX12_ok nmX12 hown hK hh (q := 0) rfl (hI.1 _ (by decide)) es1497 rfl 23 (by decide) (hts _ tw_902) (fun _ h9 => h9) rfl (ty := .long) (by decide +kernel) rfl rfl (Nat.le_of_ble_eq_true rfl) dX12_findRings_90 (fun H locs en_1520 hen_1520 hh => ?_)
                    have es1497_1520 : en_1520 0 = .inr (11, [.int fa_1497, .int hi_1497, .int (nI wd), .int (nI mo), .int (nI tb), .ref (ad 1), .ref (ad 2), .ref (ad 3), .ref (ad 4), .ref (ad 5), .ref (ad 6), .ref (ad 7), .ref (ad 8), .ref (ad 9), .int dp_1497, .long many_1497, .long grt_1497, .long lst_1497, .long nou_1497, .ref (ad 10), .ref (ad 11), .ref (ad 12), .int rm_1497, .long r_1519, .ref (ad 13), .int pr_1497, .ref (ad 14), .ref (ad 15), .ref (ad 16), .ref (ad 17), .int (nI wo), .ref (ad 18), .ref (ad 19)]) := by rw [hen_1520]; exact va_up_self _ _ _
                    have hI_1520 : RX cy cs ad en_1520 := by rw [hen_1520]; exact upr_M hI_1495 ⟨fa_1497, hi_1497, wd, mo, tb, dp_1497, many_1497, grt_1497, lst_1497, nou_1497, rm_1497, r_1519, pr_1497, wo, rfl, hwd2, hwd3, hmo, htb, hwo⟩
                    have hf_1520 : ∀ c, (c ≠ 0 ∧ c ≠ 6 ∧ c ≠ 7 ∧ c ≠ 12 ∧ c ≠ 13) → en_1520 c = en c := fun c hc => Eq.trans (show en_1520 c = en_1495 c from by rw [hen_1520, va_up_ne _ _ (by omega)]) (hf_1495 c hc)
                    have hkp_1520 : KP en en_1520 := KP_fv i0_1495 es1497 es1497_1520 hi_1497 (nI wd) (nI mo) (nI tb) pr_1497 (nI wo) rfl rfl rfl rfl rfl rfl rfl rfl rfl rfl rfl rfl
                    have hsd_1520 : SD en_1494 en_1520 := SD_fv i1_1495 es1497 es1497_1520 (show en_1520 7 = en_1495 7 from by rw [hen_1520, va_up_ne _ _ (by decide)]) dp_1497 rfl rfl
                    refine lv_iconst (v := 0) hx hb dX12_findRings_93 (by decide) ?_
                    refine lv_istore_n (lv' := [(2, .int 0), (0, .ref (ad 0)), (1, .int (nI n))]) hx hb dX12_findRings_94 rfl hl (by decide) rfl (fun ls hl => ?_)
                    have loop_1521 : ∀ (fu j1521 : Nat)  (en_1521 : Nat → va_E) (ls : Array Slot) (H : Heap) (locs : List Loc), 0 ≤ j1521 → j1521 ≤ n → n < j1521 + fu → RX cy cs ad en_1521 → (∀ c, (c ≠ 0 ∧ c ≠ 6 ∧ c ≠ 7 ∧ c ≠ 12 ∧ c ≠ 13) → en_1521 c = en c) → (KP en en_1521) → (SD en_1494 en_1521) → lv_has ls 3 [(2, .int (nI j1521)), (0, .ref (ad 0)), (1, .int (nI n))] → Hp D (Af cs ad sz) (Af cs ad sz) s.heap H locs cs ad en_1521 → W p l e (headSpec (Cond.code yX12_findRings cX12_findRings 3 none :: TB) (rmN 3)).room s m ([.ref (ad 0), .int (nI n)] : List Value).toArray below meth c H locs 0 0 (MQ below (va_Qv (S := Nat → va_E) (fun en1 => RX cy cs ad en1 ∧ (∀ c, (c ≠ 0 ∧ c ≠ 6 ∧ c ≠ 7 ∧ c ≠ 12 ∧ c ≠ 13) → en1 c = en c) ∧ KP en en1) (PostM D cs ad) (Af cs ad sz)) ([.ref (ad 0), .int (nI n)] : List Value).toArray s 0 0 (Af cs ad sz)) (F0 m 95 ls []) := by
                      intro fu
                      induction fu with
                      | zero => intro j1521  en_1521 ls H locs h0 h1 h2; exact absurd h2 (by omega)
                      | succ fu ih_1521 =>
                        intro j1521  en_1521 ls H locs hj0_1521 hj_1521 hfu_1521 hI_1521 hf_1521 i0_1521 i1_1521 hl hh
                        refine lv_iload_n hx hb dX12_findRings_95 rfl (lv_at hl 0 rfl) ?_
                        refine lv_iload_n hx hb dX12_findRings_96 rfl (lv_at hl 2 rfl) ?_
                        refine lv_icmp_ge (tgt := 118) hx hb dX12_findRings_97 (by decide) (fun c_1522 => ?_) (fun c_1522 => ?_)
                        · have n_1522 : n ≤ j1521 := n_le (a := n) (b := j1521) c_1522 (by omega) (by omega)
                          exact join_1500  en_1521 ls _ _ hI_1521 hf_1521 i0_1521 i1_1521 (lv_sub hl [1, 2] rfl) hh
                        · have n_1522 : j1521 < n := n_nle (a := n) (b := j1521) c_1522 (by omega) (by omega)
                          refine lv_aload_n hx hb dX12_findRings_100 rfl (lv_at hl 1 rfl) ?_
                          obtain ⟨fa_1523, hi_1523, wd_1523, mo_1523, tb_1523, dp_1523, many_1523, grt_1523, lst_1523, nou_1523, rm_1523, rb_1523, pr_1523, wo_1523, es1523, p0_1523, p1_1523, p2_1523, p3_1523, p4_1523⟩ := getr_M hI_1521
                          have hq2_1524 : wd_1523 = wd := n_eq ((show nI wd_1523 = rdI (en_1521 0) 2 from by rw [es1523]; rfl).trans (i0_1521.2.1.trans (show rdI (en 0) 2 = nI wd from by rw [es1487]; rfl))) (by omega) (by omega)
                          have hq3_1524 : mo_1523 = mo := n_eq ((show nI mo_1523 = rdI (en_1521 0) 3 from by rw [es1523]; rfl).trans (i0_1521.2.2.1.trans (show rdI (en 0) 3 = nI mo from by rw [es1487]; rfl))) (by omega) (by omega)
                          have hq4_1524 : tb_1523 = tb := n_eq ((show nI tb_1523 = rdI (en_1521 0) 4 from by rw [es1523]; rfl).trans (i0_1521.2.2.2.1.trans (show rdI (en 0) 4 = nI tb from by rw [es1487]; rfl))) (by omega) (by omega)
                          have hq30_1524 : wo_1523 = wo := n_eq ((show nI wo_1523 = rdI (en_1521 0) 30 from by rw [es1523]; rfl).trans (i0_1521.2.2.2.2.2.trans (show rdI (en 0) 30 = nI wo from by rw [es1487]; rfl))) (by omega) (by omega)
                          rw [hq2_1524, hq3_1524, hq4_1524, hq30_1524] at es1523
                          refine hp_get hx hb hts ix12 hown hK hh (q := 0) rfl (hI.1 _ (by decide)) es1523 rfl 24 (by decide) (hts _ tw_903) (fun _ h9 => h9) rfl dX12_findRings_101 ?_
                          refine lv_iload_n hx hb dX12_findRings_104 rfl (lv_at hl 0 rfl) ?_
                          refine lv_aload_n hx hb dX12_findRings_105 rfl (lv_at hl 1 rfl) ?_
                          refine hp_get hx hb hts ix12 hown hK hh (q := 0) rfl (hI.1 _ (by decide)) es1523 rfl 11 (by decide) (hts _ tw_890) (fun _ h9 => h9) rfl dX12_findRings_106 ?_
                          refine lv_iload_n hx hb dX12_findRings_109 rfl (lv_at hl 0 rfl) ?_
                          obtain ⟨f_1525, es1525⟩ := getr_nw hI_1521
                          refine hp_iald hx hb hK hh (q := 7) rfl (hI.1 _ (by decide)) es1525 (vp_in_nI (n := j1521) (by omega) (by decide)) dX12_findRings_110 ?_
                          rw [nI_clamp (n := j1521) (by omega)]
                          obtain ⟨v_1526, hv_1526, hve_1526⟩ := hall_1494 j1521 (by omega)
                          rw [show f_1525 j1521 = nI v_1526 from (show f_1525 j1521 = rdF (en_1494 7) j1521 from by rw [← i1_1521.2, es1525]; rfl).trans hve_1526]
                          obtain ⟨f_1527, es1527⟩ := getr_rw hI_1521
                          refine hp_iast hx hb hK hh (q := 13) rfl (hI.1 _ (by decide)) es1527 (vp_in_nI (n := j1521) (by omega) (by decide)) dX12_findRings_111 (fun H locs en_1528 hen_1528 hh => ?_)
                          rw [nI_clamp (n := j1521) (by omega)] at hen_1528
                          have es1523_1528 : en_1528 0 = .inr (11, [.int fa_1523, .int hi_1523, .int (nI wd), .int (nI mo), .int (nI tb), .ref (ad 1), .ref (ad 2), .ref (ad 3), .ref (ad 4), .ref (ad 5), .ref (ad 6), .ref (ad 7), .ref (ad 8), .ref (ad 9), .int dp_1523, .long many_1523, .long grt_1523, .long lst_1523, .long nou_1523, .ref (ad 10), .ref (ad 11), .ref (ad 12), .int rm_1523, .long rb_1523, .ref (ad 13), .int pr_1523, .ref (ad 14), .ref (ad 15), .ref (ad 16), .ref (ad 17), .int (nI wo), .ref (ad 18), .ref (ad 19)]) := by rw [hen_1528, va_up_ne _ _ (by decide)]; exact es1523
                          have es1525_1528 : en_1528 7 = .inl (cy 0, 13, .inl f_1525) := by rw [hen_1528, va_up_ne _ _ (by decide)]; exact es1525
                          have es1527_1528 : en_1528 13 = .inl (cy 0, 12, .inl (upd f_1527 j1521 (nI v_1526))) := by rw [hen_1528]; exact va_up_self _ _ _
                          have hI_1528 : RX cy cs ad en_1528 := by rw [hen_1528]; exact upr_rw hI_1521 ⟨(upd f_1527 j1521 (nI v_1526)), rfl⟩
                          have hf_1528 : ∀ c, (c ≠ 0 ∧ c ≠ 6 ∧ c ≠ 7 ∧ c ≠ 12 ∧ c ≠ 13) → en_1528 c = en c := fun c hc => Eq.trans (show en_1528 c = en_1521 c from by rw [hen_1528, va_up_ne _ _ (by omega)]) (hf_1521 c hc)
                          have hkp_1528 : KP en en_1528 := KP_same i0_1521 (show en_1528 0 = en_1521 0 from by rw [hen_1528, va_up_ne _ _ (by decide)])
                          have hsd_1528 : SD en_1494 en_1528 := SD_same i1_1521 (show en_1528 0 = en_1521 0 from by rw [hen_1528, va_up_ne _ _ (by decide)]) (show en_1528 7 = en_1521 7 from by rw [hen_1528, va_up_ne _ _ (by decide)])
                          refine lv_iinc (v := (nI (j1521 + 1))) (lv' := [(2, .int (nI (j1521 + 1))), (0, .ref (ad 0)), (1, .int (nI n))]) hx hb dX12_findRings_112 hl (k := 0) rfl (nI_1 _) (by decide) rfl (fun ls hl => ?_)
                          refine lv_goto (tgt := 95) hx hb dX12_findRings_115 (by decide) ?_
                          exact ih_1521 ((j1521 + 1))  en_1528 ls H locs (by omega) (by omega) (by omega) hI_1528 hf_1528 (hkp_1528) (hsd_1528) (lv_sub hl [0, 1, 2] rfl) hh
                    exact loop_1521 (n + 1) 0  en_1520 ls _ _ (Nat.le_refl _) (by omega) (by omega) hI_1520 hf_1520 (hkp_1520) (hsd_1520) (lv_sub hl [0, 1, 2] rfl) hh
            · have n_1496 : j1495 < n := n_nle (a := n) (b := j1495) c_1496 (by omega) (by omega)
              refine lv_aload_n hx hb dX12_findRings_29 rfl (lv_at hl 1 rfl) ?_
              obtain ⟨fa_1529, hi_1529, wd_1529, mo_1529, tb_1529, dp_1529, many_1529, grt_1529, lst_1529, nou_1529, rm_1529, rb_1529, pr_1529, wo_1529, es1529, p0_1529, p1_1529, p2_1529, p3_1529, p4_1529⟩ := getr_M hI_1495
              have hq2_1530 : wd_1529 = wd := n_eq ((show nI wd_1529 = rdI (en_1495 0) 2 from by rw [es1529]; rfl).trans (i0_1495.2.1.trans (show rdI (en 0) 2 = nI wd from by rw [es1487]; rfl))) (by omega) (by omega)
              have hq3_1530 : mo_1529 = mo := n_eq ((show nI mo_1529 = rdI (en_1495 0) 3 from by rw [es1529]; rfl).trans (i0_1495.2.2.1.trans (show rdI (en 0) 3 = nI mo from by rw [es1487]; rfl))) (by omega) (by omega)
              have hq4_1530 : tb_1529 = tb := n_eq ((show nI tb_1529 = rdI (en_1495 0) 4 from by rw [es1529]; rfl).trans (i0_1495.2.2.2.1.trans (show rdI (en 0) 4 = nI tb from by rw [es1487]; rfl))) (by omega) (by omega)
              have hq30_1530 : wo_1529 = wo := n_eq ((show nI wo_1529 = rdI (en_1495 0) 30 from by rw [es1529]; rfl).trans (i0_1495.2.2.2.2.2.trans (show rdI (en 0) 30 = nI wo from by rw [es1487]; rfl))) (by omega) (by omega)
              rw [hq2_1530, hq3_1530, hq4_1530, hq30_1530] at es1529
              refine hp_get hx hb hts ix12 hown hK hh (q := 0) rfl (hI.1 _ (by decide)) es1529 rfl 21 (by decide) (hts _ tw_900) (fun _ h9 => h9) rfl dX12_findRings_30 ?_
              refine lv_iload_n hx hb dX12_findRings_33 rfl (lv_at hl 0 rfl) ?_
              refine lv_aload_n hx hb dX12_findRings_34 rfl (lv_at hl 1 rfl) ?_
              refine hp_get hx hb hts ix12 hown hK hh (q := 0) rfl (hI.1 _ (by decide)) es1529 rfl 11 (by decide) (hts _ tw_890) (fun _ h9 => h9) rfl dX12_findRings_35 ?_
              refine lv_iload_n hx hb dX12_findRings_38 rfl (lv_at hl 0 rfl) ?_
              obtain ⟨f_1531, es1531⟩ := getr_nw hI_1495
              refine hp_iald hx hb hK hh (q := 7) rfl (hI.1 _ (by decide)) es1531 (vp_in_nI (n := j1495) (by omega) (by decide)) dX12_findRings_39 ?_
              rw [nI_clamp (n := j1495) (by omega)]
              obtain ⟨v_1532, hv_1532, hve_1532⟩ := hall_1494 j1495 (by omega)
              rw [show f_1531 j1495 = nI v_1532 from (show f_1531 j1495 = rdF (en_1494 7) j1495 from by rw [← i1_1495.2, es1531]; rfl).trans hve_1532]
              obtain ⟨f_1533, es1533, p0_1533⟩ := getr_ak hI_1495
              refine hp_iast hx hb hK hh (q := 12) rfl (hI.1 _ (by decide)) es1533 (vp_in_nI (n := j1495) (by omega) (by decide)) dX12_findRings_40 (fun H locs en_1534 hen_1534 hh => ?_)
              rw [nI_clamp (n := j1495) (by omega)] at hen_1534
              have es1529_1534 : en_1534 0 = .inr (11, [.int fa_1529, .int hi_1529, .int (nI wd), .int (nI mo), .int (nI tb), .ref (ad 1), .ref (ad 2), .ref (ad 3), .ref (ad 4), .ref (ad 5), .ref (ad 6), .ref (ad 7), .ref (ad 8), .ref (ad 9), .int dp_1529, .long many_1529, .long grt_1529, .long lst_1529, .long nou_1529, .ref (ad 10), .ref (ad 11), .ref (ad 12), .int rm_1529, .long rb_1529, .ref (ad 13), .int pr_1529, .ref (ad 14), .ref (ad 15), .ref (ad 16), .ref (ad 17), .int (nI wo), .ref (ad 18), .ref (ad 19)]) := by rw [hen_1534, va_up_ne _ _ (by decide)]; exact es1529
              have es1531_1534 : en_1534 7 = .inl (cy 0, 13, .inl f_1531) := by rw [hen_1534, va_up_ne _ _ (by decide)]; exact es1531
              have es1533_1534 : en_1534 12 = .inl (cy 0, 12, .inl (upd f_1533 j1495 (nI v_1532))) := by rw [hen_1534]; exact va_up_self _ _ _
              have hI_1534 : RX cy cs ad en_1534 := by rw [hen_1534]; exact upr_ak hI_1495 ⟨(upd f_1533 j1495 (nI v_1532)), rfl, (vals_updB p0_1533 (by omega))⟩
              have hf_1534 : ∀ c, (c ≠ 0 ∧ c ≠ 6 ∧ c ≠ 7 ∧ c ≠ 12 ∧ c ≠ 13) → en_1534 c = en c := fun c hc => Eq.trans (show en_1534 c = en_1495 c from by rw [hen_1534, va_up_ne _ _ (by omega)]) (hf_1495 c hc)
              have hkp_1534 : KP en en_1534 := KP_same i0_1495 (show en_1534 0 = en_1495 0 from by rw [hen_1534, va_up_ne _ _ (by decide)])
              have hsd_1534 : SD en_1494 en_1534 := SD_same i1_1495 (show en_1534 0 = en_1495 0 from by rw [hen_1534, va_up_ne _ _ (by decide)]) (show en_1534 7 = en_1495 7 from by rw [hen_1534, va_up_ne _ _ (by decide)])
              refine lv_iinc (v := (nI (j1495 + 1))) (lv' := [(2, .int (nI (j1495 + 1))), (0, .ref (ad 0)), (1, .int (nI n))]) hx hb dX12_findRings_41 hl (k := 0) rfl (nI_1 _) (by decide) rfl (fun ls hl => ?_)
              refine lv_goto (tgt := 24) hx hb dX12_findRings_44 (by decide) ?_
              exact ih_1495 ((j1495 + 1))  en_1534 ls H locs (by omega) (by omega) (by omega) hI_1534 hf_1534 (hkp_1534) (hsd_1534) (lv_sub hl [0, 1, 2] rfl) hh
        exact loop_1495 (n + 1) 0  en_1494 ls _ _ (Nat.le_refl _) (by omega) (by omega) hI_1494 hf_1494 (hkp_1494) ((SD_rf en_1494)) (lv_sub hl [0, 1, 2] rfl) hh
  exact loop_1491 (134217728 + 1) 134217728 0 0 en_1490 ls _ _ (by omega) hI_1490 hf_1490 (hND_1490) (by omega) (hkp_1490) (lv_sub hl [0, 1] rfl) hh
theorem kw_X12_findRings {R : Room} {s : State} {args : Array Value} {own : String} {idx : Nat} (hts : ∀ w ∈ TB, w.before args s = true) (hl : Cond.methodLink own idx yX12_findRings ∈ TB) (hR : 3 + 1 ≤ R.frames ∧ 8 + (3 + 11) + 40 * 3 ≤ R.locals) : CallW R s args own RX12 idx yX12_findRings cX12_findRings 3 none (Cond.code yX12_findRings cX12_findRings 3 none :: TB) (rmN 3) 0 0 1 := cwV 1 hts (TB_V hl tw_1075 ts_44 tw_9 tw_1076) rfl rfl rfl (by decide +kernel) hR
set_option maxHeartbeats 4000000 in
set_option maxRecDepth 100000 in
/-- X12_rings -/
theorem c_X12_rings (l : Launch) (D : va_G) (cy : Nat → ClassId) (sz : Nat) (cs : List Nat) (ad : Nat → Nat) (en : Nat → va_E) (hI : RX cy cs ad en) (n9 : Int32)   : Met l yX12_rings (Cond.code yX12_rings cX12_rings 2 (some .int) :: TB) (rmN 4) (va_Pc [.ref (ad 0), .int n9] (Pre D cy cs ad en sz)) (va_Qi (S := Nat → va_E) (fun r en1 => RX cy cs ad en1 ∧ (∀ c, (c ≠ 0 ∧ c ≠ 6 ∧ c ≠ 7 ∧ c ≠ 8 ∧ c ≠ 9 ∧ c ≠ 12 ∧ c ≠ 13) → en1 c = en c) ∧ KP en en1) (PostM D cs ad) (Af cs ad sz)) 0 0 (Af cs ad sz) := by
  refine Met.ofW (cc := cX12_rings) (maxL := 2) (ret := (some .int)) (by decide) rfl ?_
  intro p e s m args below meth c s₁ B hml hv
  obtain ⟨rfl, hsz, hP, hK, hD0⟩ := hv
  have hx := B.exec
  have hb := B.bytes
  have hr := B.returns
  have hts : ∀ w ∈ TB, w.before _ s = true := fun w h => atoms_spec (ws := _ :: TB) B.pre w (List.mem_cons_of_mem _ h)
  have hown : s.vm.findClass RX12 = some m.cls := findClass_of_methodNamed B.named
  have hlocks := B.notSynchronized
  have hh : Hp D (Af cs ad sz) (Af cs ad sz) s.heap s.heap [] cs ad en := ⟨hP, Af_self hD0, va_S.rf⟩
  have hA : ∀ q : Nat, s.heap.size ≤ q → Af cs ad sz q := fun q h => Or.inr (by rw [hsz] at h; exact h)
  have hl := lv_entry ([.ref (ad 0), .int n9]) (n := 2) (Nat.le_of_ble_eq_true rfl)
  rw [lg_entry_eq]
  generalize (lg_sl ([.ref (ad 0), .int n9]) ++ List.replicate (2 - (lg_sl ([.ref (ad 0), .int n9])).length) Slot.unset).toArray = ls at hl ⊢
  have hl : lv_has ls 2 [(0, .ref (ad 0)), (1, .int n9)] := hl
  have hf0 : ∀ c, (c ≠ 0 ∧ c ≠ 6 ∧ c ≠ 7 ∧ c ≠ 8 ∧ c ≠ 9 ∧ c ≠ 12 ∧ c ≠ 13) → en c = en c := fun _ _ => rfl
  obtain ⟨fa, hi, wd, mo, tb, dp, many, grt, lst, nou, rm, rb, pr, wo, es1535, hwd2, hwd3, hmo, htb, hwo⟩ := getr_M hI
  refine lv_iload_n hx hb dX12_rings_0 rfl (lv_at hl 1 rfl) ?_
  refine lv_i2l hx hb dX12_rings_1 rfl ?_
  refine lv_lconst (v := 1) hx hb dX12_rings_2 (by decide) ?_
  refine lv_ldc2 hx hb hown (hts _ tw_1024) dX12_rings_3 ?_
  refine hp_callRi (va_runS (As := [.long n9.toInt64, .long 1, .long 8]) (rest := []) ⟨hx, hb, hml, hown, hts⟩ (c_X12_within l D cy _ cs ad en n9.toInt64 1 8) (kw_X12_within hts tw_985 ⟨by decide, by decide⟩) (preS_of hh hK) rfl rfl hl.1 rfl (lv_room (Nat.le_of_ble_eq_true rfl)) dX12_rings_6 ⟨Nat.le_of_ble_eq_true rfl, Nat.le_of_ble_eq_true rfl⟩) hh hA (fun r_1536 H locs hw_1536 hh => ?_)
  rcases Decidable.em (wi n9 1 8) with hp_1536 | hp_1536
  · obtain rfl : r_1536 = 1 := Eq.trans hw_1536 (if_pos ((wj_32 (by decide) (by decide)).mpr hp_1536))
    obtain ⟨N_1536, rfl, hA_1536, hB_1536⟩ := wi_natB hp_1536 1 8 (by decide) (by decide)
    refine lv_if_ne (tgt := 15) hx hb dX12_rings_9 (by decide) (fun _ => ?_) (fun c_0 => absurd c_0 (by decide))
    refine lv_aload_n hx hb dX12_rings_15 rfl (lv_at hl 0 rfl) ?_
    refine lv_iload_n hx hb dX12_rings_16 rfl (lv_at hl 1 rfl) ?_
    refine hp_callMi (va_runV (As := [.int (nI N_1536)]) (rest := []) ⟨hx, hb, hml, hown, hts⟩ (c_X12_isSpent l D cy _ cs ad en hI N_1536 (by omega)) (kw_X12_isSpent hts tw_1025 ⟨by decide, by decide⟩) (preV_of hh hK (hI.1 _ (by decide)) es1535 rfl) rfl rfl hl.1 rfl (lv_room (Nat.le_of_ble_eq_true rfl)) dX12_rings_17 ⟨Nat.le_of_ble_eq_true rfl, Nat.le_of_ble_eq_true rfl⟩) hh hA (fun r_1537 H locs en_1537 hw_1537 hh => ?_)
    obtain ⟨hI_1537, hu_1537, hx_1537⟩ := hw_1537
    have es1535_1537 : en_1537 0 = .inr (11, [.int fa, .int hi, .int (nI wd), .int (nI mo), .int (nI tb), .ref (ad 1), .ref (ad 2), .ref (ad 3), .ref (ad 4), .ref (ad 5), .ref (ad 6), .ref (ad 7), .ref (ad 8), .ref (ad 9), .int dp, .long many, .long grt, .long lst, .long nou, .ref (ad 10), .ref (ad 11), .ref (ad 12), .int rm, .long rb, .ref (ad 13), .int pr, .ref (ad 14), .ref (ad 15), .ref (ad 16), .ref (ad 17), .int (nI wo), .ref (ad 18), .ref (ad 19)]) := (hu_1537 0 (by omega)).trans es1535
    have hf_1537 : ∀ c, (c ≠ 0 ∧ c ≠ 6 ∧ c ≠ 7 ∧ c ≠ 8 ∧ c ≠ 9 ∧ c ≠ 12 ∧ c ≠ 13) → en_1537 c = en c := fun c hc => (hu_1537 c (by omega)).trans (hf0 c hc)
    have hkp_1537 : KP en en_1537 := KP_same (KP_rf en) (hu_1537 0 (by omega))
    have hw_1537 := hx_1537
    rcases hw_1537 with hb_1537 | hb_1537
    · obtain rfl : r_1537 = 0 := hb_1537
      refine lv_if_eq (tgt := 26) hx hb dX12_rings_20 (by decide) (fun _ => ?_) (fun c_0 => absurd c_0 (by decide))
      refine lv_aload_n hx hb dX12_rings_26 rfl (lv_at hl 0 rfl) ?_
      refine lv_iload_n hx hb dX12_rings_27 rfl (lv_at hl 1 rfl) ?_
      refine hp_callMv (va_runV (As := [.int (nI N_1536)]) (rest := []) ⟨hx, hb, hml, hown, hts⟩ (c_X12_findRings l D cy _ cs ad en_1537 hI_1537 N_1536 (by omega) (by omega)) (kw_X12_findRings hts tw_1073 ⟨by decide, by decide⟩) (preV_of hh hK (hI.1 _ (by decide)) es1535_1537 rfl) rfl rfl hl.1 rfl (lv_room (Nat.le_of_ble_eq_true rfl)) dX12_rings_28 ⟨Nat.le_of_ble_eq_true rfl, Nat.le_of_ble_eq_true rfl⟩) hh hA (fun H locs en_1538 hw_1538 hh => ?_)
      obtain ⟨hI_1538, hu_1538, hx_1538⟩ := hw_1538
      have hf_1538 : ∀ c, (c ≠ 0 ∧ c ≠ 6 ∧ c ≠ 7 ∧ c ≠ 8 ∧ c ≠ 9 ∧ c ≠ 12 ∧ c ≠ 13) → en_1538 c = en c := fun c hc => (hu_1538 c (by omega)).trans (hf_1537 c hc)
      have hkp_1538 : KP en en_1538 := KP_tr hkp_1537 hx_1538
      refine lv_aload_n hx hb dX12_rings_31 rfl (lv_at hl 0 rfl) ?_
      obtain ⟨fa_1539, hi_1539, wd_1539, mo_1539, tb_1539, dp_1539, many_1539, grt_1539, lst_1539, nou_1539, rm_1539, rb_1539, pr_1539, wo_1539, es1539, p0_1539, p1_1539, p2_1539, p3_1539, p4_1539⟩ := getr_M hI_1538
      have hq2_1540 : wd_1539 = wd := n_eq ((show nI wd_1539 = rdI (en_1538 0) 2 from by rw [es1539]; rfl).trans (hkp_1538.2.1.trans (show rdI (en 0) 2 = nI wd from by rw [es1535]; rfl))) (by omega) (by omega)
      have hq3_1540 : mo_1539 = mo := n_eq ((show nI mo_1539 = rdI (en_1538 0) 3 from by rw [es1539]; rfl).trans (hkp_1538.2.2.1.trans (show rdI (en 0) 3 = nI mo from by rw [es1535]; rfl))) (by omega) (by omega)
      have hq4_1540 : tb_1539 = tb := n_eq ((show nI tb_1539 = rdI (en_1538 0) 4 from by rw [es1539]; rfl).trans (hkp_1538.2.2.2.1.trans (show rdI (en 0) 4 = nI tb from by rw [es1535]; rfl))) (by omega) (by omega)
      have hq30_1540 : wo_1539 = wo := n_eq ((show nI wo_1539 = rdI (en_1538 0) 30 from by rw [es1539]; rfl).trans (hkp_1538.2.2.2.2.2.trans (show rdI (en 0) 30 = nI wo from by rw [es1535]; rfl))) (by omega) (by omega)
      rw [hq2_1540, hq3_1540, hq4_1540, hq30_1540] at es1539
      refine hp_get hx hb hts ix12 hown hK hh (q := 0) rfl (hI.1 _ (by decide)) es1539 rfl 22 (by decide) (hts _ tw_901) (fun _ h9 => h9) rfl dX12_rings_32 ?_
      exact hp_iretM hx hb hr rfl hlocks hh (⟨hI_1538, hf_1538, hkp_1538⟩) dX12_rings_35
    · obtain rfl : r_1537 = 1 := hb_1537
      refine lv_if_eq (tgt := 26) hx hb dX12_rings_20 (by decide) (fun c_0 => absurd c_0 (by decide)) (fun _ => ?_)
      refine lv_bipush (v := (-6)) hx hb dX12_rings_23 (by decide) ?_
      exact hp_iretM hx hb hr rfl hlocks hh (⟨hI_1537, hf_1537, hkp_1537⟩) dX12_rings_25
  · obtain rfl : r_1536 = 0 := Eq.trans hw_1536 (if_neg (fun q => hp_1536 ((wj_32 (by decide) (by decide)).mp q)))
    refine lv_if_ne (tgt := 15) hx hb dX12_rings_9 (by decide) (fun c_0 => absurd c_0 (by decide)) (fun _ => ?_)
    refine lv_bipush (v := (-2)) hx hb dX12_rings_12 (by decide) ?_
    exact hp_iretM hx hb hr rfl hlocks hh (⟨hI, hf0, (KP_rf en)⟩) dX12_rings_14
theorem kw_X12_rings {R : Room} {s : State} {args : Array Value} {own : String} {idx : Nat} (hts : ∀ w ∈ TB, w.before args s = true) (hl : Cond.methodLink own idx yX12_rings ∈ TB) (hR : 4 + 1 ≤ R.frames ∧ 8 + (2 + 11) + 40 * 4 ≤ R.locals) : CallW R s args own RX12 idx yX12_rings cX12_rings 2 (some .int) (Cond.code yX12_rings cX12_rings 2 (some .int) :: TB) (rmN 4) 0 0 1 := cwV 1 hts (TB_V hl tw_1070 tw_1071 tw_9 tw_1072) rfl rfl rfl (by decide +kernel) hR
set_option maxHeartbeats 4000000 in
set_option maxRecDepth 100000 in
/-- X12_ringTrack -/
theorem c_X12_ringTrack (l : Launch) (D : va_G) (cy : Nat → ClassId) (sz : Nat) (cs : List Nat) (ad : Nat → Nat) (en : Nat → va_E) (hI : RX cy cs ad en) (n9 : Int32)   : Met l yX12_ringTrack (Cond.code yX12_ringTrack cX12_ringTrack 2 (some .long) :: TB) (rmN 4) (va_Pc [.ref (ad 0), .int n9] (Pre D cy cs ad en sz)) (va_Ql (S := Nat → va_E) (fun r en1 => RX cy cs ad en1 ∧ (∀ c, (c ≠ 0 ∧ c ≠ 6 ∧ c ≠ 7 ∧ c ≠ 8 ∧ c ≠ 9 ∧ c ≠ 12 ∧ c ≠ 13) → en1 c = en c) ∧ KP en en1) (PostM D cs ad) (Af cs ad sz)) 0 0 (Af cs ad sz) := by
  refine Met.ofW (cc := cX12_ringTrack) (maxL := 2) (ret := (some .long)) (by decide) rfl ?_
  intro p e s m args below meth c s₁ B hml hv
  obtain ⟨rfl, hsz, hP, hK, hD0⟩ := hv
  have hx := B.exec
  have hb := B.bytes
  have hr := B.returns
  have hts : ∀ w ∈ TB, w.before _ s = true := fun w h => atoms_spec (ws := _ :: TB) B.pre w (List.mem_cons_of_mem _ h)
  have hown : s.vm.findClass RX12 = some m.cls := findClass_of_methodNamed B.named
  have hlocks := B.notSynchronized
  have hh : Hp D (Af cs ad sz) (Af cs ad sz) s.heap s.heap [] cs ad en := ⟨hP, Af_self hD0, va_S.rf⟩
  have hA : ∀ q : Nat, s.heap.size ≤ q → Af cs ad sz q := fun q h => Or.inr (by rw [hsz] at h; exact h)
  have hl := lv_entry ([.ref (ad 0), .int n9]) (n := 2) (Nat.le_of_ble_eq_true rfl)
  rw [lg_entry_eq]
  generalize (lg_sl ([.ref (ad 0), .int n9]) ++ List.replicate (2 - (lg_sl ([.ref (ad 0), .int n9])).length) Slot.unset).toArray = ls at hl ⊢
  have hl : lv_has ls 2 [(0, .ref (ad 0)), (1, .int n9)] := hl
  have hf0 : ∀ c, (c ≠ 0 ∧ c ≠ 6 ∧ c ≠ 7 ∧ c ≠ 8 ∧ c ≠ 9 ∧ c ≠ 12 ∧ c ≠ 13) → en c = en c := fun _ _ => rfl
  obtain ⟨fa, hi, wd, mo, tb, dp, many, grt, lst, nou, rm, rb, pr, wo, es1541, hwd2, hwd3, hmo, htb, hwo⟩ := getr_M hI
  refine lv_iload_n hx hb dX12_ringTrack_0 rfl (lv_at hl 1 rfl) ?_
  refine lv_i2l hx hb dX12_ringTrack_1 rfl ?_
  refine lv_lconst (v := 1) hx hb dX12_ringTrack_2 (by decide) ?_
  refine lv_ldc2 hx hb hown (hts _ tw_1024) dX12_ringTrack_3 ?_
  refine hp_callRi (va_runS (As := [.long n9.toInt64, .long 1, .long 8]) (rest := []) ⟨hx, hb, hml, hown, hts⟩ (c_X12_within l D cy _ cs ad en n9.toInt64 1 8) (kw_X12_within hts tw_985 ⟨by decide, by decide⟩) (preS_of hh hK) rfl rfl hl.1 rfl (lv_room (Nat.le_of_ble_eq_true rfl)) dX12_ringTrack_6 ⟨Nat.le_of_ble_eq_true rfl, Nat.le_of_ble_eq_true rfl⟩) hh hA (fun r_1542 H locs hw_1542 hh => ?_)
  rcases Decidable.em (wi n9 1 8) with hp_1542 | hp_1542
  · obtain rfl : r_1542 = 1 := Eq.trans hw_1542 (if_pos ((wj_32 (by decide) (by decide)).mpr hp_1542))
    obtain ⟨N_1542, rfl, hA_1542, hB_1542⟩ := wi_natB hp_1542 1 8 (by decide) (by decide)
    refine lv_if_eq (tgt := 20) hx hb dX12_ringTrack_9 (by decide) (fun c_0 => absurd c_0 (by decide)) (fun _ => ?_)
    refine lv_aload_n hx hb dX12_ringTrack_12 rfl (lv_at hl 0 rfl) ?_
    refine lv_iload_n hx hb dX12_ringTrack_13 rfl (lv_at hl 1 rfl) ?_
    refine hp_callMi (va_runV (As := [.int (nI N_1542)]) (rest := []) ⟨hx, hb, hml, hown, hts⟩ (c_X12_isSpent l D cy _ cs ad en hI N_1542 (by omega)) (kw_X12_isSpent hts tw_1025 ⟨by decide, by decide⟩) (preV_of hh hK (hI.1 _ (by decide)) es1541 rfl) rfl rfl hl.1 rfl (lv_room (Nat.le_of_ble_eq_true rfl)) dX12_ringTrack_14 ⟨Nat.le_of_ble_eq_true rfl, Nat.le_of_ble_eq_true rfl⟩) hh hA (fun r_1543 H locs en_1543 hw_1543 hh => ?_)
    obtain ⟨hI_1543, hu_1543, hx_1543⟩ := hw_1543
    have es1541_1543 : en_1543 0 = .inr (11, [.int fa, .int hi, .int (nI wd), .int (nI mo), .int (nI tb), .ref (ad 1), .ref (ad 2), .ref (ad 3), .ref (ad 4), .ref (ad 5), .ref (ad 6), .ref (ad 7), .ref (ad 8), .ref (ad 9), .int dp, .long many, .long grt, .long lst, .long nou, .ref (ad 10), .ref (ad 11), .ref (ad 12), .int rm, .long rb, .ref (ad 13), .int pr, .ref (ad 14), .ref (ad 15), .ref (ad 16), .ref (ad 17), .int (nI wo), .ref (ad 18), .ref (ad 19)]) := (hu_1543 0 (by omega)).trans es1541
    have hf_1543 : ∀ c, (c ≠ 0 ∧ c ≠ 6 ∧ c ≠ 7 ∧ c ≠ 8 ∧ c ≠ 9 ∧ c ≠ 12 ∧ c ≠ 13) → en_1543 c = en c := fun c hc => (hu_1543 c (by omega)).trans (hf0 c hc)
    have hkp_1543 : KP en en_1543 := KP_same (KP_rf en) (hu_1543 0 (by omega))
    have hw_1543 := hx_1543
    rcases hw_1543 with hb_1543 | hb_1543
    · obtain rfl : r_1543 = 0 := hb_1543
      refine lv_if_eq (tgt := 24) hx hb dX12_ringTrack_17 (by decide) (fun _ => ?_) (fun c_0 => absurd c_0 (by decide))
      refine lv_aload_n hx hb dX12_ringTrack_24 rfl (lv_at hl 0 rfl) ?_
      refine lv_iload_n hx hb dX12_ringTrack_25 rfl (lv_at hl 1 rfl) ?_
      refine hp_callMv (va_runV (As := [.int (nI N_1542)]) (rest := []) ⟨hx, hb, hml, hown, hts⟩ (c_X12_findRings l D cy _ cs ad en_1543 hI_1543 N_1542 (by omega) (by omega)) (kw_X12_findRings hts tw_1073 ⟨by decide, by decide⟩) (preV_of hh hK (hI.1 _ (by decide)) es1541_1543 rfl) rfl rfl hl.1 rfl (lv_room (Nat.le_of_ble_eq_true rfl)) dX12_ringTrack_26 ⟨Nat.le_of_ble_eq_true rfl, Nat.le_of_ble_eq_true rfl⟩) hh hA (fun H locs en_1544 hw_1544 hh => ?_)
      obtain ⟨hI_1544, hu_1544, hx_1544⟩ := hw_1544
      have hf_1544 : ∀ c, (c ≠ 0 ∧ c ≠ 6 ∧ c ≠ 7 ∧ c ≠ 8 ∧ c ≠ 9 ∧ c ≠ 12 ∧ c ≠ 13) → en_1544 c = en c := fun c hc => (hu_1544 c (by omega)).trans (hf_1543 c hc)
      have hkp_1544 : KP en en_1544 := KP_tr hkp_1543 hx_1544
      refine lv_aload_n hx hb dX12_ringTrack_29 rfl (lv_at hl 0 rfl) ?_
      obtain ⟨fa_1545, hi_1545, wd_1545, mo_1545, tb_1545, dp_1545, many_1545, grt_1545, lst_1545, nou_1545, rm_1545, rb_1545, pr_1545, wo_1545, es1545, p0_1545, p1_1545, p2_1545, p3_1545, p4_1545⟩ := getr_M hI_1544
      have hq2_1546 : wd_1545 = wd := n_eq ((show nI wd_1545 = rdI (en_1544 0) 2 from by rw [es1545]; rfl).trans (hkp_1544.2.1.trans (show rdI (en 0) 2 = nI wd from by rw [es1541]; rfl))) (by omega) (by omega)
      have hq3_1546 : mo_1545 = mo := n_eq ((show nI mo_1545 = rdI (en_1544 0) 3 from by rw [es1545]; rfl).trans (hkp_1544.2.2.1.trans (show rdI (en 0) 3 = nI mo from by rw [es1541]; rfl))) (by omega) (by omega)
      have hq4_1546 : tb_1545 = tb := n_eq ((show nI tb_1545 = rdI (en_1544 0) 4 from by rw [es1545]; rfl).trans (hkp_1544.2.2.2.1.trans (show rdI (en 0) 4 = nI tb from by rw [es1541]; rfl))) (by omega) (by omega)
      have hq30_1546 : wo_1545 = wo := n_eq ((show nI wo_1545 = rdI (en_1544 0) 30 from by rw [es1545]; rfl).trans (hkp_1544.2.2.2.2.2.trans (show rdI (en 0) 30 = nI wo from by rw [es1541]; rfl))) (by omega) (by omega)
      rw [hq2_1546, hq3_1546, hq4_1546, hq30_1546] at es1545
      refine hp_get hx hb hts ix12 hown hK hh (q := 0) rfl (hI.1 _ (by decide)) es1545 rfl 22 (by decide) (hts _ tw_901) (fun _ h9 => h9) rfl dX12_ringTrack_30 ?_
      refine lv_if_ne (tgt := 42) hx hb dX12_ringTrack_33 (by decide) (fun c_1547 => ?_) (fun c_1547 => ?_)
      · refine lv_aload_n hx hb dX12_ringTrack_42 rfl (lv_at hl 0 rfl) ?_
        refine hp_get hx hb hts ix12 hown hK hh (q := 0) rfl (hI.1 _ (by decide)) es1545 rfl 23 (by decide) (hts _ tw_902) (fun _ h9 => h9) rfl dX12_ringTrack_43 ?_
        exact hp_lretM hx hb hr hlocks hh (⟨hI_1544, hf_1544, hkp_1544⟩) dX12_ringTrack_46
      · refine lv_ldc2 hx hb hown (hts _ tw_1015) dX12_ringTrack_36 ?_
        refine lv_goto (tgt := 46) hx hb dX12_ringTrack_39 (by decide) ?_
        exact hp_lretM hx hb hr hlocks hh (⟨hI_1544, hf_1544, hkp_1544⟩) dX12_ringTrack_46
    · obtain rfl : r_1543 = 1 := hb_1543
      refine lv_if_eq (tgt := 24) hx hb dX12_ringTrack_17 (by decide) (fun c_0 => absurd c_0 (by decide)) (fun _ => ?_)
      refine lv_ldc2 hx hb hown (hts _ tw_1015) dX12_ringTrack_20 ?_
      exact hp_lretM hx hb hr hlocks hh (⟨hI_1543, hf_1543, hkp_1543⟩) dX12_ringTrack_23
  · obtain rfl : r_1542 = 0 := Eq.trans hw_1542 (if_neg (fun q => hp_1542 ((wj_32 (by decide) (by decide)).mp q)))
    refine lv_if_eq (tgt := 20) hx hb dX12_ringTrack_9 (by decide) (fun _ => ?_) (fun c_0 => absurd c_0 (by decide))
    refine lv_ldc2 hx hb hown (hts _ tw_1015) dX12_ringTrack_20 ?_
    exact hp_lretM hx hb hr hlocks hh (⟨hI, hf0, (KP_rf en)⟩) dX12_ringTrack_23
theorem kw_X12_ringTrack {R : Room} {s : State} {args : Array Value} {own : String} {idx : Nat} (hts : ∀ w ∈ TB, w.before args s = true) (hl : Cond.methodLink own idx yX12_ringTrack ∈ TB) (hR : 4 + 1 ≤ R.frames ∧ 8 + (2 + 11) + 40 * 4 ≤ R.locals) : CallW R s args own RX12 idx yX12_ringTrack cX12_ringTrack 2 (some .long) (Cond.code yX12_ringTrack cX12_ringTrack 2 (some .long) :: TB) (rmN 4) 0 0 1 := cwV 1 hts (TB_V hl tw_1098 tw_1099 tw_9 tw_1100) rfl rfl rfl (by decide +kernel) hR
set_option maxHeartbeats 4000000 in
set_option maxRecDepth 100000 in
/-- X12_ring -/
theorem c_X12_ring (l : Launch) (D : va_G) (cy : Nat → ClassId) (sz : Nat) (cs : List Nat) (ad : Nat → Nat) (en : Nat → va_E) (hI : RX cy cs ad en) (n9 i9 : Int32)   : Met l yX12_ring (Cond.code yX12_ring cX12_ring 3 (some .int) :: TB) (rmN 4) (va_Pc [.ref (ad 0), .int n9, .int i9] (Pre D cy cs ad en sz)) (va_Qi (S := Nat → va_E) (fun r en1 => RX cy cs ad en1 ∧ (∀ c, (c ≠ 0 ∧ c ≠ 6 ∧ c ≠ 7 ∧ c ≠ 8 ∧ c ≠ 9 ∧ c ≠ 12 ∧ c ≠ 13) → en1 c = en c) ∧ KP en en1) (PostM D cs ad) (Af cs ad sz)) 0 0 (Af cs ad sz) := by
  refine Met.ofW (cc := cX12_ring) (maxL := 3) (ret := (some .int)) (by decide) rfl ?_
  intro p e s m args below meth c s₁ B hml hv
  obtain ⟨rfl, hsz, hP, hK, hD0⟩ := hv
  have hx := B.exec
  have hb := B.bytes
  have hr := B.returns
  have hts : ∀ w ∈ TB, w.before _ s = true := fun w h => atoms_spec (ws := _ :: TB) B.pre w (List.mem_cons_of_mem _ h)
  have hown : s.vm.findClass RX12 = some m.cls := findClass_of_methodNamed B.named
  have hlocks := B.notSynchronized
  have hh : Hp D (Af cs ad sz) (Af cs ad sz) s.heap s.heap [] cs ad en := ⟨hP, Af_self hD0, va_S.rf⟩
  have hA : ∀ q : Nat, s.heap.size ≤ q → Af cs ad sz q := fun q h => Or.inr (by rw [hsz] at h; exact h)
  have hl := lv_entry ([.ref (ad 0), .int n9, .int i9]) (n := 3) (Nat.le_of_ble_eq_true rfl)
  rw [lg_entry_eq]
  generalize (lg_sl ([.ref (ad 0), .int n9, .int i9]) ++ List.replicate (3 - (lg_sl ([.ref (ad 0), .int n9, .int i9])).length) Slot.unset).toArray = ls at hl ⊢
  have hl : lv_has ls 3 [(0, .ref (ad 0)), (1, .int n9), (2, .int i9)] := hl
  have hf0 : ∀ c, (c ≠ 0 ∧ c ≠ 6 ∧ c ≠ 7 ∧ c ≠ 8 ∧ c ≠ 9 ∧ c ≠ 12 ∧ c ≠ 13) → en c = en c := fun _ _ => rfl
  obtain ⟨fa, hi, wd, mo, tb, dp, many, grt, lst, nou, rm, rb, pr, wo, es1548, hwd2, hwd3, hmo, htb, hwo⟩ := getr_M hI
  refine lv_iload_n hx hb dX12_ring_0 rfl (lv_at hl 1 rfl) ?_
  refine lv_i2l hx hb dX12_ring_1 rfl ?_
  refine lv_lconst (v := 1) hx hb dX12_ring_2 (by decide) ?_
  refine lv_ldc2 hx hb hown (hts _ tw_1024) dX12_ring_3 ?_
  refine hp_callRi (va_runS (As := [.long n9.toInt64, .long 1, .long 8]) (rest := []) ⟨hx, hb, hml, hown, hts⟩ (c_X12_within l D cy _ cs ad en n9.toInt64 1 8) (kw_X12_within hts tw_985 ⟨by decide, by decide⟩) (preS_of hh hK) rfl rfl hl.1 rfl (lv_room (Nat.le_of_ble_eq_true rfl)) dX12_ring_6 ⟨Nat.le_of_ble_eq_true rfl, Nat.le_of_ble_eq_true rfl⟩) hh hA (fun r_1549 H locs hw_1549 hh => ?_)
  rcases Decidable.em (wi n9 1 8) with hp_1549 | hp_1549
  · obtain rfl : r_1549 = 1 := Eq.trans hw_1549 (if_pos ((wj_32 (by decide) (by decide)).mpr hp_1549))
    obtain ⟨N_1549, rfl, hA_1549, hB_1549⟩ := wi_natB hp_1549 1 8 (by decide) (by decide)
    refine lv_if_eq (tgt := 25) hx hb dX12_ring_9 (by decide) (fun c_0 => absurd c_0 (by decide)) (fun _ => ?_)
    refine lv_iload_n hx hb dX12_ring_12 rfl (lv_at hl 2 rfl) ?_
    refine lv_i2l hx hb dX12_ring_13 rfl ?_
    refine lv_lconst (v := 0) hx hb dX12_ring_14 (by decide) ?_
    refine lv_iload_n hx hb dX12_ring_15 rfl (lv_at hl 1 rfl) ?_
    refine lv_i2l hx hb dX12_ring_16 rfl ?_
    refine lv_lconst (v := 1) hx hb dX12_ring_17 (by decide) ?_
    refine lv_lsub hx hb dX12_ring_18 ?_
    refine hp_callRi (va_runS (As := [.long i9.toInt64, .long 0, .long ((nI N_1549).toInt64 - 1)]) (rest := []) ⟨hx, hb, hml, hown, hts⟩ (c_X12_within l D cy _ cs ad en i9.toInt64 0 ((nI N_1549).toInt64 - 1)) (kw_X12_within hts tw_985 ⟨by decide, by decide⟩) (preS_of hh hK) rfl rfl hl.1 rfl (lv_room (Nat.le_of_ble_eq_true rfl)) dX12_ring_19 ⟨Nat.le_of_ble_eq_true rfl, Nat.le_of_ble_eq_true rfl⟩) hh hA (fun r_1550 H locs hw_1550 hh => ?_)
    rcases Decidable.em (0 ≤ i9.toInt ∧ i9.toInt < (N_1549 : Int)) with hp_1550 | hp_1550
    · obtain rfl : r_1550 = 1 := Eq.trans hw_1550 (if_pos ((wj_m1 (by omega)).mpr hp_1550))
      obtain ⟨N_1550, rfl, hB_1550⟩ := has_nat hp_1550
      refine lv_if_ne (tgt := 28) hx hb dX12_ring_22 (by decide) (fun _ => ?_) (fun c_0 => absurd c_0 (by decide))
      refine lv_aload_n hx hb dX12_ring_28 rfl (lv_at hl 0 rfl) ?_
      refine lv_iload_n hx hb dX12_ring_29 rfl (lv_at hl 1 rfl) ?_
      refine hp_callMi (va_runV (As := [.int (nI N_1549)]) (rest := []) ⟨hx, hb, hml, hown, hts⟩ (c_X12_isSpent l D cy _ cs ad en hI N_1549 (by omega)) (kw_X12_isSpent hts tw_1025 ⟨by decide, by decide⟩) (preV_of hh hK (hI.1 _ (by decide)) es1548 rfl) rfl rfl hl.1 rfl (lv_room (Nat.le_of_ble_eq_true rfl)) dX12_ring_30 ⟨Nat.le_of_ble_eq_true rfl, Nat.le_of_ble_eq_true rfl⟩) hh hA (fun r_1551 H locs en_1551 hw_1551 hh => ?_)
      obtain ⟨hI_1551, hu_1551, hx_1551⟩ := hw_1551
      have es1548_1551 : en_1551 0 = .inr (11, [.int fa, .int hi, .int (nI wd), .int (nI mo), .int (nI tb), .ref (ad 1), .ref (ad 2), .ref (ad 3), .ref (ad 4), .ref (ad 5), .ref (ad 6), .ref (ad 7), .ref (ad 8), .ref (ad 9), .int dp, .long many, .long grt, .long lst, .long nou, .ref (ad 10), .ref (ad 11), .ref (ad 12), .int rm, .long rb, .ref (ad 13), .int pr, .ref (ad 14), .ref (ad 15), .ref (ad 16), .ref (ad 17), .int (nI wo), .ref (ad 18), .ref (ad 19)]) := (hu_1551 0 (by omega)).trans es1548
      have hf_1551 : ∀ c, (c ≠ 0 ∧ c ≠ 6 ∧ c ≠ 7 ∧ c ≠ 8 ∧ c ≠ 9 ∧ c ≠ 12 ∧ c ≠ 13) → en_1551 c = en c := fun c hc => (hu_1551 c (by omega)).trans (hf0 c hc)
      have hkp_1551 : KP en en_1551 := KP_same (KP_rf en) (hu_1551 0 (by omega))
      have hw_1551 := hx_1551
      rcases hw_1551 with hb_1551 | hb_1551
      · obtain rfl : r_1551 = 0 := hb_1551
        refine lv_if_eq (tgt := 39) hx hb dX12_ring_33 (by decide) (fun _ => ?_) (fun c_0 => absurd c_0 (by decide))
        refine lv_aload_n hx hb dX12_ring_39 rfl (lv_at hl 0 rfl) ?_
        refine lv_iload_n hx hb dX12_ring_40 rfl (lv_at hl 1 rfl) ?_
        refine hp_callMv (va_runV (As := [.int (nI N_1549)]) (rest := []) ⟨hx, hb, hml, hown, hts⟩ (c_X12_findRings l D cy _ cs ad en_1551 hI_1551 N_1549 (by omega) (by omega)) (kw_X12_findRings hts tw_1073 ⟨by decide, by decide⟩) (preV_of hh hK (hI.1 _ (by decide)) es1548_1551 rfl) rfl rfl hl.1 rfl (lv_room (Nat.le_of_ble_eq_true rfl)) dX12_ring_41 ⟨Nat.le_of_ble_eq_true rfl, Nat.le_of_ble_eq_true rfl⟩) hh hA (fun H locs en_1552 hw_1552 hh => ?_)
        obtain ⟨hI_1552, hu_1552, hx_1552⟩ := hw_1552
        have hf_1552 : ∀ c, (c ≠ 0 ∧ c ≠ 6 ∧ c ≠ 7 ∧ c ≠ 8 ∧ c ≠ 9 ∧ c ≠ 12 ∧ c ≠ 13) → en_1552 c = en c := fun c hc => (hu_1552 c (by omega)).trans (hf_1551 c hc)
        have hkp_1552 : KP en en_1552 := KP_tr hkp_1551 hx_1552
        refine lv_aload_n hx hb dX12_ring_44 rfl (lv_at hl 0 rfl) ?_
        obtain ⟨fa_1553, hi_1553, wd_1553, mo_1553, tb_1553, dp_1553, many_1553, grt_1553, lst_1553, nou_1553, rm_1553, rb_1553, pr_1553, wo_1553, es1553, p0_1553, p1_1553, p2_1553, p3_1553, p4_1553⟩ := getr_M hI_1552
        have hq2_1554 : wd_1553 = wd := n_eq ((show nI wd_1553 = rdI (en_1552 0) 2 from by rw [es1553]; rfl).trans (hkp_1552.2.1.trans (show rdI (en 0) 2 = nI wd from by rw [es1548]; rfl))) (by omega) (by omega)
        have hq3_1554 : mo_1553 = mo := n_eq ((show nI mo_1553 = rdI (en_1552 0) 3 from by rw [es1553]; rfl).trans (hkp_1552.2.2.1.trans (show rdI (en 0) 3 = nI mo from by rw [es1548]; rfl))) (by omega) (by omega)
        have hq4_1554 : tb_1553 = tb := n_eq ((show nI tb_1553 = rdI (en_1552 0) 4 from by rw [es1553]; rfl).trans (hkp_1552.2.2.2.1.trans (show rdI (en 0) 4 = nI tb from by rw [es1548]; rfl))) (by omega) (by omega)
        have hq30_1554 : wo_1553 = wo := n_eq ((show nI wo_1553 = rdI (en_1552 0) 30 from by rw [es1553]; rfl).trans (hkp_1552.2.2.2.2.2.trans (show rdI (en 0) 30 = nI wo from by rw [es1548]; rfl))) (by omega) (by omega)
        rw [hq2_1554, hq3_1554, hq4_1554, hq30_1554] at es1553
        refine hp_get hx hb hts ix12 hown hK hh (q := 0) rfl (hI.1 _ (by decide)) es1553 rfl 22 (by decide) (hts _ tw_901) (fun _ h9 => h9) rfl dX12_ring_45 ?_
        refine lv_if_ne (tgt := 56) hx hb dX12_ring_48 (by decide) (fun c_1555 => ?_) (fun c_1555 => ?_)
        · refine lv_aload_n hx hb dX12_ring_56 rfl (lv_at hl 0 rfl) ?_
          refine hp_get hx hb hts ix12 hown hK hh (q := 0) rfl (hI.1 _ (by decide)) es1553 rfl 24 (by decide) (hts _ tw_903) (fun _ h9 => h9) rfl dX12_ring_57 ?_
          refine lv_iload_n hx hb dX12_ring_60 rfl (lv_at hl 2 rfl) ?_
          obtain ⟨f_1556, es1556⟩ := getr_rw hI_1552
          refine hp_iald hx hb hK hh (q := 13) rfl (hI.1 _ (by decide)) es1556 (vp_in_nI (n := N_1550) (by omega) (by decide)) dX12_ring_61 ?_
          rw [nI_clamp (n := N_1550) (by omega)]
          exact hp_iretM hx hb hr rfl hlocks hh (⟨hI_1552, hf_1552, hkp_1552⟩) dX12_ring_62
        · refine lv_bipush (v := (-9)) hx hb dX12_ring_51 (by decide) ?_
          refine lv_goto (tgt := 62) hx hb dX12_ring_53 (by decide) ?_
          exact hp_iretM hx hb hr rfl hlocks hh (⟨hI_1552, hf_1552, hkp_1552⟩) dX12_ring_62
      · obtain rfl : r_1551 = 1 := hb_1551
        refine lv_if_eq (tgt := 39) hx hb dX12_ring_33 (by decide) (fun c_0 => absurd c_0 (by decide)) (fun _ => ?_)
        refine lv_bipush (v := (-6)) hx hb dX12_ring_36 (by decide) ?_
        exact hp_iretM hx hb hr rfl hlocks hh (⟨hI_1551, hf_1551, hkp_1551⟩) dX12_ring_38
    · obtain rfl : r_1550 = 0 := Eq.trans hw_1550 (if_neg (fun q => hp_1550 ((wj_m1 (by omega)).mp q)))
      refine lv_if_ne (tgt := 28) hx hb dX12_ring_22 (by decide) (fun c_0 => absurd c_0 (by decide)) (fun _ => ?_)
      refine lv_bipush (v := (-2)) hx hb dX12_ring_25 (by decide) ?_
      exact hp_iretM hx hb hr rfl hlocks hh (⟨hI, hf0, (KP_rf en)⟩) dX12_ring_27
  · obtain rfl : r_1549 = 0 := Eq.trans hw_1549 (if_neg (fun q => hp_1549 ((wj_32 (by decide) (by decide)).mp q)))
    refine lv_if_eq (tgt := 25) hx hb dX12_ring_9 (by decide) (fun _ => ?_) (fun c_0 => absurd c_0 (by decide))
    refine lv_bipush (v := (-2)) hx hb dX12_ring_25 (by decide) ?_
    exact hp_iretM hx hb hr rfl hlocks hh (⟨hI, hf0, (KP_rf en)⟩) dX12_ring_27
theorem kw_X12_ring {R : Room} {s : State} {args : Array Value} {own : String} {idx : Nat} (hts : ∀ w ∈ TB, w.before args s = true) (hl : Cond.methodLink own idx yX12_ring ∈ TB) (hR : 4 + 1 ≤ R.frames ∧ 8 + (3 + 11) + 40 * 4 ≤ R.locals) : CallW R s args own RX12 idx yX12_ring cX12_ring 3 (some .int) (Cond.code yX12_ring cX12_ring 3 (some .int) :: TB) (rmN 4) 0 0 2 := cwV 2 hts (TB_V hl tw_1102 tw_1103 tw_9 tw_1104) rfl rfl rfl (by decide +kernel) hR
set_option maxHeartbeats 4000000 in
set_option maxRecDepth 100000 in
/-- power -/
theorem c_X12_power (l : Launch) (D : va_G) (cy : Nat → ClassId) (sz : Nat) (cs : List Nat) (ad : Nat → Nat) (en : Nat → va_E) (hI : RX cy cs ad en) (v : Int64) (n : Nat) (hn8 : n ≤ 8)   : Met l yX12_power (Cond.code yX12_power cX12_power 6 (some .long) :: TB) (rmN 0) (va_Pc [.long v, .int (nI n)] (Pre D cy cs ad en sz)) (va_Ql (S := Unit) (fun _ _ => True) (fun _ _ => True) (Nf sz)) 0 0 (Nf sz) := by
  refine Met.ofW (cc := cX12_power) (maxL := 6) (ret := (some .long)) (by decide) rfl ?_
  intro p e s m args below meth c s₁ B hml hv
  obtain ⟨rfl, hsz, hP, hK, hD0⟩ := hv
  have hx := B.exec
  have hb := B.bytes
  have hr := B.returns
  have hts : ∀ w ∈ TB, w.before _ s = true := fun w h => atoms_spec (ws := _ :: TB) B.pre w (List.mem_cons_of_mem _ h)
  have hown : s.vm.findClass RX12 = some m.cls := findClass_of_methodNamed B.named
  have hlocks := B.notSynchronized
  have hh : Hp D (Nf sz) (fun _ => True) s.heap s.heap [] cs ad en := ⟨hP, hD0, va_S.rf⟩
  have hA : ∀ q : Nat, s.heap.size ≤ q → Nf sz q := fun q h => by rw [hsz] at h; exact h
  have hl := lv_entry ([.long v, .int (nI n)]) (n := 6) (Nat.le_of_ble_eq_true rfl)
  rw [lg_entry_eq]
  generalize (lg_sl ([.long v, .int (nI n)]) ++ List.replicate (6 - (lg_sl ([.long v, .int (nI n)])).length) Slot.unset).toArray = ls at hl ⊢
  have hl : lv_has ls 6 [(0, .long v), (2, .int (nI n))] := hl
  refine lv_lconst (v := 1) hx hb dX12_power_0 (by decide) ?_
  refine lv_lstore_n (lv' := [(3, .long 1), (0, .long v), (2, .int (nI n))]) hx hb dX12_power_1 rfl hl (by decide) rfl (fun ls hl => ?_)
  refine lv_iconst (v := 0) hx hb dX12_power_2 (by decide) ?_
  refine lv_istore (lv' := [(5, .int 0), (3, .long 1), (0, .long v), (2, .int (nI n))]) hx hb dX12_power_3 hl (by decide) rfl (fun ls hl => ?_)
  have loop_1557 : ∀ (fu j1557 : Nat) (pw1557 : Int64)  (ls : Array Slot) (H : Heap) (locs : List Loc), 0 ≤ j1557 → j1557 ≤ n → n < j1557 + fu →   lv_has ls 6 [(5, .int (nI j1557)), (3, .long pw1557), (0, .long v), (2, .int (nI n))] → Hp D (Nf sz) (fun _ => True) s.heap H locs cs ad en → W p l e (headSpec (Cond.code yX12_power cX12_power 6 (some .long) :: TB) (rmN 0)).room s m ([.long v, .int (nI n)] : List Value).toArray below meth c H locs 0 0 (MQ below (va_Ql (S := Unit) (fun _ _ => True) (fun _ _ => True) (Nf sz)) ([.long v, .int (nI n)] : List Value).toArray s 0 0 (Nf sz)) (F0 m 5 ls []) := by
    intro fu
    induction fu with
    | zero => intro j1557 pw1557 ls H locs h0 h1 h2; exact absurd h2 (by omega)
    | succ fu ih_1557 =>
      intro j1557 pw1557 ls H locs hj0_1557 hj_1557 hfu_1557  hl hh
      refine lv_iload hx hb dX12_power_5 (lv_at hl 0 rfl) ?_
      refine lv_iload_n hx hb dX12_power_7 rfl (lv_at hl 3 rfl) ?_
      refine lv_icmp_ge (tgt := 21) hx hb dX12_power_8 (by decide) (fun c_1558 => ?_) (fun c_1558 => ?_)
      · have n_1558 : n ≤ j1557 := n_le (a := n) (b := j1557) c_1558 (by omega) (by omega)
        refine lv_lload_n hx hb dX12_power_21 rfl (lv_at hl 1 rfl) ?_
        exact hp_lretR hx hb hr hlocks hsz hh (trivial) dX12_power_22
      · have n_1558 : j1557 < n := n_nle (a := n) (b := j1557) c_1558 (by omega) (by omega)
        refine lv_lload_n hx hb dX12_power_11 rfl (lv_at hl 1 rfl) ?_
        refine lv_lload_n hx hb dX12_power_12 rfl (lv_at hl 2 rfl) ?_
        refine lv_lmul hx hb dX12_power_13 ?_
        refine lv_lstore_n (lv' := [(3, .long (pw1557 * v)), (5, .int (nI j1557)), (0, .long v), (2, .int (nI n))]) hx hb dX12_power_14 rfl hl (by decide) rfl (fun ls hl => ?_)
        refine lv_iinc (v := (nI (j1557 + 1))) (lv' := [(5, .int (nI (j1557 + 1))), (3, .long (pw1557 * v)), (0, .long v), (2, .int (nI n))]) hx hb dX12_power_15 hl (k := 1) rfl (nI_1 _) (by decide) rfl (fun ls hl => ?_)
        refine lv_goto (tgt := 5) hx hb dX12_power_18 (by decide) ?_
        exact ih_1557 ((j1557 + 1)) (pw1557 * v) ls H locs (by omega) (by omega) (by omega)  (lv_sub hl [0, 1, 2, 3] rfl) hh
  exact loop_1557 (n + 1) 0 1 ls _ _ (Nat.le_refl _) (by omega) (by omega)  (lv_sub hl [0, 1, 2, 3] rfl) hh
theorem kw_X12_power {R : Room} {s : State} {args : Array Value} {idx : Nat} (hts : ∀ w ∈ TB, w.before args s = true) (hl : Cond.methodLink RX12 idx yX12_power ∈ TB) (hR : 0 + 1 ≤ R.frames ∧ 8 + (6 + 11) + 40 * 0 ≤ R.locals) : CallB R s args RX12 idx yX12_power cX12_power 6 (some .long) (Cond.code yX12_power cX12_power 6 (some .long) :: TB) (rmN 0) 0 0 2 ∧ (Cond.static yX12_power).before args s = true := cwS 2 hts (TB_S hl tw_1111 tw_9 tw_1112) rfl rfl rfl (by decide +kernel) hR
set_option maxHeartbeats 4000000 in
set_option maxRecDepth 100000 in
/-- growth -/
theorem c_X12_growth (l : Launch) (D : va_G) (cy : Nat → ClassId) (sz : Nat) (cs : List Nat) (ad : Nat → Nat) (en : Nat → va_E) (hI : RX cy cs ad en) (a9 b9 n9 : Int32)   : Met l yX12_growth (Cond.code yX12_growth cX12_growth 7 (some .int) :: TB) (rmN 4) (va_Pc [.ref (ad 0), .int a9, .int b9, .int n9] (Pre D cy cs ad en sz)) (va_Qi (S := Nat → va_E) (fun r en1 => RX cy cs ad en1 ∧ (∀ c, (c ≠ 0 ∧ c ≠ 6 ∧ c ≠ 7 ∧ c ≠ 8 ∧ c ≠ 9) → en1 c = en c) ∧ KP en en1) (PostM D cs ad) (Af cs ad sz)) 0 0 (Af cs ad sz) := by
  refine Met.ofW (cc := cX12_growth) (maxL := 7) (ret := (some .int)) (by decide) rfl ?_
  intro p e s m args below meth c s₁ B hml hv
  obtain ⟨rfl, hsz, hP, hK, hD0⟩ := hv
  have hx := B.exec
  have hb := B.bytes
  have hr := B.returns
  have hts : ∀ w ∈ TB, w.before _ s = true := fun w h => atoms_spec (ws := _ :: TB) B.pre w (List.mem_cons_of_mem _ h)
  have hown : s.vm.findClass RX12 = some m.cls := findClass_of_methodNamed B.named
  have hlocks := B.notSynchronized
  have hh : Hp D (Af cs ad sz) (Af cs ad sz) s.heap s.heap [] cs ad en := ⟨hP, Af_self hD0, va_S.rf⟩
  have hA : ∀ q : Nat, s.heap.size ≤ q → Af cs ad sz q := fun q h => Or.inr (by rw [hsz] at h; exact h)
  have hl := lv_entry ([.ref (ad 0), .int a9, .int b9, .int n9]) (n := 7) (Nat.le_of_ble_eq_true rfl)
  rw [lg_entry_eq]
  generalize (lg_sl ([.ref (ad 0), .int a9, .int b9, .int n9]) ++ List.replicate (7 - (lg_sl ([.ref (ad 0), .int a9, .int b9, .int n9])).length) Slot.unset).toArray = ls at hl ⊢
  have hl : lv_has ls 7 [(0, .ref (ad 0)), (1, .int a9), (2, .int b9), (3, .int n9)] := hl
  have hf0 : ∀ c, (c ≠ 0 ∧ c ≠ 6 ∧ c ≠ 7 ∧ c ≠ 8 ∧ c ≠ 9) → en c = en c := fun _ _ => rfl
  obtain ⟨fa, hi, wd, mo, tb, dp, many, grt, lst, nou, rm, rb, pr, wo, es1559, hwd2, hwd3, hmo, htb, hwo⟩ := getr_M hI
  refine lv_iload_n hx hb dX12_growth_0 rfl (lv_at hl 1 rfl) ?_
  refine lv_i2l hx hb dX12_growth_1 rfl ?_
  refine lv_lconst (v := 1) hx hb dX12_growth_2 (by decide) ?_
  refine lv_ldc2 hx hb hown (hts _ tw_1002) dX12_growth_3 ?_
  refine hp_callRi (va_runS (As := [.long a9.toInt64, .long 1, .long 9]) (rest := []) ⟨hx, hb, hml, hown, hts⟩ (c_X12_within l D cy _ cs ad en a9.toInt64 1 9) (kw_X12_within hts tw_985 ⟨by decide, by decide⟩) (preS_of hh hK) rfl rfl hl.1 rfl (lv_room (Nat.le_of_ble_eq_true rfl)) dX12_growth_6 ⟨Nat.le_of_ble_eq_true rfl, Nat.le_of_ble_eq_true rfl⟩) hh hA (fun r_1560 H locs hw_1560 hh => ?_)
  rcases Decidable.em (wi a9 1 9) with hp_1560 | hp_1560
  · obtain rfl : r_1560 = 1 := Eq.trans hw_1560 (if_pos ((wj_32 (by decide) (by decide)).mpr hp_1560))
    obtain ⟨N_1560, rfl, hA_1560, hB_1560⟩ := wi_natB hp_1560 1 9 (by decide) (by decide)
    refine lv_if_eq (tgt := 36) hx hb dX12_growth_9 (by decide) (fun c_0 => absurd c_0 (by decide)) (fun _ => ?_)
    refine lv_iload_n hx hb dX12_growth_12 rfl (lv_at hl 2 rfl) ?_
    refine lv_i2l hx hb dX12_growth_13 rfl ?_
    refine lv_lconst (v := 1) hx hb dX12_growth_14 (by decide) ?_
    refine lv_ldc2 hx hb hown (hts _ tw_1002) dX12_growth_15 ?_
    refine hp_callRi (va_runS (As := [.long b9.toInt64, .long 1, .long 9]) (rest := []) ⟨hx, hb, hml, hown, hts⟩ (c_X12_within l D cy _ cs ad en b9.toInt64 1 9) (kw_X12_within hts tw_985 ⟨by decide, by decide⟩) (preS_of hh hK) rfl rfl hl.1 rfl (lv_room (Nat.le_of_ble_eq_true rfl)) dX12_growth_18 ⟨Nat.le_of_ble_eq_true rfl, Nat.le_of_ble_eq_true rfl⟩) hh hA (fun r_1561 H locs hw_1561 hh => ?_)
    rcases Decidable.em (wi b9 1 9) with hp_1561 | hp_1561
    · obtain rfl : r_1561 = 1 := Eq.trans hw_1561 (if_pos ((wj_32 (by decide) (by decide)).mpr hp_1561))
      obtain ⟨N_1561, rfl, hA_1561, hB_1561⟩ := wi_natB hp_1561 1 9 (by decide) (by decide)
      refine lv_if_eq (tgt := 36) hx hb dX12_growth_21 (by decide) (fun c_0 => absurd c_0 (by decide)) (fun _ => ?_)
      refine lv_iload_n hx hb dX12_growth_24 rfl (lv_at hl 3 rfl) ?_
      refine lv_i2l hx hb dX12_growth_25 rfl ?_
      refine lv_lconst (v := 1) hx hb dX12_growth_26 (by decide) ?_
      refine lv_ldc2 hx hb hown (hts _ tw_1109) dX12_growth_27 ?_
      refine hp_callRi (va_runS (As := [.long n9.toInt64, .long 1, .long 7]) (rest := []) ⟨hx, hb, hml, hown, hts⟩ (c_X12_within l D cy _ cs ad en n9.toInt64 1 7) (kw_X12_within hts tw_985 ⟨by decide, by decide⟩) (preS_of hh hK) rfl rfl hl.1 rfl (lv_room (Nat.le_of_ble_eq_true rfl)) dX12_growth_30 ⟨Nat.le_of_ble_eq_true rfl, Nat.le_of_ble_eq_true rfl⟩) hh hA (fun r_1562 H locs hw_1562 hh => ?_)
      rcases Decidable.em (wi n9 1 7) with hp_1562 | hp_1562
      · obtain rfl : r_1562 = 1 := Eq.trans hw_1562 (if_pos ((wj_32 (by decide) (by decide)).mpr hp_1562))
        obtain ⟨N_1562, rfl, hA_1562, hB_1562⟩ := wi_natB hp_1562 1 7 (by decide) (by decide)
        refine lv_if_ne (tgt := 39) hx hb dX12_growth_33 (by decide) (fun _ => ?_) (fun c_0 => absurd c_0 (by decide))
        refine lv_aload_n hx hb dX12_growth_39 rfl (lv_at hl 0 rfl) ?_
        refine hp_get hx hb hts ix12 hown hK hh (q := 0) rfl (hI.1 _ (by decide)) es1559 rfl 3 (by decide) (hts _ tw_882) (fun _ h9 => h9) rfl dX12_growth_40 ?_
        refine lv_if_gt (tgt := 53) hx hb dX12_growth_43 (by decide) (fun c_1563 => ?_) (fun c_1563 => ?_)
        · have n_1563 : 0 < mo := n_lt (a := 0) (b := mo) c_1563 (by decide) (by omega)
          refine lv_bipush (v := (-3)) hx hb dX12_growth_53 (by decide) ?_
          exact hp_iretM hx hb hr rfl hlocks hh (⟨hI, hf0, (KP_rf en)⟩) dX12_growth_55
        · have n_1563 : mo ≤ 0 := n_nlt (a := 0) (b := mo) c_1563 (by decide) (by omega)
          refine lv_aload_n hx hb dX12_growth_46 rfl (lv_at hl 0 rfl) ?_
          refine hp_get hx hb hts ix12 hown hK hh (q := 0) rfl (hI.1 _ (by decide)) es1559 rfl 4 (by decide) (hts _ tw_883) (fun _ h9 => h9) rfl dX12_growth_47 ?_
          refine lv_if_ne (tgt := 56) hx hb dX12_growth_50 (by decide) (fun c_1564 => ?_) (fun c_1564 => ?_)
          · have n_1564 : tb ≠ 0 := n_neq (a := tb) (b := 0) c_1564 (by omega) (by decide)
            refine lv_iconst (v := 1) hx hb dX12_growth_56 (by decide) ?_
            refine lv_istore (lv' := [(4, .int 1), (0, .ref (ad 0)), (1, .int (nI N_1560)), (2, .int (nI N_1561)), (3, .int (nI N_1562))]) hx hb dX12_growth_57 hl (by decide) rfl (fun ls hl => ?_)
            have loop_1565 : ∀ (fu j1565 : Nat)  (en_1565 : Nat → va_E) (ls : Array Slot) (H : Heap) (locs : List Loc), 1 ≤ j1565 → j1565 ≤ (N_1562 + 1) → (N_1562 + 1) < j1565 + fu → RX cy cs ad en_1565 → (∀ c, (c ≠ 0 ∧ c ≠ 6 ∧ c ≠ 7 ∧ c ≠ 8 ∧ c ≠ 9) → en_1565 c = en c) → (KP en en_1565) → lv_has ls 7 [(4, .int (nI j1565)), (0, .ref (ad 0)), (1, .int (nI N_1560)), (2, .int (nI N_1561)), (3, .int (nI N_1562))] → Hp D (Af cs ad sz) (Af cs ad sz) s.heap H locs cs ad en_1565 → W p l e (headSpec (Cond.code yX12_growth cX12_growth 7 (some .int) :: TB) (rmN 4)).room s m ([.ref (ad 0), .int (nI N_1560), .int (nI N_1561), .int (nI N_1562)] : List Value).toArray below meth c H locs 0 0 (MQ below (va_Qi (S := Nat → va_E) (fun r en1 => RX cy cs ad en1 ∧ (∀ c, (c ≠ 0 ∧ c ≠ 6 ∧ c ≠ 7 ∧ c ≠ 8 ∧ c ≠ 9) → en1 c = en c) ∧ KP en en1) (PostM D cs ad) (Af cs ad sz)) ([.ref (ad 0), .int (nI N_1560), .int (nI N_1561), .int (nI N_1562)] : List Value).toArray s 0 0 (Af cs ad sz)) (F0 m 59 ls []) := by
              intro fu
              induction fu with
              | zero => intro j1565  en_1565 ls H locs h0 h1 h2; exact absurd h2 (by omega)
              | succ fu ih_1565 =>
                intro j1565  en_1565 ls H locs hj0_1565 hj_1565 hfu_1565 hI_1565 hf_1565 i0_1565 hl hh
                refine lv_iload hx hb dX12_growth_59 (lv_at hl 0 rfl) ?_
                refine lv_iload_n hx hb dX12_growth_61 rfl (lv_at hl 4 rfl) ?_
                refine lv_icmp_gt (tgt := 83) hx hb dX12_growth_62 (by decide) (fun c_1566 => ?_) (fun c_1566 => ?_)
                · have n_1566 : N_1562 < j1565 := n_lt (a := N_1562) (b := j1565) c_1566 (by omega) (by omega)
                  refine lv_iconst (v := 0) hx hb dX12_growth_83 (by decide) ?_
                  refine lv_istore (lv' := [(4, .int 0), (0, .ref (ad 0)), (1, .int (nI N_1560)), (2, .int (nI N_1561)), (3, .int (nI N_1562))]) hx hb dX12_growth_84 hl (by decide) rfl (fun ls hl => ?_)
                  refine lv_iconst (v := 1) hx hb dX12_growth_86 (by decide) ?_
                  refine lv_istore (lv' := [(5, .int 1), (4, .int 0), (0, .ref (ad 0)), (1, .int (nI N_1560)), (2, .int (nI N_1561)), (3, .int (nI N_1562))]) hx hb dX12_growth_87 hl (by decide) rfl (fun ls hl => ?_)
                  have loop_1567 : ∀ (fu j1567 : Nat) (be1567 : Int32) (en_1567 : Nat → va_E) (ls : Array Slot) (H : Heap) (locs : List Loc), 1 ≤ j1567 → j1567 ≤ (N_1562 + 1) → (N_1562 + 1) < j1567 + fu → RX cy cs ad en_1567 → (∀ c, (c ≠ 0 ∧ c ≠ 6 ∧ c ≠ 7 ∧ c ≠ 8 ∧ c ≠ 9) → en_1567 c = en c) → (KP en en_1567) → lv_has ls 7 [(5, .int (nI j1567)), (4, .int be1567), (0, .ref (ad 0)), (1, .int (nI N_1560)), (2, .int (nI N_1561)), (3, .int (nI N_1562))] → Hp D (Af cs ad sz) (Af cs ad sz) s.heap H locs cs ad en_1567 → W p l e (headSpec (Cond.code yX12_growth cX12_growth 7 (some .int) :: TB) (rmN 4)).room s m ([.ref (ad 0), .int (nI N_1560), .int (nI N_1561), .int (nI N_1562)] : List Value).toArray below meth c H locs 0 0 (MQ below (va_Qi (S := Nat → va_E) (fun r en1 => RX cy cs ad en1 ∧ (∀ c, (c ≠ 0 ∧ c ≠ 6 ∧ c ≠ 7 ∧ c ≠ 8 ∧ c ≠ 9) → en1 c = en c) ∧ KP en en1) (PostM D cs ad) (Af cs ad sz)) ([.ref (ad 0), .int (nI N_1560), .int (nI N_1561), .int (nI N_1562)] : List Value).toArray s 0 0 (Af cs ad sz)) (F0 m 89 ls []) := by
                    intro fu
                    induction fu with
                    | zero => intro j1567 be1567 en_1567 ls H locs h0 h1 h2; exact absurd h2 (by omega)
                    | succ fu ih_1567 =>
                      intro j1567 be1567 en_1567 ls H locs hj0_1567 hj_1567 hfu_1567 hI_1567 hf_1567 i0_1567 hl hh
                      refine lv_iload hx hb dX12_growth_89 (lv_at hl 0 rfl) ?_
                      refine lv_iload_n hx hb dX12_growth_91 rfl (lv_at hl 5 rfl) ?_
                      refine lv_icmp_gt (tgt := 220) hx hb dX12_growth_92 (by decide) (fun c_1568 => ?_) (fun c_1568 => ?_)
                      · have n_1568 : N_1562 < j1567 := n_lt (a := N_1562) (b := j1567) c_1568 (by omega) (by omega)
                        refine lv_iload hx hb dX12_growth_220 (lv_at hl 1 rfl) ?_
                        refine lv_if_eq (tgt := 229) hx hb dX12_growth_222 (by decide) (fun c_1569 => ?_) (fun c_1569 => ?_)
                        · refine lv_iconst (v := 0) hx hb dX12_growth_229 (by decide) ?_
                          exact hp_iretM hx hb hr rfl hlocks hh (⟨hI_1567, hf_1567, i0_1567⟩) dX12_growth_230
                        · refine lv_iconst (v := (-1)) hx hb dX12_growth_225 (by decide) ?_
                          refine lv_goto (tgt := 230) hx hb dX12_growth_226 (by decide) ?_
                          exact hp_iretM hx hb hr rfl hlocks hh (⟨hI_1567, hf_1567, i0_1567⟩) dX12_growth_230
                      · have n_1568 : j1567 ≤ N_1562 := n_nlt (a := N_1562) (b := j1567) c_1568 (by omega) (by omega)
                        refine lv_iconst (v := 1) hx hb dX12_growth_95 (by decide) ?_
                        refine lv_istore (lv' := [(6, .int 1), (5, .int (nI j1567)), (4, .int be1567), (0, .ref (ad 0)), (1, .int (nI N_1560)), (2, .int (nI N_1561)), (3, .int (nI N_1562))]) hx hb dX12_growth_96 hl (by decide) rfl (fun ls hl => ?_)
                        refine lv_aload_n hx hb dX12_growth_98 rfl (lv_at hl 3 rfl) ?_
                        obtain ⟨fa_1570, hi_1570, wd_1570, mo_1570, tb_1570, dp_1570, many_1570, grt_1570, lst_1570, nou_1570, rm_1570, rb_1570, pr_1570, wo_1570, es1570, p0_1570, p1_1570, p2_1570, p3_1570, p4_1570⟩ := getr_M hI_1567
                        have hq2_1571 : wd_1570 = wd := n_eq ((show nI wd_1570 = rdI (en_1567 0) 2 from by rw [es1570]; rfl).trans (i0_1567.2.1.trans (show rdI (en 0) 2 = nI wd from by rw [es1559]; rfl))) (by omega) (by omega)
                        have hq3_1571 : mo_1570 = mo := n_eq ((show nI mo_1570 = rdI (en_1567 0) 3 from by rw [es1570]; rfl).trans (i0_1567.2.2.1.trans (show rdI (en 0) 3 = nI mo from by rw [es1559]; rfl))) (by omega) (by omega)
                        have hq4_1571 : tb_1570 = tb := n_eq ((show nI tb_1570 = rdI (en_1567 0) 4 from by rw [es1570]; rfl).trans (i0_1567.2.2.2.1.trans (show rdI (en 0) 4 = nI tb from by rw [es1559]; rfl))) (by omega) (by omega)
                        have hq30_1571 : wo_1570 = wo := n_eq ((show nI wo_1570 = rdI (en_1567 0) 30 from by rw [es1570]; rfl).trans (i0_1567.2.2.2.2.2.trans (show rdI (en 0) 30 = nI wo from by rw [es1559]; rfl))) (by omega) (by omega)
                        rw [hq2_1571, hq3_1571, hq4_1571, hq30_1571] at es1570
                        refine hp_callMv (va_runV (As := []) (rest := []) ⟨hx, hb, hml, hown, hts⟩ (c_X12_beginWords l D cy _ cs ad en_1567 hI_1567  ) (kw_X12_beginWords hts tw_1038 ⟨by decide, by decide⟩) (preV_of hh hK (hI.1 _ (by decide)) es1570 rfl) rfl rfl hl.1 rfl (lv_room (Nat.le_of_ble_eq_true rfl)) dX12_growth_99 ⟨Nat.le_of_ble_eq_true rfl, Nat.le_of_ble_eq_true rfl⟩) hh hA (fun H locs en_1572 hw_1572 hh => ?_)
                        obtain ⟨hI_1572, hu_1572, hd0_1572, hg0_1572, hx_1572⟩ := hw_1572
                        have hND_1572 : ND en_1572 j1567 0 0 := ⟨by omega, Or.inl hd0_1572, fun i h => absurd h (Nat.not_lt_zero i), by rw [hg0_1572]; decide, by omega⟩
                        have hf_1572 : ∀ c, (c ≠ 0 ∧ c ≠ 6 ∧ c ≠ 7 ∧ c ≠ 8 ∧ c ≠ 9) → en_1572 c = en c := fun c hc => (hu_1572 c (by omega)).trans (hf_1567 c hc)
                        have hkp_1572 : KP en en_1572 := KP_tr i0_1567 hx_1572
                        have loop_1573 : ∀ (fu mm1573 : Nat) (al1573 : Int32) (d1573 : Nat) (u1573 : Nat) (en_1573 : Nat → va_E) (ls : Array Slot) (H : Heap) (locs : List Loc), mm1573 < fu → RX cy cs ad en_1573 → (∀ c, (c ≠ 0 ∧ c ≠ 6 ∧ c ≠ 7 ∧ c ≠ 8 ∧ c ≠ 9) → en_1573 c = en c) → (ND en_1573 j1567 d1573 u1573) → (134217728 ≤ nmv (rdF (en_1573 7)) d1573 u1573 + mm1573) → (KP en en_1573) → lv_has ls 7 [(6, .int al1573), (5, .int (nI j1567)), (4, .int be1567), (0, .ref (ad 0)), (1, .int (nI N_1560)), (2, .int (nI N_1561)), (3, .int (nI N_1562))] → Hp D (Af cs ad sz) (Af cs ad sz) s.heap H locs cs ad en_1573 → W p l e (headSpec (Cond.code yX12_growth cX12_growth 7 (some .int) :: TB) (rmN 4)).room s m ([.ref (ad 0), .int (nI N_1560), .int (nI N_1561), .int (nI N_1562)] : List Value).toArray below meth c H locs 0 0 (MQ below (va_Qi (S := Nat → va_E) (fun r en1 => RX cy cs ad en1 ∧ (∀ c, (c ≠ 0 ∧ c ≠ 6 ∧ c ≠ 7 ∧ c ≠ 8 ∧ c ≠ 9) → en1 c = en c) ∧ KP en en1) (PostM D cs ad) (Af cs ad sz)) ([.ref (ad 0), .int (nI N_1560), .int (nI N_1561), .int (nI N_1562)] : List Value).toArray s 0 0 (Af cs ad sz)) (F0 m 102 ls []) := by
                          intro fu
                          induction fu with
                          | zero => intro mm1573 al1573 d1573 u1573 en_1573 ls H locs h2; exact absurd h2 (by omega)
                          | succ fu ih_1573 =>
                            intro mm1573 al1573 d1573 u1573 en_1573 ls H locs hmm_1573 hI_1573 hf_1573 i0_1573 i1_1573 i2_1573 hl hh
                            have hlt_1573 := nmv_lt i0_1573.2.2 (by have h9 := i0_1573.1; omega)
                            have hwd_1573 := i0_1573.1
                            refine lv_aload_n hx hb dX12_growth_102 rfl (lv_at hl 3 rfl) ?_
                            refine lv_iload hx hb dX12_growth_103 (lv_at hl 1 rfl) ?_
                            obtain ⟨fa_1574, hi_1574, wd_1574, mo_1574, tb_1574, dp_1574, many_1574, grt_1574, lst_1574, nou_1574, rm_1574, rb_1574, pr_1574, wo_1574, es1574, p0_1574, p1_1574, p2_1574, p3_1574, p4_1574⟩ := getr_M hI_1573
                            have hq2_1575 : wd_1574 = wd := n_eq ((show nI wd_1574 = rdI (en_1573 0) 2 from by rw [es1574]; rfl).trans (i2_1573.2.1.trans (show rdI (en 0) 2 = nI wd from by rw [es1559]; rfl))) (by omega) (by omega)
                            have hq3_1575 : mo_1574 = mo := n_eq ((show nI mo_1574 = rdI (en_1573 0) 3 from by rw [es1574]; rfl).trans (i2_1573.2.2.1.trans (show rdI (en 0) 3 = nI mo from by rw [es1559]; rfl))) (by omega) (by omega)
                            have hq4_1575 : tb_1574 = tb := n_eq ((show nI tb_1574 = rdI (en_1573 0) 4 from by rw [es1574]; rfl).trans (i2_1573.2.2.2.1.trans (show rdI (en 0) 4 = nI tb from by rw [es1559]; rfl))) (by omega) (by omega)
                            have hq30_1575 : wo_1574 = wo := n_eq ((show nI wo_1574 = rdI (en_1573 0) 30 from by rw [es1574]; rfl).trans (i2_1573.2.2.2.2.2.trans (show rdI (en 0) 30 = nI wo from by rw [es1559]; rfl))) (by omega) (by omega)
                            rw [hq2_1575, hq3_1575, hq4_1575, hq30_1575] at es1574
                            refine hp_callMi (va_runV (As := [.int (nI j1567)]) (rest := []) ⟨hx, hb, hml, hown, hts⟩ (c_X12_next l D cy _ cs ad en_1573 hI_1573 j1567 (by omega) (by omega) d1573 u1573 i0_1573) (kw_X12_next hts tw_1046 ⟨by decide, by decide⟩) (preV_of hh hK (hI.1 _ (by decide)) es1574 rfl) rfl rfl hl.1 rfl (lv_room (Nat.le_of_ble_eq_true rfl)) dX12_growth_105 ⟨Nat.le_of_ble_eq_true rfl, Nat.le_of_ble_eq_true rfl⟩) hh hA (fun r_1576 H locs en_1576 hw_1576 hh => ?_)
                            obtain ⟨hI_1576, hu_1576, hx_1576, hkq_1576⟩ := hw_1576
                            have hf_1576 : ∀ c, (c ≠ 0 ∧ c ≠ 6 ∧ c ≠ 7 ∧ c ≠ 8 ∧ c ≠ 9) → en_1576 c = en c := fun c hc => (hu_1576 c (by omega)).trans (hf_1573 c hc)
                            have hkp_1576 : KP en en_1576 := KP_tr i2_1573 hkq_1576
                            rcases hx_1576 with hr_1576 | ⟨hr_1576, u1_1576, hND_1576, hu1_1576, hnm_1576⟩
                            · rw [hr_1576]
                              refine lv_if_eq (tgt := 207) hx hb dX12_growth_108 (by decide) (fun _ => ?_) (fun c_0 => absurd c_0 (by decide))
                              refine lv_iload hx hb dX12_growth_207 (lv_at hl 2 rfl) ?_
                              refine lv_iload hx hb dX12_growth_209 (lv_at hl 0 rfl) ?_
                              refine lv_ior hx hb dX12_growth_211 ?_
                              refine lv_istore (lv' := [(4, .int (be1567 ||| al1573)), (6, .int al1573), (5, .int (nI j1567)), (0, .ref (ad 0)), (1, .int (nI N_1560)), (2, .int (nI N_1561)), (3, .int (nI N_1562))]) hx hb dX12_growth_212 hl (by decide) rfl (fun ls hl => ?_)
                              refine lv_iinc (v := (nI (j1567 + 1))) (lv' := [(5, .int (nI (j1567 + 1))), (4, .int (be1567 ||| al1573)), (6, .int al1573), (0, .ref (ad 0)), (1, .int (nI N_1560)), (2, .int (nI N_1561)), (3, .int (nI N_1562))]) hx hb dX12_growth_214 hl (k := 2) rfl (nI_1 _) (by decide) rfl (fun ls hl => ?_)
                              refine lv_goto (tgt := 89) hx hb dX12_growth_217 (by decide) ?_
                              exact ih_1567 ((j1567 + 1)) (be1567 ||| al1573) en_1576 ls H locs (by omega) (by omega) (by omega) hI_1576 hf_1576 (hkp_1576) (lv_sub hl [0, 1, 3, 4, 5, 6] rfl) hh
                            · rw [hr_1576]
                              have hall_1576 := NW_all hND_1576.2.2 (by omega) hu1_1576
                              refine lv_if_eq (tgt := 207) hx hb dX12_growth_108 (by decide) (fun c_0 => absurd c_0 (by decide)) (fun _ => ?_)
                              have join_1577 : ∀  (en_1577 : Nat → va_E) (ls : Array Slot) (H : Heap) (locs : List Loc), RX cy cs ad en_1577 → (∀ c, (c ≠ 0 ∧ c ≠ 6 ∧ c ≠ 7 ∧ c ≠ 8 ∧ c ≠ 9) → en_1577 c = en c) → KP en en_1577 → SD en_1576 en_1577 → lv_has ls 7 [(6, .int al1573), (5, .int (nI j1567)), (4, .int be1567), (0, .ref (ad 0)), (1, .int (nI N_1560)), (2, .int (nI N_1561)), (3, .int (nI N_1562))] → Hp D (Af cs ad sz) (Af cs ad sz) s.heap H locs cs ad en_1577 → W p l e (headSpec (Cond.code yX12_growth cX12_growth 7 (some .int) :: TB) (rmN 4)).room s m ([.ref (ad 0), .int (nI N_1560), .int (nI N_1561), .int (nI N_1562)] : List Value).toArray below meth c H locs 0 0 (MQ below (va_Qi (S := Nat → va_E) (fun r en1 => RX cy cs ad en1 ∧ (∀ c, (c ≠ 0 ∧ c ≠ 6 ∧ c ≠ 7 ∧ c ≠ 8 ∧ c ≠ 9) → en1 c = en c) ∧ KP en en1) (PostM D cs ad) (Af cs ad sz)) ([.ref (ad 0), .int (nI N_1560), .int (nI N_1561), .int (nI N_1562)] : List Value).toArray s 0 0 (Af cs ad sz)) (F0 m 169 ls []) := by
                                intro  en_1577 ls H locs hI_1577 hf_1577 hkp_1577 hsd_1577  hl hh
                                refine lv_iload hx hb dX12_growth_169 (lv_at hl 0 rfl) ?_
                                refine lv_aload_n hx hb dX12_growth_171 rfl (lv_at hl 3 rfl) ?_
                                refine lv_iload hx hb dX12_growth_172 (lv_at hl 1 rfl) ?_
                                obtain ⟨fa_1578, hi_1578, wd_1578, mo_1578, tb_1578, dp_1578, many_1578, grt_1578, lst_1578, nou_1578, rm_1578, rb_1578, pr_1578, wo_1578, es1578, p0_1578, p1_1578, p2_1578, p3_1578, p4_1578⟩ := getr_M hI_1577
                                have hq2_1579 : wd_1578 = wd := n_eq ((show nI wd_1578 = rdI (en_1577 0) 2 from by rw [es1578]; rfl).trans (hkp_1577.2.1.trans (show rdI (en 0) 2 = nI wd from by rw [es1559]; rfl))) (by omega) (by omega)
                                have hq3_1579 : mo_1578 = mo := n_eq ((show nI mo_1578 = rdI (en_1577 0) 3 from by rw [es1578]; rfl).trans (hkp_1577.2.2.1.trans (show rdI (en 0) 3 = nI mo from by rw [es1559]; rfl))) (by omega) (by omega)
                                have hq4_1579 : tb_1578 = tb := n_eq ((show nI tb_1578 = rdI (en_1577 0) 4 from by rw [es1578]; rfl).trans (hkp_1577.2.2.2.1.trans (show rdI (en 0) 4 = nI tb from by rw [es1559]; rfl))) (by omega) (by omega)
                                have hq30_1579 : wo_1578 = wo := n_eq ((show nI wo_1578 = rdI (en_1577 0) 30 from by rw [es1578]; rfl).trans (hkp_1577.2.2.2.2.2.trans (show rdI (en 0) 30 = nI wo from by rw [es1559]; rfl))) (by omega) (by omega)
                                rw [hq2_1579, hq3_1579, hq4_1579, hq30_1579] at es1578
                                refine hp_callRl (va_runV (As := [.int (nI j1567)]) (rest := [.int al1573]) ⟨hx, hb, hml, hown, hts⟩ (c_X12_normAt l D cy _ cs ad en_1577 hI_1577 j1567 (by omega)) (kw_X12_normAt hts tw_1058 ⟨by decide, by decide⟩) (preV_of hh hK (hI.1 _ (by decide)) es1578 rfl) rfl rfl hl.1 rfl (lv_room (Nat.le_of_ble_eq_true rfl)) dX12_growth_174 ⟨Nat.le_of_ble_eq_true rfl, Nat.le_of_ble_eq_true rfl⟩) hh hA (fun r_1580 H locs hw_1580 hh => ?_)
                                refine lv_iload_n hx hb dX12_growth_177 rfl (lv_at hl 5 rfl) ?_
                                refine lv_i2l hx hb dX12_growth_178 rfl ?_
                                refine lv_iload hx hb dX12_growth_179 (lv_at hl 1 rfl) ?_
                                refine hp_callRl (va_runS (As := [.long ((nI N_1561).toInt64), .int (nI j1567)]) (rest := [.long r_1580, .int al1573]) ⟨hx, hb, hml, hown, hts⟩ (c_X12_power l D cy _ cs ad en_1577 hI_1577 ((nI N_1561).toInt64) j1567 (by omega)) (kw_X12_power hts tw_1110 ⟨by decide, by decide⟩) (preS_of hh hK) rfl rfl hl.1 rfl (lv_room (Nat.le_of_ble_eq_true rfl)) dX12_growth_181 ⟨Nat.le_of_ble_eq_true rfl, Nat.le_of_ble_eq_true rfl⟩) hh hA (fun r_1581 H locs hw_1581 hh => ?_)
                                refine lv_lmul hx hb dX12_growth_184 ?_
                                refine lv_iload_n hx hb dX12_growth_185 rfl (lv_at hl 4 rfl) ?_
                                refine lv_i2l hx hb dX12_growth_186 rfl ?_
                                refine lv_iload hx hb dX12_growth_187 (lv_at hl 1 rfl) ?_
                                refine hp_callRl (va_runS (As := [.long ((nI N_1560).toInt64), .int (nI j1567)]) (rest := [.long (r_1580 * r_1581), .int al1573]) ⟨hx, hb, hml, hown, hts⟩ (c_X12_power l D cy _ cs ad en_1577 hI_1577 ((nI N_1560).toInt64) j1567 (by omega)) (kw_X12_power hts tw_1110 ⟨by decide, by decide⟩) (preS_of hh hK) rfl rfl hl.1 rfl (lv_room (Nat.le_of_ble_eq_true rfl)) dX12_growth_189 ⟨Nat.le_of_ble_eq_true rfl, Nat.le_of_ble_eq_true rfl⟩) hh hA (fun r_1582 H locs hw_1582 hh => ?_)
                                refine W.lcmp hx hb dX12_growth_192 ?_
                                refine lv_if_ge (tgt := 200) hx hb dX12_growth_193 (by decide) (fun c_1583 => ?_) (fun c_1583 => ?_)
                                · refine lv_iconst (v := 0) hx hb dX12_growth_200 (by decide) ?_
                                  refine lv_iand hx hb dX12_growth_201 ?_
                                  refine lv_istore (lv' := [(6, .int (al1573 &&& 0)), (5, .int (nI j1567)), (4, .int be1567), (0, .ref (ad 0)), (1, .int (nI N_1560)), (2, .int (nI N_1561)), (3, .int (nI N_1562))]) hx hb dX12_growth_202 hl (by decide) rfl (fun ls hl => ?_)
                                  refine lv_goto (tgt := 102) hx hb dX12_growth_204 (by decide) ?_
                                  exact ih_1573 (mm1573 - 1) (al1573 &&& 0) (j1567 - 1) u1_1576 en_1577 ls H locs (by omega) hI_1577 hf_1577 (ND_sd hND_1576 hsd_1577) (by rw [hsd_1577.2]; have h1 := hnm_1576; have h2 := i1_1573; omega) (hkp_1577) (lv_sub hl [0, 1, 2, 3, 4, 5, 6] rfl) hh
                                · refine lv_iconst (v := 1) hx hb dX12_growth_196 (by decide) ?_
                                  refine lv_goto (tgt := 201) hx hb dX12_growth_197 (by decide) ?_
                                  refine lv_iand hx hb dX12_growth_201 ?_
                                  refine lv_istore (lv' := [(6, .int (al1573 &&& 1)), (5, .int (nI j1567)), (4, .int be1567), (0, .ref (ad 0)), (1, .int (nI N_1560)), (2, .int (nI N_1561)), (3, .int (nI N_1562))]) hx hb dX12_growth_202 hl (by decide) rfl (fun ls hl => ?_)
                                  refine lv_goto (tgt := 102) hx hb dX12_growth_204 (by decide) ?_
                                  exact ih_1573 (mm1573 - 1) (al1573 &&& 1) (j1567 - 1) u1_1576 en_1577 ls H locs (by omega) hI_1577 hf_1577 (ND_sd hND_1576 hsd_1577) (by rw [hsd_1577.2]; have h1 := hnm_1576; have h2 := i1_1573; omega) (hkp_1577) (lv_sub hl [0, 1, 2, 3, 4, 5, 6] rfl) hh
                              refine lv_aload_n hx hb dX12_growth_111 rfl (lv_at hl 3 rfl) ?_
                              refine lv_aload_n hx hb dX12_growth_112 rfl (lv_at hl 3 rfl) ?_
                              obtain ⟨fa_1584, hi_1584, wd_1584, mo_1584, tb_1584, dp_1584, many_1584, grt_1584, lst_1584, nou_1584, rm_1584, rb_1584, pr_1584, wo_1584, es1584, p0_1584, p1_1584, p2_1584, p3_1584, p4_1584⟩ := getr_M hI_1576
                              have hq2_1585 : wd_1584 = wd := n_eq ((show nI wd_1584 = rdI (en_1576 0) 2 from by rw [es1584]; rfl).trans (hkp_1576.2.1.trans (show rdI (en 0) 2 = nI wd from by rw [es1559]; rfl))) (by omega) (by omega)
                              have hq3_1585 : mo_1584 = mo := n_eq ((show nI mo_1584 = rdI (en_1576 0) 3 from by rw [es1584]; rfl).trans (hkp_1576.2.2.1.trans (show rdI (en 0) 3 = nI mo from by rw [es1559]; rfl))) (by omega) (by omega)
                              have hq4_1585 : tb_1584 = tb := n_eq ((show nI tb_1584 = rdI (en_1576 0) 4 from by rw [es1584]; rfl).trans (hkp_1576.2.2.2.1.trans (show rdI (en 0) 4 = nI tb from by rw [es1559]; rfl))) (by omega) (by omega)
                              have hq30_1585 : wo_1584 = wo := n_eq ((show nI wo_1584 = rdI (en_1576 0) 30 from by rw [es1584]; rfl).trans (hkp_1576.2.2.2.2.2.trans (show rdI (en 0) 30 = nI wo from by rw [es1559]; rfl))) (by omega) (by omega)
                              rw [hq2_1585, hq3_1585, hq4_1585, hq30_1585] at es1584
                              refine hp_get hx hb hts ix12 hown hK hh (q := 0) rfl (hI.1 _ (by decide)) es1584 rfl 11 (by decide) (hts _ tw_890) (fun _ h9 => h9) rfl dX12_growth_113 ?_
                              refine lv_iload hx hb dX12_growth_116 (lv_at hl 1 rfl) ?_
                              refine lv_iconst (v := 1) hx hb dX12_growth_118 (by decide) ?_
                              refine lv_isub hx hb dX12_growth_119 ?_
                              rw [show (1 : Int32) = nI 1 from rfl, pk_sub (a := j1567) (b := 1) (by omega)]
                              obtain ⟨f_1586, es1586⟩ := getr_nw hI_1576
                              refine hp_iald hx hb hK hh (q := 7) rfl (hI.1 _ (by decide)) es1586 (vp_in_nI (n := (j1567 - 1)) (by omega) (by decide)) dX12_growth_120 ?_
                              rw [nI_clamp (n := (j1567 - 1)) (by omega)]
                              obtain ⟨v_1587, hv_1587, hve_1587⟩ := hall_1576 (j1567 - 1) (by omega)
                              rw [show f_1586 (j1567 - 1) = nI v_1587 from (show f_1586 (j1567 - 1) = rdF (en_1576 7) (j1567 - 1) from by rw [← (SD_rf en_1576).2, es1586]; rfl).trans hve_1587]
                              refine lv_aload_n hx hb dX12_growth_121 rfl (lv_at hl 3 rfl) ?_
                              refine hp_get hx hb hts ix12 hown hK hh (q := 0) rfl (hI.1 _ (by decide)) es1584 rfl 11 (by decide) (hts _ tw_890) (fun _ h9 => h9) rfl dX12_growth_122 ?_
                              refine lv_iconst (v := 0) hx hb dX12_growth_125 (by decide) ?_
                              rw [show (0 : Int32) = nI 0 from rfl]
                              refine hp_iald hx hb hK hh (q := 7) rfl (hI.1 _ (by decide)) es1586 (vp_in_nI (n := 0) (by omega) (by decide)) dX12_growth_126 ?_
                              rw [nI_clamp (n := 0) (by omega)]
                              obtain ⟨v_1588, hv_1588, hve_1588⟩ := hall_1576 0 (by omega)
                              rw [show f_1586 0 = nI v_1588 from (show f_1586 0 = rdF (en_1576 7) 0 from by rw [← (SD_rf en_1576).2, es1586]; rfl).trans hve_1588]
                              refine hp_callRi (va_runV (As := [.int (nI v_1587), .int (nI v_1588)]) (rest := []) ⟨hx, hb, hml, hown, hts⟩ (c_X12_mayFollow l D cy _ cs ad en_1576 hI_1576 v_1587 v_1588 (by omega) (by omega)) (kw_X12_mayFollow hts tw_1029 ⟨by decide, by decide⟩) (preV_of hh hK (hI.1 _ (by decide)) es1584 rfl) rfl rfl hl.1 rfl (lv_room (Nat.le_of_ble_eq_true rfl)) dX12_growth_127 ⟨Nat.le_of_ble_eq_true rfl, Nat.le_of_ble_eq_true rfl⟩) hh hA (fun r_1589 H locs hw_1589 hh => ?_)
                              rcases Decidable.em (rdF (en_1576 2) (6 * v_1587 + v_1588) = 0) with hp_1589 | hp_1589
                              · obtain rfl : r_1589 = 1 := Eq.trans hw_1589 (if_pos hp_1589)
                                refine lv_if_eq (tgt := 169) hx hb dX12_growth_130 (by decide) (fun c_0 => absurd c_0 (by decide)) (fun _ => ?_)
                                refine lv_aload_n hx hb dX12_growth_133 rfl (lv_at hl 3 rfl) ?_
                                refine lv_iload hx hb dX12_growth_134 (lv_at hl 1 rfl) ?_
                                refine hp_callRl (va_runV (As := [.int (nI j1567)]) (rest := []) ⟨hx, hb, hml, hown, hts⟩ (c_X12_trackAt l D cy _ cs ad en_1576 hI_1576 j1567 (by omega)) (kw_X12_trackAt hts tw_1093 ⟨by decide, by decide⟩) (preV_of hh hK (hI.1 _ (by decide)) es1584 rfl) rfl rfl hl.1 rfl (lv_room (Nat.le_of_ble_eq_true rfl)) dX12_growth_136 ⟨Nat.le_of_ble_eq_true rfl, Nat.le_of_ble_eq_true rfl⟩) hh hA (fun r_1590 H locs hw_1590 hh => ?_)
                                refine hp_callRl (va_runS (As := [.long r_1590]) (rest := []) ⟨hx, hb, hml, hown, hts⟩ (c_X12_sizeOf l D cy _ cs ad en_1576 hI_1576 r_1590 ) (kw_X12_sizeOf hts tw_1062 ⟨by decide, by decide⟩) (preS_of hh hK) rfl rfl hl.1 rfl (lv_room (Nat.le_of_ble_eq_true rfl)) dX12_growth_139 ⟨Nat.le_of_ble_eq_true rfl, Nat.le_of_ble_eq_true rfl⟩) hh hA (fun r_1591 H locs hw_1591 hh => ?_)
                                obtain rfl : r_1591 = absR r_1590 := hw_1591
                                refine lv_iload_n hx hb dX12_growth_142 rfl (lv_at hl 5 rfl) ?_
                                refine lv_i2l hx hb dX12_growth_143 rfl ?_
                                refine lv_iload hx hb dX12_growth_144 (lv_at hl 1 rfl) ?_
                                refine hp_callRl (va_runS (As := [.long ((nI N_1561).toInt64), .int (nI j1567)]) (rest := [.long (absR r_1590)]) ⟨hx, hb, hml, hown, hts⟩ (c_X12_power l D cy _ cs ad en_1576 hI_1576 ((nI N_1561).toInt64) j1567 (by omega)) (kw_X12_power hts tw_1110 ⟨by decide, by decide⟩) (preS_of hh hK) rfl rfl hl.1 rfl (lv_room (Nat.le_of_ble_eq_true rfl)) dX12_growth_146 ⟨Nat.le_of_ble_eq_true rfl, Nat.le_of_ble_eq_true rfl⟩) hh hA (fun r_1592 H locs hw_1592 hh => ?_)
                                refine lv_lmul hx hb dX12_growth_149 ?_
                                refine lv_aload_n hx hb dX12_growth_150 rfl (lv_at hl 3 rfl) ?_
                                refine hp_get hx hb hts ix12 hown hK hh (q := 0) rfl (hI.1 _ (by decide)) es1584 rfl 2 (by decide) (hts _ tw_881) (fun _ h9 => h9) rfl dX12_growth_151 ?_
                                refine lv_i2l hx hb dX12_growth_154 rfl ?_
                                refine lv_iload_n hx hb dX12_growth_155 rfl (lv_at hl 4 rfl) ?_
                                refine lv_i2l hx hb dX12_growth_156 rfl ?_
                                refine lv_iload hx hb dX12_growth_157 (lv_at hl 1 rfl) ?_
                                refine hp_callRl (va_runS (As := [.long ((nI N_1560).toInt64), .int (nI j1567)]) (rest := [.long ((nI wd).toInt64), .long ((absR r_1590) * r_1592)]) ⟨hx, hb, hml, hown, hts⟩ (c_X12_power l D cy _ cs ad en_1576 hI_1576 ((nI N_1560).toInt64) j1567 (by omega)) (kw_X12_power hts tw_1110 ⟨by decide, by decide⟩) (preS_of hh hK) rfl rfl hl.1 rfl (lv_room (Nat.le_of_ble_eq_true rfl)) dX12_growth_159 ⟨Nat.le_of_ble_eq_true rfl, Nat.le_of_ble_eq_true rfl⟩) hh hA (fun r_1593 H locs hw_1593 hh => ?_)
                                refine lv_lmul hx hb dX12_growth_162 ?_
                                refine W.lcmp hx hb dX12_growth_163 ?_
                                refine lv_if_le (tgt := 169) hx hb dX12_growth_164 (by decide) (fun c_1594 => ?_) (fun c_1594 => ?_)
                                · exact join_1577  en_1576 ls _ _ hI_1576 hf_1576 hkp_1576 (SD_rf en_1576) (lv_sub hl [0, 1, 2, 3, 4, 5, 6] rfl) hh
                                · refine lv_iconst (v := 1) hx hb dX12_growth_167 (by decide) ?_
                                  exact hp_iretM hx hb hr rfl hlocks hh (⟨hI_1576, hf_1576, hkp_1576⟩) dX12_growth_168
                              · obtain rfl : r_1589 = 0 := Eq.trans hw_1589 (if_neg hp_1589)
                                refine lv_if_eq (tgt := 169) hx hb dX12_growth_130 (by decide) (fun _ => ?_) (fun c_0 => absurd c_0 (by decide))
                                exact join_1577  en_1576 ls _ _ hI_1576 hf_1576 hkp_1576 (SD_rf en_1576) (lv_sub hl [0, 1, 2, 3, 4, 5, 6] rfl) hh
                        exact loop_1573 (134217728 + 1) 134217728 1 0 0 en_1572 ls _ _ (by omega) hI_1572 hf_1572 (hND_1572) (by omega) (hkp_1572) (lv_sub hl [0, 1, 2, 3, 4, 5, 6] rfl) hh
                  exact loop_1567 ((N_1562 + 1) + 1) 1 0 en_1565 ls _ _ (Nat.le_refl _) (by omega) (by omega) hI_1565 hf_1565 (i0_1565) (lv_sub hl [0, 1, 2, 3, 4, 5] rfl) hh
                · have n_1566 : j1565 ≤ N_1562 := n_nlt (a := N_1562) (b := j1565) c_1566 (by omega) (by omega)
                  refine lv_aload_n hx hb dX12_growth_65 rfl (lv_at hl 1 rfl) ?_
                  refine lv_iload hx hb dX12_growth_66 (lv_at hl 0 rfl) ?_
                  obtain ⟨fa_1595, hi_1595, wd_1595, mo_1595, tb_1595, dp_1595, many_1595, grt_1595, lst_1595, nou_1595, rm_1595, rb_1595, pr_1595, wo_1595, es1595, p0_1595, p1_1595, p2_1595, p3_1595, p4_1595⟩ := getr_M hI_1565
                  have hq2_1596 : wd_1595 = wd := n_eq ((show nI wd_1595 = rdI (en_1565 0) 2 from by rw [es1595]; rfl).trans (i0_1565.2.1.trans (show rdI (en 0) 2 = nI wd from by rw [es1559]; rfl))) (by omega) (by omega)
                  have hq3_1596 : mo_1595 = mo := n_eq ((show nI mo_1595 = rdI (en_1565 0) 3 from by rw [es1595]; rfl).trans (i0_1565.2.2.1.trans (show rdI (en 0) 3 = nI mo from by rw [es1559]; rfl))) (by omega) (by omega)
                  have hq4_1596 : tb_1595 = tb := n_eq ((show nI tb_1595 = rdI (en_1565 0) 4 from by rw [es1595]; rfl).trans (i0_1565.2.2.2.1.trans (show rdI (en 0) 4 = nI tb from by rw [es1559]; rfl))) (by omega) (by omega)
                  have hq30_1596 : wo_1595 = wo := n_eq ((show nI wo_1595 = rdI (en_1565 0) 30 from by rw [es1595]; rfl).trans (i0_1565.2.2.2.2.2.trans (show rdI (en 0) 30 = nI wo from by rw [es1559]; rfl))) (by omega) (by omega)
                  rw [hq2_1596, hq3_1596, hq4_1596, hq30_1596] at es1595
                  refine hp_callMi (va_runV (As := [.int (nI j1565)]) (rest := []) ⟨hx, hb, hml, hown, hts⟩ (c_X12_isSpent l D cy _ cs ad en_1565 hI_1565 j1565 (by omega)) (kw_X12_isSpent hts tw_1025 ⟨by decide, by decide⟩) (preV_of hh hK (hI.1 _ (by decide)) es1595 rfl) rfl rfl hl.1 rfl (lv_room (Nat.le_of_ble_eq_true rfl)) dX12_growth_68 ⟨Nat.le_of_ble_eq_true rfl, Nat.le_of_ble_eq_true rfl⟩) hh hA (fun r_1597 H locs en_1597 hw_1597 hh => ?_)
                  obtain ⟨hI_1597, hu_1597, hx_1597⟩ := hw_1597
                  have es1595_1597 : en_1597 0 = .inr (11, [.int fa_1595, .int hi_1595, .int (nI wd), .int (nI mo), .int (nI tb), .ref (ad 1), .ref (ad 2), .ref (ad 3), .ref (ad 4), .ref (ad 5), .ref (ad 6), .ref (ad 7), .ref (ad 8), .ref (ad 9), .int dp_1595, .long many_1595, .long grt_1595, .long lst_1595, .long nou_1595, .ref (ad 10), .ref (ad 11), .ref (ad 12), .int rm_1595, .long rb_1595, .ref (ad 13), .int pr_1595, .ref (ad 14), .ref (ad 15), .ref (ad 16), .ref (ad 17), .int (nI wo), .ref (ad 18), .ref (ad 19)]) := (hu_1597 0 (by omega)).trans es1595
                  have hf_1597 : ∀ c, (c ≠ 0 ∧ c ≠ 6 ∧ c ≠ 7 ∧ c ≠ 8 ∧ c ≠ 9) → en_1597 c = en c := fun c hc => (hu_1597 c (by omega)).trans (hf_1565 c hc)
                  have hkp_1597 : KP en en_1597 := KP_same i0_1565 (hu_1597 0 (by omega))
                  have hw_1597 := hx_1597
                  rcases hw_1597 with hb_1597 | hb_1597
                  · obtain rfl : r_1597 = 0 := hb_1597
                    refine lv_if_eq (tgt := 77) hx hb dX12_growth_71 (by decide) (fun _ => ?_) (fun c_0 => absurd c_0 (by decide))
                    refine lv_iinc (v := (nI (j1565 + 1))) (lv' := [(4, .int (nI (j1565 + 1))), (0, .ref (ad 0)), (1, .int (nI N_1560)), (2, .int (nI N_1561)), (3, .int (nI N_1562))]) hx hb dX12_growth_77 hl (k := 0) rfl (nI_1 _) (by decide) rfl (fun ls hl => ?_)
                    refine lv_goto (tgt := 59) hx hb dX12_growth_80 (by decide) ?_
                    exact ih_1565 ((j1565 + 1))  en_1597 ls H locs (by omega) (by omega) (by omega) hI_1597 hf_1597 (hkp_1597) (lv_sub hl [0, 1, 2, 3, 4] rfl) hh
                  · obtain rfl : r_1597 = 1 := hb_1597
                    refine lv_if_eq (tgt := 77) hx hb dX12_growth_71 (by decide) (fun c_0 => absurd c_0 (by decide)) (fun _ => ?_)
                    refine lv_bipush (v := (-6)) hx hb dX12_growth_74 (by decide) ?_
                    exact hp_iretM hx hb hr rfl hlocks hh (⟨hI_1597, hf_1597, hkp_1597⟩) dX12_growth_76
            exact loop_1565 ((N_1562 + 1) + 1) 1  en ls _ _ (Nat.le_refl _) (by omega) (by omega) hI hf0 ((KP_rf en)) (lv_sub hl [0, 1, 2, 3, 4] rfl) hh
          · have n_1564 : tb = 0 := n_eq (a := tb) (b := 0) c_1564 (by omega) (by decide)
            refine lv_bipush (v := (-3)) hx hb dX12_growth_53 (by decide) ?_
            exact hp_iretM hx hb hr rfl hlocks hh (⟨hI, hf0, (KP_rf en)⟩) dX12_growth_55
      · obtain rfl : r_1562 = 0 := Eq.trans hw_1562 (if_neg (fun q => hp_1562 ((wj_32 (by decide) (by decide)).mp q)))
        refine lv_if_ne (tgt := 39) hx hb dX12_growth_33 (by decide) (fun c_0 => absurd c_0 (by decide)) (fun _ => ?_)
        refine lv_bipush (v := (-2)) hx hb dX12_growth_36 (by decide) ?_
        exact hp_iretM hx hb hr rfl hlocks hh (⟨hI, hf0, (KP_rf en)⟩) dX12_growth_38
    · obtain rfl : r_1561 = 0 := Eq.trans hw_1561 (if_neg (fun q => hp_1561 ((wj_32 (by decide) (by decide)).mp q)))
      refine lv_if_eq (tgt := 36) hx hb dX12_growth_21 (by decide) (fun _ => ?_) (fun c_0 => absurd c_0 (by decide))
      refine lv_bipush (v := (-2)) hx hb dX12_growth_36 (by decide) ?_
      exact hp_iretM hx hb hr rfl hlocks hh (⟨hI, hf0, (KP_rf en)⟩) dX12_growth_38
  · obtain rfl : r_1560 = 0 := Eq.trans hw_1560 (if_neg (fun q => hp_1560 ((wj_32 (by decide) (by decide)).mp q)))
    refine lv_if_eq (tgt := 36) hx hb dX12_growth_9 (by decide) (fun _ => ?_) (fun c_0 => absurd c_0 (by decide))
    refine lv_bipush (v := (-2)) hx hb dX12_growth_36 (by decide) ?_
    exact hp_iretM hx hb hr rfl hlocks hh (⟨hI, hf0, (KP_rf en)⟩) dX12_growth_38
theorem kw_X12_growth {R : Room} {s : State} {args : Array Value} {own : String} {idx : Nat} (hts : ∀ w ∈ TB, w.before args s = true) (hl : Cond.methodLink own idx yX12_growth ∈ TB) (hR : 4 + 1 ≤ R.frames ∧ 8 + (7 + 11) + 40 * 4 ≤ R.locals) : CallW R s args own RX12 idx yX12_growth cX12_growth 7 (some .int) (Cond.code yX12_growth cX12_growth 7 (some .int) :: TB) (rmN 4) 0 0 3 := cwV 3 hts (TB_V hl tw_1106 tw_1107 tw_9 tw_1108) rfl rfl rfl (by decide +kernel) hR
