set_option maxHeartbeats 4000000 in
set_option maxRecDepth 100000 in
/-- goThrough -/
theorem c_X12_goThrough (l : Launch) (D : va_G) (cy : Nat → ClassId) (sz : Nat) (cs : List Nat) (ad : Nat → Nat) (en : Nat → va_E) (hI : RX cy cs ad en) (n : Nat) (hn1 : 1 ≤ n) (hn8 : n ≤ 8)   : Met l yX12_goThrough (Cond.code yX12_goThrough cX12_goThrough 5 none :: TB) (rmN 3) (va_Pc [.ref (ad 0), .int (nI n)] (Pre D cy cs ad en sz)) (va_Qv (S := Nat → va_E) (fun en1 => RX cy cs ad en1 ∧ (∀ c, (c ≠ 0 ∧ c ≠ 6 ∧ c ≠ 7 ∧ c ≠ 10 ∧ c ≠ 11) → en1 c = en c) ∧ KP en en1) (PostM D cs ad) (Af cs ad sz)) 0 0 (Af cs ad sz) := by
  refine Met.ofW (cc := cX12_goThrough) (maxL := 5) (ret := none) (by decide) rfl ?_
  intro p e s m args below meth c s₁ B hml hv
  obtain ⟨rfl, hsz, hP, hK, hD0⟩ := hv
  have hx := B.exec
  have hb := B.bytes
  have hr := B.returns
  have hts : ∀ w ∈ TB, w.before _ s = true := fun w h => atoms_spec (ws := _ :: TB) B.pre w (List.mem_cons_of_mem _ h)
  have hown : s.vm.findClass RX12 = some m.cls := findClass_of_methodNamed B.named
  have hlocks := B.notSynchronized
  have hh : Hp D (Af cs ad sz) (Af cs ad sz) s.heap s.heap [] cs ad en := ⟨hP, Af_self hD0, va_S.rf⟩
  have hA : ∀ q : Nat, s.heap.size ≤ q → Af cs ad sz q := fun q h => Or.inr (by rw [hsz] at h; exact h)
  have hl := lv_entry ([.ref (ad 0), .int (nI n)]) (n := 5) (Nat.le_of_ble_eq_true rfl)
  rw [lg_entry_eq]
  generalize (lg_sl ([.ref (ad 0), .int (nI n)]) ++ List.replicate (5 - (lg_sl ([.ref (ad 0), .int (nI n)])).length) Slot.unset).toArray = ls at hl ⊢
  have hl : lv_has ls 5 [(0, .ref (ad 0)), (1, .int (nI n))] := hl
  have hf0 : ∀ c, (c ≠ 0 ∧ c ≠ 6 ∧ c ≠ 7 ∧ c ≠ 10 ∧ c ≠ 11) → en c = en c := fun _ _ => rfl
  obtain ⟨fa, hi, wd, mo, tb, dp, many, grt, lst, nou, rm, rb, pr, wo, es1404, hwd2, hwd3, hmo, htb, hwo⟩ := getr_M hI
  refine lv_aload_n hx hb dX12_goThrough_0 rfl (lv_at hl 0 rfl) ?_
  refine lv_lconst (v := 0) hx hb dX12_goThrough_1 (by decide) ?_
  refine hp_put hx hb hts ix12 tyX12 tyX12_ok nmX12 hown hK hh (q := 0) rfl (hI.1 _ (by decide)) es1404 rfl 15 (by decide) (hts _ tw_894) (fun _ h9 => h9) rfl (ty := .long) (by decide +kernel) rfl rfl (Nat.le_of_ble_eq_true rfl) dX12_goThrough_2 (fun H locs en_1405 hen_1405 hh => ?_)
  have es1404_1405 : en_1405 0 = .inr (11, [.int fa, .int hi, .int (nI wd), .int (nI mo), .int (nI tb), .ref (ad 1), .ref (ad 2), .ref (ad 3), .ref (ad 4), .ref (ad 5), .ref (ad 6), .ref (ad 7), .ref (ad 8), .ref (ad 9), .int dp, .long 0, .long grt, .long lst, .long nou, .ref (ad 10), .ref (ad 11), .ref (ad 12), .int rm, .long rb, .ref (ad 13), .int pr, .ref (ad 14), .ref (ad 15), .ref (ad 16), .ref (ad 17), .int (nI wo), .ref (ad 18), .ref (ad 19)]) := by rw [hen_1405]; exact va_up_self _ _ _
  have hI_1405 : RX cy cs ad en_1405 := by rw [hen_1405]; exact upr_M hI ⟨fa, hi, wd, mo, tb, dp, 0, grt, lst, nou, rm, rb, pr, wo, rfl, hwd2, hwd3, hmo, htb, hwo⟩
  have hf_1405 : ∀ c, (c ≠ 0 ∧ c ≠ 6 ∧ c ≠ 7 ∧ c ≠ 10 ∧ c ≠ 11) → en_1405 c = en c := fun c hc => Eq.trans (show en_1405 c = en c from by rw [hen_1405, va_up_ne _ _ (by omega)]) (hf0 c hc)
  have hkp_1405 : KP en en_1405 := KP_fv (KP_rf en) es1404 es1404_1405 hi (nI wd) (nI mo) (nI tb) pr (nI wo) rfl rfl rfl rfl rfl rfl rfl rfl rfl rfl rfl rfl
  refine lv_aload_n hx hb dX12_goThrough_5 rfl (lv_at hl 0 rfl) ?_
  refine lv_ldc2 hx hb hown (hts _ tw_1015) dX12_goThrough_6 ?_
  refine hp_put hx hb hts ix12 tyX12 tyX12_ok nmX12 hown hK hh (q := 0) rfl (hI.1 _ (by decide)) es1404_1405 rfl 16 (by decide) (hts _ tw_895) (fun _ h9 => h9) rfl (ty := .long) (by decide +kernel) rfl rfl (Nat.le_of_ble_eq_true rfl) dX12_goThrough_9 (fun H locs en_1406 hen_1406 hh => ?_)
  have es1404_1406 : en_1406 0 = .inr (11, [.int fa, .int hi, .int (nI wd), .int (nI mo), .int (nI tb), .ref (ad 1), .ref (ad 2), .ref (ad 3), .ref (ad 4), .ref (ad 5), .ref (ad 6), .ref (ad 7), .ref (ad 8), .ref (ad 9), .int dp, .long 0, .long (-9223372036854775808), .long lst, .long nou, .ref (ad 10), .ref (ad 11), .ref (ad 12), .int rm, .long rb, .ref (ad 13), .int pr, .ref (ad 14), .ref (ad 15), .ref (ad 16), .ref (ad 17), .int (nI wo), .ref (ad 18), .ref (ad 19)]) := by rw [hen_1406]; exact va_up_self _ _ _
  have hI_1406 : RX cy cs ad en_1406 := by rw [hen_1406]; exact upr_M hI_1405 ⟨fa, hi, wd, mo, tb, dp, 0, (-9223372036854775808), lst, nou, rm, rb, pr, wo, rfl, hwd2, hwd3, hmo, htb, hwo⟩
  have hf_1406 : ∀ c, (c ≠ 0 ∧ c ≠ 6 ∧ c ≠ 7 ∧ c ≠ 10 ∧ c ≠ 11) → en_1406 c = en c := fun c hc => Eq.trans (show en_1406 c = en_1405 c from by rw [hen_1406, va_up_ne _ _ (by omega)]) (hf_1405 c hc)
  have hkp_1406 : KP en en_1406 := KP_fv hkp_1405 es1404_1405 es1404_1406 hi (nI wd) (nI mo) (nI tb) pr (nI wo) rfl rfl rfl rfl rfl rfl rfl rfl rfl rfl rfl rfl
  refine lv_aload_n hx hb dX12_goThrough_12 rfl (lv_at hl 0 rfl) ?_
  refine lv_ldc2 hx hb hown (hts _ tw_1015) dX12_goThrough_13 ?_
  refine hp_put hx hb hts ix12 tyX12 tyX12_ok nmX12 hown hK hh (q := 0) rfl (hI.1 _ (by decide)) es1404_1406 rfl 17 (by decide) (hts _ tw_896) (fun _ h9 => h9) rfl (ty := .long) (by decide +kernel) rfl rfl (Nat.le_of_ble_eq_true rfl) dX12_goThrough_16 (fun H locs en_1407 hen_1407 hh => ?_)
  have es1404_1407 : en_1407 0 = .inr (11, [.int fa, .int hi, .int (nI wd), .int (nI mo), .int (nI tb), .ref (ad 1), .ref (ad 2), .ref (ad 3), .ref (ad 4), .ref (ad 5), .ref (ad 6), .ref (ad 7), .ref (ad 8), .ref (ad 9), .int dp, .long 0, .long (-9223372036854775808), .long (-9223372036854775808), .long nou, .ref (ad 10), .ref (ad 11), .ref (ad 12), .int rm, .long rb, .ref (ad 13), .int pr, .ref (ad 14), .ref (ad 15), .ref (ad 16), .ref (ad 17), .int (nI wo), .ref (ad 18), .ref (ad 19)]) := by rw [hen_1407]; exact va_up_self _ _ _
  have hI_1407 : RX cy cs ad en_1407 := by rw [hen_1407]; exact upr_M hI_1406 ⟨fa, hi, wd, mo, tb, dp, 0, (-9223372036854775808), (-9223372036854775808), nou, rm, rb, pr, wo, rfl, hwd2, hwd3, hmo, htb, hwo⟩
  have hf_1407 : ∀ c, (c ≠ 0 ∧ c ≠ 6 ∧ c ≠ 7 ∧ c ≠ 10 ∧ c ≠ 11) → en_1407 c = en c := fun c hc => Eq.trans (show en_1407 c = en_1406 c from by rw [hen_1407, va_up_ne _ _ (by omega)]) (hf_1406 c hc)
  have hkp_1407 : KP en en_1407 := KP_fv hkp_1406 es1404_1406 es1404_1407 hi (nI wd) (nI mo) (nI tb) pr (nI wo) rfl rfl rfl rfl rfl rfl rfl rfl rfl rfl rfl rfl
  refine lv_aload_n hx hb dX12_goThrough_19 rfl (lv_at hl 0 rfl) ?_
  refine lv_lconst (v := 0) hx hb dX12_goThrough_20 (by decide) ?_
  refine hp_put hx hb hts ix12 tyX12 tyX12_ok nmX12 hown hK hh (q := 0) rfl (hI.1 _ (by decide)) es1404_1407 rfl 18 (by decide) (hts _ tw_897) (fun _ h9 => h9) rfl (ty := .long) (by decide +kernel) rfl rfl (Nat.le_of_ble_eq_true rfl) dX12_goThrough_21 (fun H locs en_1408 hen_1408 hh => ?_)
  have es1404_1408 : en_1408 0 = .inr (11, [.int fa, .int hi, .int (nI wd), .int (nI mo), .int (nI tb), .ref (ad 1), .ref (ad 2), .ref (ad 3), .ref (ad 4), .ref (ad 5), .ref (ad 6), .ref (ad 7), .ref (ad 8), .ref (ad 9), .int dp, .long 0, .long (-9223372036854775808), .long (-9223372036854775808), .long 0, .ref (ad 10), .ref (ad 11), .ref (ad 12), .int rm, .long rb, .ref (ad 13), .int pr, .ref (ad 14), .ref (ad 15), .ref (ad 16), .ref (ad 17), .int (nI wo), .ref (ad 18), .ref (ad 19)]) := by rw [hen_1408]; exact va_up_self _ _ _
  have hI_1408 : RX cy cs ad en_1408 := by rw [hen_1408]; exact upr_M hI_1407 ⟨fa, hi, wd, mo, tb, dp, 0, (-9223372036854775808), (-9223372036854775808), 0, rm, rb, pr, wo, rfl, hwd2, hwd3, hmo, htb, hwo⟩
  have hf_1408 : ∀ c, (c ≠ 0 ∧ c ≠ 6 ∧ c ≠ 7 ∧ c ≠ 10 ∧ c ≠ 11) → en_1408 c = en c := fun c hc => Eq.trans (show en_1408 c = en_1407 c from by rw [hen_1408, va_up_ne _ _ (by omega)]) (hf_1407 c hc)
  have hkp_1408 : KP en en_1408 := KP_fv hkp_1407 es1404_1407 es1404_1408 hi (nI wd) (nI mo) (nI tb) pr (nI wo) rfl rfl rfl rfl rfl rfl rfl rfl rfl rfl rfl rfl
  refine lv_aload_n hx hb dX12_goThrough_24 rfl (lv_at hl 0 rfl) ?_
  refine hp_callMv (va_runV (As := []) (rest := []) ⟨hx, hb, hml, hown, hts⟩ (c_X12_beginWords l D cy _ cs ad en_1408 hI_1408  ) (kw_X12_beginWords hts tw_1038 ⟨by decide, by decide⟩) (preV_of hh hK (hI.1 _ (by decide)) es1404_1408 rfl) rfl rfl hl.1 rfl (lv_room (Nat.le_of_ble_eq_true rfl)) dX12_goThrough_25 ⟨Nat.le_of_ble_eq_true rfl, Nat.le_of_ble_eq_true rfl⟩) hh hA (fun H locs en_1409 hw_1409 hh => ?_)
  obtain ⟨hI_1409, hu_1409, hd0_1409, hg0_1409, hx_1409⟩ := hw_1409
  have hND_1409 : ND en_1409 n 0 0 := ⟨by omega, Or.inl hd0_1409, fun i h => absurd h (Nat.not_lt_zero i), by rw [hg0_1409]; decide, by omega⟩
  have hf_1409 : ∀ c, (c ≠ 0 ∧ c ≠ 6 ∧ c ≠ 7 ∧ c ≠ 10 ∧ c ≠ 11) → en_1409 c = en c := fun c hc => (hu_1409 c (by omega)).trans (hf_1408 c hc)
  have hkp_1409 : KP en en_1409 := KP_tr hkp_1408 hx_1409
  have loop_1410 : ∀ (fu mm1410 : Nat)  (d1410 : Nat) (u1410 : Nat) (en_1410 : Nat → va_E) (ls : Array Slot) (H : Heap) (locs : List Loc), mm1410 < fu → RX cy cs ad en_1410 → (∀ c, (c ≠ 0 ∧ c ≠ 6 ∧ c ≠ 7 ∧ c ≠ 10 ∧ c ≠ 11) → en_1410 c = en c) → (ND en_1410 n d1410 u1410) → (134217728 ≤ nmv (rdF (en_1410 7)) d1410 u1410 + mm1410) → (KP en en_1410) → lv_has ls 5 [(0, .ref (ad 0)), (1, .int (nI n))] → Hp D (Af cs ad sz) (Af cs ad sz) s.heap H locs cs ad en_1410 → W p l e (headSpec (Cond.code yX12_goThrough cX12_goThrough 5 none :: TB) (rmN 3)).room s m ([.ref (ad 0), .int (nI n)] : List Value).toArray below meth c H locs 0 0 (MQ below (va_Qv (S := Nat → va_E) (fun en1 => RX cy cs ad en1 ∧ (∀ c, (c ≠ 0 ∧ c ≠ 6 ∧ c ≠ 7 ∧ c ≠ 10 ∧ c ≠ 11) → en1 c = en c) ∧ KP en en1) (PostM D cs ad) (Af cs ad sz)) ([.ref (ad 0), .int (nI n)] : List Value).toArray s 0 0 (Af cs ad sz)) (F0 m 28 ls []) := by
    intro fu
    induction fu with
    | zero => intro mm1410 d1410 u1410 en_1410 ls H locs h2; exact absurd h2 (by omega)
    | succ fu ih_1410 =>
      intro mm1410 d1410 u1410 en_1410 ls H locs hmm_1410 hI_1410 hf_1410 i0_1410 i1_1410 i2_1410 hl hh
      have hlt_1410 := nmv_lt i0_1410.2.2 (by have h9 := i0_1410.1; omega)
      have hwd_1410 := i0_1410.1
      refine lv_aload_n hx hb dX12_goThrough_28 rfl (lv_at hl 0 rfl) ?_
      refine lv_iload_n hx hb dX12_goThrough_29 rfl (lv_at hl 1 rfl) ?_
      obtain ⟨fa_1411, hi_1411, wd_1411, mo_1411, tb_1411, dp_1411, many_1411, grt_1411, lst_1411, nou_1411, rm_1411, rb_1411, pr_1411, wo_1411, es1411, p0_1411, p1_1411, p2_1411, p3_1411, p4_1411⟩ := getr_M hI_1410
      have hq2_1412 : wd_1411 = wd := n_eq ((show nI wd_1411 = rdI (en_1410 0) 2 from by rw [es1411]; rfl).trans (i2_1410.2.1.trans (show rdI (en 0) 2 = nI wd from by rw [es1404]; rfl))) (by omega) (by omega)
      have hq3_1412 : mo_1411 = mo := n_eq ((show nI mo_1411 = rdI (en_1410 0) 3 from by rw [es1411]; rfl).trans (i2_1410.2.2.1.trans (show rdI (en 0) 3 = nI mo from by rw [es1404]; rfl))) (by omega) (by omega)
      have hq4_1412 : tb_1411 = tb := n_eq ((show nI tb_1411 = rdI (en_1410 0) 4 from by rw [es1411]; rfl).trans (i2_1410.2.2.2.1.trans (show rdI (en 0) 4 = nI tb from by rw [es1404]; rfl))) (by omega) (by omega)
      have hq30_1412 : wo_1411 = wo := n_eq ((show nI wo_1411 = rdI (en_1410 0) 30 from by rw [es1411]; rfl).trans (i2_1410.2.2.2.2.2.trans (show rdI (en 0) 30 = nI wo from by rw [es1404]; rfl))) (by omega) (by omega)
      rw [hq2_1412, hq3_1412, hq4_1412, hq30_1412] at es1411
      refine hp_callMi (va_runV (As := [.int (nI n)]) (rest := []) ⟨hx, hb, hml, hown, hts⟩ (c_X12_next l D cy _ cs ad en_1410 hI_1410 n (by omega) (by omega) d1410 u1410 i0_1410) (kw_X12_next hts tw_1046 ⟨by decide, by decide⟩) (preV_of hh hK (hI.1 _ (by decide)) es1411 rfl) rfl rfl hl.1 rfl (lv_room (Nat.le_of_ble_eq_true rfl)) dX12_goThrough_30 ⟨Nat.le_of_ble_eq_true rfl, Nat.le_of_ble_eq_true rfl⟩) hh hA (fun r_1413 H locs en_1413 hw_1413 hh => ?_)
      obtain ⟨hI_1413, hu_1413, hx_1413, hkq_1413⟩ := hw_1413
      have hf_1413 : ∀ c, (c ≠ 0 ∧ c ≠ 6 ∧ c ≠ 7 ∧ c ≠ 10 ∧ c ≠ 11) → en_1413 c = en c := fun c hc => (hu_1413 c (by omega)).trans (hf_1410 c hc)
      have hkp_1413 : KP en en_1413 := KP_tr i2_1410 hkq_1413
      rcases hx_1413 with hr_1413 | ⟨hr_1413, u1_1413, hND_1413, hu1_1413, hnm_1413⟩
      · rw [hr_1413]
        refine lv_if_eq (tgt := 179) hx hb dX12_goThrough_33 (by decide) (fun _ => ?_) (fun c_0 => absurd c_0 (by decide))
        exact hp_vretM hx hb hr hlocks hh (⟨hI_1413, hf_1413, hkp_1413⟩) dX12_goThrough_179
      · rw [hr_1413]
        have hall_1413 := NW_all hND_1413.2.2 (by omega) hu1_1413
        refine lv_if_eq (tgt := 179) hx hb dX12_goThrough_33 (by decide) (fun c_0 => absurd c_0 (by decide)) (fun _ => ?_)
        refine lv_aload_n hx hb dX12_goThrough_36 rfl (lv_at hl 0 rfl) ?_
        refine lv_iload_n hx hb dX12_goThrough_37 rfl (lv_at hl 1 rfl) ?_
        obtain ⟨fa_1414, hi_1414, wd_1414, mo_1414, tb_1414, dp_1414, many_1414, grt_1414, lst_1414, nou_1414, rm_1414, rb_1414, pr_1414, wo_1414, es1414, p0_1414, p1_1414, p2_1414, p3_1414, p4_1414⟩ := getr_M hI_1413
        have hq2_1415 : wd_1414 = wd := n_eq ((show nI wd_1414 = rdI (en_1413 0) 2 from by rw [es1414]; rfl).trans (hkp_1413.2.1.trans (show rdI (en 0) 2 = nI wd from by rw [es1404]; rfl))) (by omega) (by omega)
        have hq3_1415 : mo_1414 = mo := n_eq ((show nI mo_1414 = rdI (en_1413 0) 3 from by rw [es1414]; rfl).trans (hkp_1413.2.2.1.trans (show rdI (en 0) 3 = nI mo from by rw [es1404]; rfl))) (by omega) (by omega)
        have hq4_1415 : tb_1414 = tb := n_eq ((show nI tb_1414 = rdI (en_1413 0) 4 from by rw [es1414]; rfl).trans (hkp_1413.2.2.2.1.trans (show rdI (en 0) 4 = nI tb from by rw [es1404]; rfl))) (by omega) (by omega)
        have hq30_1415 : wo_1414 = wo := n_eq ((show nI wo_1414 = rdI (en_1413 0) 30 from by rw [es1414]; rfl).trans (hkp_1413.2.2.2.2.2.trans (show rdI (en 0) 30 = nI wo from by rw [es1404]; rfl))) (by omega) (by omega)
        rw [hq2_1415, hq3_1415, hq4_1415, hq30_1415] at es1414
        refine hp_callRl (va_runV (As := [.int (nI n)]) (rest := []) ⟨hx, hb, hml, hown, hts⟩ (c_X12_normAt l D cy _ cs ad en_1413 hI_1413 n (by omega)) (kw_X12_normAt hts tw_1058 ⟨by decide, by decide⟩) (preV_of hh hK (hI.1 _ (by decide)) es1414 rfl) rfl rfl hl.1 rfl (lv_room (Nat.le_of_ble_eq_true rfl)) dX12_goThrough_38 ⟨Nat.le_of_ble_eq_true rfl, Nat.le_of_ble_eq_true rfl⟩) hh hA (fun r_1416 H locs hw_1416 hh => ?_)
        refine lv_lstore_n (lv' := [(2, .long r_1416), (0, .ref (ad 0)), (1, .int (nI n))]) hx hb dX12_goThrough_41 rfl hl (by decide) rfl (fun ls hl => ?_)
        have join_1417 : ∀  (en_1417 : Nat → va_E) (ls : Array Slot) (H : Heap) (locs : List Loc), RX cy cs ad en_1417 → (∀ c, (c ≠ 0 ∧ c ≠ 6 ∧ c ≠ 7 ∧ c ≠ 10 ∧ c ≠ 11) → en_1417 c = en c) → KP en en_1417 → SD en_1413 en_1417 → lv_has ls 5 [(2, .long r_1416), (0, .ref (ad 0)), (1, .int (nI n))] → Hp D (Af cs ad sz) (Af cs ad sz) s.heap H locs cs ad en_1417 → W p l e (headSpec (Cond.code yX12_goThrough cX12_goThrough 5 none :: TB) (rmN 3)).room s m ([.ref (ad 0), .int (nI n)] : List Value).toArray below meth c H locs 0 0 (MQ below (va_Qv (S := Nat → va_E) (fun en1 => RX cy cs ad en1 ∧ (∀ c, (c ≠ 0 ∧ c ≠ 6 ∧ c ≠ 7 ∧ c ≠ 10 ∧ c ≠ 11) → en1 c = en c) ∧ KP en en1) (PostM D cs ad) (Af cs ad sz)) ([.ref (ad 0), .int (nI n)] : List Value).toArray s 0 0 (Af cs ad sz)) (F0 m 94 ls []) := by
          intro  en_1417 ls H locs hI_1417 hf_1417 hkp_1417 hsd_1417  hl hh
          have join_1418 : ∀  (en_1418 : Nat → va_E) (ls : Array Slot) (H : Heap) (locs : List Loc), RX cy cs ad en_1418 → (∀ c, (c ≠ 0 ∧ c ≠ 6 ∧ c ≠ 7 ∧ c ≠ 10 ∧ c ≠ 11) → en_1418 c = en c) → KP en en_1418 → SD en_1413 en_1418 → lv_has ls 5 [(2, .long r_1416), (0, .ref (ad 0)), (1, .int (nI n))] → Hp D (Af cs ad sz) (Af cs ad sz) s.heap H locs cs ad en_1418 → W p l e (headSpec (Cond.code yX12_goThrough cX12_goThrough 5 none :: TB) (rmN 3)).room s m ([.ref (ad 0), .int (nI n)] : List Value).toArray below meth c H locs 0 0 (MQ below (va_Qv (S := Nat → va_E) (fun en1 => RX cy cs ad en1 ∧ (∀ c, (c ≠ 0 ∧ c ≠ 6 ∧ c ≠ 7 ∧ c ≠ 10 ∧ c ≠ 11) → en1 c = en c) ∧ KP en en1) (PostM D cs ad) (Af cs ad sz)) ([.ref (ad 0), .int (nI n)] : List Value).toArray s 0 0 (Af cs ad sz)) (F0 m 146 ls []) := by
            intro  en_1418 ls H locs hI_1418 hf_1418 hkp_1418 hsd_1418  hl hh
            refine lv_aload_n hx hb dX12_goThrough_146 rfl (lv_at hl 1 rfl) ?_
            refine lv_dup hx hb dX12_goThrough_147 rfl ?_
            obtain ⟨fa_1419, hi_1419, wd_1419, mo_1419, tb_1419, dp_1419, many_1419, grt_1419, lst_1419, nou_1419, rm_1419, rb_1419, pr_1419, wo_1419, es1419, p0_1419, p1_1419, p2_1419, p3_1419, p4_1419⟩ := getr_M hI_1418
            have hq2_1420 : wd_1419 = wd := n_eq ((show nI wd_1419 = rdI (en_1418 0) 2 from by rw [es1419]; rfl).trans (hkp_1418.2.1.trans (show rdI (en 0) 2 = nI wd from by rw [es1404]; rfl))) (by omega) (by omega)
            have hq3_1420 : mo_1419 = mo := n_eq ((show nI mo_1419 = rdI (en_1418 0) 3 from by rw [es1419]; rfl).trans (hkp_1418.2.2.1.trans (show rdI (en 0) 3 = nI mo from by rw [es1404]; rfl))) (by omega) (by omega)
            have hq4_1420 : tb_1419 = tb := n_eq ((show nI tb_1419 = rdI (en_1418 0) 4 from by rw [es1419]; rfl).trans (hkp_1418.2.2.2.1.trans (show rdI (en 0) 4 = nI tb from by rw [es1404]; rfl))) (by omega) (by omega)
            have hq30_1420 : wo_1419 = wo := n_eq ((show nI wo_1419 = rdI (en_1418 0) 30 from by rw [es1419]; rfl).trans (hkp_1418.2.2.2.2.2.trans (show rdI (en 0) 30 = nI wo from by rw [es1404]; rfl))) (by omega) (by omega)
            rw [hq2_1420, hq3_1420, hq4_1420, hq30_1420] at es1419
            refine hp_get hx hb hts ix12 hown hK hh (q := 0) rfl (hI.1 _ (by decide)) es1419 rfl 18 (by decide) (hts _ tw_897) (fun _ h9 => h9) rfl dX12_goThrough_148 ?_
            refine lv_lload_n hx hb dX12_goThrough_151 rfl (lv_at hl 0 rfl) ?_
            refine lv_lconst (v := 0) hx hb dX12_goThrough_152 (by decide) ?_
            refine W.lcmp hx hb dX12_goThrough_153 ?_
            refine lv_if_ne (tgt := 161) hx hb dX12_goThrough_154 (by decide) (fun c_1421 => ?_) (fun c_1421 => ?_)
            · refine lv_lconst (v := 0) hx hb dX12_goThrough_161 (by decide) ?_
              refine lv_ladd hx hb dX12_goThrough_162 ?_
              refine hp_put hx hb hts ix12 tyX12 tyX12_ok nmX12 hown hK hh (q := 0) rfl (hI.1 _ (by decide)) es1419 rfl 18 (by decide) (hts _ tw_897) (fun _ h9 => h9) rfl (ty := .long) (by decide +kernel) rfl rfl (Nat.le_of_ble_eq_true rfl) dX12_goThrough_163 (fun H locs en_1422 hen_1422 hh => ?_)
              have es1419_1422 : en_1422 0 = .inr (11, [.int fa_1419, .int hi_1419, .int (nI wd), .int (nI mo), .int (nI tb), .ref (ad 1), .ref (ad 2), .ref (ad 3), .ref (ad 4), .ref (ad 5), .ref (ad 6), .ref (ad 7), .ref (ad 8), .ref (ad 9), .int dp_1419, .long many_1419, .long grt_1419, .long lst_1419, .long (nou_1419 + 0), .ref (ad 10), .ref (ad 11), .ref (ad 12), .int rm_1419, .long rb_1419, .ref (ad 13), .int pr_1419, .ref (ad 14), .ref (ad 15), .ref (ad 16), .ref (ad 17), .int (nI wo), .ref (ad 18), .ref (ad 19)]) := by rw [hen_1422]; exact va_up_self _ _ _
              have hI_1422 : RX cy cs ad en_1422 := by rw [hen_1422]; exact upr_M hI_1418 ⟨fa_1419, hi_1419, wd, mo, tb, dp_1419, many_1419, grt_1419, lst_1419, (nou_1419 + 0), rm_1419, rb_1419, pr_1419, wo, rfl, hwd2, hwd3, hmo, htb, hwo⟩
              have hf_1422 : ∀ c, (c ≠ 0 ∧ c ≠ 6 ∧ c ≠ 7 ∧ c ≠ 10 ∧ c ≠ 11) → en_1422 c = en c := fun c hc => Eq.trans (show en_1422 c = en_1418 c from by rw [hen_1422, va_up_ne _ _ (by omega)]) (hf_1418 c hc)
              have hkp_1422 : KP en en_1422 := KP_fv hkp_1418 es1419 es1419_1422 hi_1419 (nI wd) (nI mo) (nI tb) pr_1419 (nI wo) rfl rfl rfl rfl rfl rfl rfl rfl rfl rfl rfl rfl
              have hsd_1422 : SD en_1413 en_1422 := SD_fv hsd_1418 es1419 es1419_1422 (show en_1422 7 = en_1418 7 from by rw [hen_1422, va_up_ne _ _ (by decide)]) dp_1419 rfl rfl
              refine lv_aload_n hx hb dX12_goThrough_166 rfl (lv_at hl 1 rfl) ?_
              refine lv_dup hx hb dX12_goThrough_167 rfl ?_
              refine hp_get hx hb hts ix12 hown hK hh (q := 0) rfl (hI.1 _ (by decide)) es1419_1422 rfl 15 (by decide) (hts _ tw_894) (fun _ h9 => h9) rfl dX12_goThrough_168 ?_
              refine lv_lconst (v := 1) hx hb dX12_goThrough_171 (by decide) ?_
              refine lv_ladd hx hb dX12_goThrough_172 ?_
              refine hp_put hx hb hts ix12 tyX12 tyX12_ok nmX12 hown hK hh (q := 0) rfl (hI.1 _ (by decide)) es1419_1422 rfl 15 (by decide) (hts _ tw_894) (fun _ h9 => h9) rfl (ty := .long) (by decide +kernel) rfl rfl (Nat.le_of_ble_eq_true rfl) dX12_goThrough_173 (fun H locs en_1423 hen_1423 hh => ?_)
              have es1419_1423 : en_1423 0 = .inr (11, [.int fa_1419, .int hi_1419, .int (nI wd), .int (nI mo), .int (nI tb), .ref (ad 1), .ref (ad 2), .ref (ad 3), .ref (ad 4), .ref (ad 5), .ref (ad 6), .ref (ad 7), .ref (ad 8), .ref (ad 9), .int dp_1419, .long (many_1419 + 1), .long grt_1419, .long lst_1419, .long (nou_1419 + 0), .ref (ad 10), .ref (ad 11), .ref (ad 12), .int rm_1419, .long rb_1419, .ref (ad 13), .int pr_1419, .ref (ad 14), .ref (ad 15), .ref (ad 16), .ref (ad 17), .int (nI wo), .ref (ad 18), .ref (ad 19)]) := by rw [hen_1423]; exact va_up_self _ _ _
              have hI_1423 : RX cy cs ad en_1423 := by rw [hen_1423]; exact upr_M hI_1422 ⟨fa_1419, hi_1419, wd, mo, tb, dp_1419, (many_1419 + 1), grt_1419, lst_1419, (nou_1419 + 0), rm_1419, rb_1419, pr_1419, wo, rfl, hwd2, hwd3, hmo, htb, hwo⟩
              have hf_1423 : ∀ c, (c ≠ 0 ∧ c ≠ 6 ∧ c ≠ 7 ∧ c ≠ 10 ∧ c ≠ 11) → en_1423 c = en c := fun c hc => Eq.trans (show en_1423 c = en_1422 c from by rw [hen_1423, va_up_ne _ _ (by omega)]) (hf_1422 c hc)
              have hkp_1423 : KP en en_1423 := KP_fv hkp_1422 es1419_1422 es1419_1423 hi_1419 (nI wd) (nI mo) (nI tb) pr_1419 (nI wo) rfl rfl rfl rfl rfl rfl rfl rfl rfl rfl rfl rfl
              have hsd_1423 : SD en_1413 en_1423 := SD_fv hsd_1422 es1419_1422 es1419_1423 (show en_1423 7 = en_1422 7 from by rw [hen_1423, va_up_ne _ _ (by decide)]) dp_1419 rfl rfl
              refine lv_goto (tgt := 28) hx hb dX12_goThrough_176 (by decide) ?_
              exact ih_1410 (mm1410 - 1) (n - 1) u1_1413 en_1423 ls H locs (by omega) hI_1423 hf_1423 (ND_sd hND_1413 hsd_1423) (by rw [hsd_1423.2]; have h1 := hnm_1413; have h2 := i1_1410; omega) (hkp_1423) (lv_sub hl [1, 2] rfl) hh
            · refine lv_lconst (v := 1) hx hb dX12_goThrough_157 (by decide) ?_
              refine lv_goto (tgt := 162) hx hb dX12_goThrough_158 (by decide) ?_
              refine lv_ladd hx hb dX12_goThrough_162 ?_
              refine hp_put hx hb hts ix12 tyX12 tyX12_ok nmX12 hown hK hh (q := 0) rfl (hI.1 _ (by decide)) es1419 rfl 18 (by decide) (hts _ tw_897) (fun _ h9 => h9) rfl (ty := .long) (by decide +kernel) rfl rfl (Nat.le_of_ble_eq_true rfl) dX12_goThrough_163 (fun H locs en_1424 hen_1424 hh => ?_)
              have es1419_1424 : en_1424 0 = .inr (11, [.int fa_1419, .int hi_1419, .int (nI wd), .int (nI mo), .int (nI tb), .ref (ad 1), .ref (ad 2), .ref (ad 3), .ref (ad 4), .ref (ad 5), .ref (ad 6), .ref (ad 7), .ref (ad 8), .ref (ad 9), .int dp_1419, .long many_1419, .long grt_1419, .long lst_1419, .long (nou_1419 + 1), .ref (ad 10), .ref (ad 11), .ref (ad 12), .int rm_1419, .long rb_1419, .ref (ad 13), .int pr_1419, .ref (ad 14), .ref (ad 15), .ref (ad 16), .ref (ad 17), .int (nI wo), .ref (ad 18), .ref (ad 19)]) := by rw [hen_1424]; exact va_up_self _ _ _
              have hI_1424 : RX cy cs ad en_1424 := by rw [hen_1424]; exact upr_M hI_1418 ⟨fa_1419, hi_1419, wd, mo, tb, dp_1419, many_1419, grt_1419, lst_1419, (nou_1419 + 1), rm_1419, rb_1419, pr_1419, wo, rfl, hwd2, hwd3, hmo, htb, hwo⟩
              have hf_1424 : ∀ c, (c ≠ 0 ∧ c ≠ 6 ∧ c ≠ 7 ∧ c ≠ 10 ∧ c ≠ 11) → en_1424 c = en c := fun c hc => Eq.trans (show en_1424 c = en_1418 c from by rw [hen_1424, va_up_ne _ _ (by omega)]) (hf_1418 c hc)
              have hkp_1424 : KP en en_1424 := KP_fv hkp_1418 es1419 es1419_1424 hi_1419 (nI wd) (nI mo) (nI tb) pr_1419 (nI wo) rfl rfl rfl rfl rfl rfl rfl rfl rfl rfl rfl rfl
              have hsd_1424 : SD en_1413 en_1424 := SD_fv hsd_1418 es1419 es1419_1424 (show en_1424 7 = en_1418 7 from by rw [hen_1424, va_up_ne _ _ (by decide)]) dp_1419 rfl rfl
              refine lv_aload_n hx hb dX12_goThrough_166 rfl (lv_at hl 1 rfl) ?_
              refine lv_dup hx hb dX12_goThrough_167 rfl ?_
              refine hp_get hx hb hts ix12 hown hK hh (q := 0) rfl (hI.1 _ (by decide)) es1419_1424 rfl 15 (by decide) (hts _ tw_894) (fun _ h9 => h9) rfl dX12_goThrough_168 ?_
              refine lv_lconst (v := 1) hx hb dX12_goThrough_171 (by decide) ?_
              refine lv_ladd hx hb dX12_goThrough_172 ?_
              refine hp_put hx hb hts ix12 tyX12 tyX12_ok nmX12 hown hK hh (q := 0) rfl (hI.1 _ (by decide)) es1419_1424 rfl 15 (by decide) (hts _ tw_894) (fun _ h9 => h9) rfl (ty := .long) (by decide +kernel) rfl rfl (Nat.le_of_ble_eq_true rfl) dX12_goThrough_173 (fun H locs en_1425 hen_1425 hh => ?_)
              have es1419_1425 : en_1425 0 = .inr (11, [.int fa_1419, .int hi_1419, .int (nI wd), .int (nI mo), .int (nI tb), .ref (ad 1), .ref (ad 2), .ref (ad 3), .ref (ad 4), .ref (ad 5), .ref (ad 6), .ref (ad 7), .ref (ad 8), .ref (ad 9), .int dp_1419, .long (many_1419 + 1), .long grt_1419, .long lst_1419, .long (nou_1419 + 1), .ref (ad 10), .ref (ad 11), .ref (ad 12), .int rm_1419, .long rb_1419, .ref (ad 13), .int pr_1419, .ref (ad 14), .ref (ad 15), .ref (ad 16), .ref (ad 17), .int (nI wo), .ref (ad 18), .ref (ad 19)]) := by rw [hen_1425]; exact va_up_self _ _ _
              have hI_1425 : RX cy cs ad en_1425 := by rw [hen_1425]; exact upr_M hI_1424 ⟨fa_1419, hi_1419, wd, mo, tb, dp_1419, (many_1419 + 1), grt_1419, lst_1419, (nou_1419 + 1), rm_1419, rb_1419, pr_1419, wo, rfl, hwd2, hwd3, hmo, htb, hwo⟩
              have hf_1425 : ∀ c, (c ≠ 0 ∧ c ≠ 6 ∧ c ≠ 7 ∧ c ≠ 10 ∧ c ≠ 11) → en_1425 c = en c := fun c hc => Eq.trans (show en_1425 c = en_1424 c from by rw [hen_1425, va_up_ne _ _ (by omega)]) (hf_1424 c hc)
              have hkp_1425 : KP en en_1425 := KP_fv hkp_1424 es1419_1424 es1419_1425 hi_1419 (nI wd) (nI mo) (nI tb) pr_1419 (nI wo) rfl rfl rfl rfl rfl rfl rfl rfl rfl rfl rfl rfl
              have hsd_1425 : SD en_1413 en_1425 := SD_fv hsd_1424 es1419_1424 es1419_1425 (show en_1425 7 = en_1424 7 from by rw [hen_1425, va_up_ne _ _ (by decide)]) dp_1419 rfl rfl
              refine lv_goto (tgt := 28) hx hb dX12_goThrough_176 (by decide) ?_
              exact ih_1410 (mm1410 - 1) (n - 1) u1_1413 en_1425 ls H locs (by omega) hI_1425 hf_1425 (ND_sd hND_1413 hsd_1425) (by rw [hsd_1425.2]; have h1 := hnm_1413; have h2 := i1_1410; omega) (hkp_1425) (lv_sub hl [1, 2] rfl) hh
          refine lv_aload_n hx hb dX12_goThrough_94 rfl (lv_at hl 1 rfl) ?_
          obtain ⟨fa_1426, hi_1426, wd_1426, mo_1426, tb_1426, dp_1426, many_1426, grt_1426, lst_1426, nou_1426, rm_1426, rb_1426, pr_1426, wo_1426, es1426, p0_1426, p1_1426, p2_1426, p3_1426, p4_1426⟩ := getr_M hI_1417
          have hq2_1427 : wd_1426 = wd := n_eq ((show nI wd_1426 = rdI (en_1417 0) 2 from by rw [es1426]; rfl).trans (hkp_1417.2.1.trans (show rdI (en 0) 2 = nI wd from by rw [es1404]; rfl))) (by omega) (by omega)
          have hq3_1427 : mo_1426 = mo := n_eq ((show nI mo_1426 = rdI (en_1417 0) 3 from by rw [es1426]; rfl).trans (hkp_1417.2.2.1.trans (show rdI (en 0) 3 = nI mo from by rw [es1404]; rfl))) (by omega) (by omega)
          have hq4_1427 : tb_1426 = tb := n_eq ((show nI tb_1426 = rdI (en_1417 0) 4 from by rw [es1426]; rfl).trans (hkp_1417.2.2.2.1.trans (show rdI (en 0) 4 = nI tb from by rw [es1404]; rfl))) (by omega) (by omega)
          have hq30_1427 : wo_1426 = wo := n_eq ((show nI wo_1426 = rdI (en_1417 0) 30 from by rw [es1426]; rfl).trans (hkp_1417.2.2.2.2.2.trans (show rdI (en 0) 30 = nI wo from by rw [es1404]; rfl))) (by omega) (by omega)
          rw [hq2_1427, hq3_1427, hq4_1427, hq30_1427] at es1426
          refine hp_get hx hb hts ix12 hown hK hh (q := 0) rfl (hI.1 _ (by decide)) es1426 rfl 15 (by decide) (hts _ tw_894) (fun _ h9 => h9) rfl dX12_goThrough_95 ?_
          refine lv_lconst (v := 0) hx hb dX12_goThrough_98 (by decide) ?_
          refine W.lcmp hx hb dX12_goThrough_99 ?_
          refine lv_if_eq (tgt := 112) hx hb dX12_goThrough_100 (by decide) (fun c_1428 => ?_) (fun c_1428 => ?_)
          · refine lv_aload_n hx hb dX12_goThrough_112 rfl (lv_at hl 1 rfl) ?_
            refine lv_lload_n hx hb dX12_goThrough_113 rfl (lv_at hl 0 rfl) ?_
            refine hp_put hx hb hts ix12 tyX12 tyX12_ok nmX12 hown hK hh (q := 0) rfl (hI.1 _ (by decide)) es1426 rfl 17 (by decide) (hts _ tw_896) (fun _ h9 => h9) rfl (ty := .long) (by decide +kernel) rfl rfl (Nat.le_of_ble_eq_true rfl) dX12_goThrough_114 (fun H locs en_1429 hen_1429 hh => ?_)
            have es1426_1429 : en_1429 0 = .inr (11, [.int fa_1426, .int hi_1426, .int (nI wd), .int (nI mo), .int (nI tb), .ref (ad 1), .ref (ad 2), .ref (ad 3), .ref (ad 4), .ref (ad 5), .ref (ad 6), .ref (ad 7), .ref (ad 8), .ref (ad 9), .int dp_1426, .long many_1426, .long grt_1426, .long r_1416, .long nou_1426, .ref (ad 10), .ref (ad 11), .ref (ad 12), .int rm_1426, .long rb_1426, .ref (ad 13), .int pr_1426, .ref (ad 14), .ref (ad 15), .ref (ad 16), .ref (ad 17), .int (nI wo), .ref (ad 18), .ref (ad 19)]) := by rw [hen_1429]; exact va_up_self _ _ _
            have hI_1429 : RX cy cs ad en_1429 := by rw [hen_1429]; exact upr_M hI_1417 ⟨fa_1426, hi_1426, wd, mo, tb, dp_1426, many_1426, grt_1426, r_1416, nou_1426, rm_1426, rb_1426, pr_1426, wo, rfl, hwd2, hwd3, hmo, htb, hwo⟩
            have hf_1429 : ∀ c, (c ≠ 0 ∧ c ≠ 6 ∧ c ≠ 7 ∧ c ≠ 10 ∧ c ≠ 11) → en_1429 c = en c := fun c hc => Eq.trans (show en_1429 c = en_1417 c from by rw [hen_1429, va_up_ne _ _ (by omega)]) (hf_1417 c hc)
            have hkp_1429 : KP en en_1429 := KP_fv hkp_1417 es1426 es1426_1429 hi_1426 (nI wd) (nI mo) (nI tb) pr_1426 (nI wo) rfl rfl rfl rfl rfl rfl rfl rfl rfl rfl rfl rfl
            have hsd_1429 : SD en_1413 en_1429 := SD_fv hsd_1417 es1426 es1426_1429 (show en_1429 7 = en_1417 7 from by rw [hen_1429, va_up_ne _ _ (by decide)]) dp_1426 rfl rfl
            refine lv_iconst (v := 0) hx hb dX12_goThrough_117 (by decide) ?_
            refine lv_istore (lv' := [(4, .int 0), (2, .long r_1416), (0, .ref (ad 0)), (1, .int (nI n))]) hx hb dX12_goThrough_118 hl (by decide) rfl (fun ls hl => ?_)
            have loop_1430 : ∀ (fu j1430 : Nat)  (en_1430 : Nat → va_E) (ls : Array Slot) (H : Heap) (locs : List Loc), 0 ≤ j1430 → j1430 ≤ n → n < j1430 + fu → RX cy cs ad en_1430 → (∀ c, (c ≠ 0 ∧ c ≠ 6 ∧ c ≠ 7 ∧ c ≠ 10 ∧ c ≠ 11) → en_1430 c = en c) → (KP en en_1430) → (SD en_1413 en_1430) → lv_has ls 5 [(4, .int (nI j1430)), (2, .long r_1416), (0, .ref (ad 0)), (1, .int (nI n))] → Hp D (Af cs ad sz) (Af cs ad sz) s.heap H locs cs ad en_1430 → W p l e (headSpec (Cond.code yX12_goThrough cX12_goThrough 5 none :: TB) (rmN 3)).room s m ([.ref (ad 0), .int (nI n)] : List Value).toArray below meth c H locs 0 0 (MQ below (va_Qv (S := Nat → va_E) (fun en1 => RX cy cs ad en1 ∧ (∀ c, (c ≠ 0 ∧ c ≠ 6 ∧ c ≠ 7 ∧ c ≠ 10 ∧ c ≠ 11) → en1 c = en c) ∧ KP en en1) (PostM D cs ad) (Af cs ad sz)) ([.ref (ad 0), .int (nI n)] : List Value).toArray s 0 0 (Af cs ad sz)) (F0 m 120 ls []) := by
              intro fu
              induction fu with
              | zero => intro j1430  en_1430 ls H locs h0 h1 h2; exact absurd h2 (by omega)
              | succ fu ih_1430 =>
                intro j1430  en_1430 ls H locs hj0_1430 hj_1430 hfu_1430 hI_1430 hf_1430 i0_1430 i1_1430 hl hh
                refine lv_iload hx hb dX12_goThrough_120 (lv_at hl 0 rfl) ?_
                refine lv_iload_n hx hb dX12_goThrough_122 rfl (lv_at hl 3 rfl) ?_
                refine lv_icmp_ge (tgt := 146) hx hb dX12_goThrough_123 (by decide) (fun c_1431 => ?_) (fun c_1431 => ?_)
                · have n_1431 : n ≤ j1430 := n_le (a := n) (b := j1430) c_1431 (by omega) (by omega)
                  exact join_1418  en_1430 ls _ _ hI_1430 hf_1430 i0_1430 i1_1430 (lv_sub hl [1, 2, 3] rfl) hh
                · have n_1431 : j1430 < n := n_nle (a := n) (b := j1430) c_1431 (by omega) (by omega)
                  refine lv_aload_n hx hb dX12_goThrough_126 rfl (lv_at hl 2 rfl) ?_
                  obtain ⟨fa_1432, hi_1432, wd_1432, mo_1432, tb_1432, dp_1432, many_1432, grt_1432, lst_1432, nou_1432, rm_1432, rb_1432, pr_1432, wo_1432, es1432, p0_1432, p1_1432, p2_1432, p3_1432, p4_1432⟩ := getr_M hI_1430
                  have hq2_1433 : wd_1432 = wd := n_eq ((show nI wd_1432 = rdI (en_1430 0) 2 from by rw [es1432]; rfl).trans (i0_1430.2.1.trans (show rdI (en 0) 2 = nI wd from by rw [es1404]; rfl))) (by omega) (by omega)
                  have hq3_1433 : mo_1432 = mo := n_eq ((show nI mo_1432 = rdI (en_1430 0) 3 from by rw [es1432]; rfl).trans (i0_1430.2.2.1.trans (show rdI (en 0) 3 = nI mo from by rw [es1404]; rfl))) (by omega) (by omega)
                  have hq4_1433 : tb_1432 = tb := n_eq ((show nI tb_1432 = rdI (en_1430 0) 4 from by rw [es1432]; rfl).trans (i0_1430.2.2.2.1.trans (show rdI (en 0) 4 = nI tb from by rw [es1404]; rfl))) (by omega) (by omega)
                  have hq30_1433 : wo_1432 = wo := n_eq ((show nI wo_1432 = rdI (en_1430 0) 30 from by rw [es1432]; rfl).trans (i0_1430.2.2.2.2.2.trans (show rdI (en 0) 30 = nI wo from by rw [es1404]; rfl))) (by omega) (by omega)
                  rw [hq2_1433, hq3_1433, hq4_1433, hq30_1433] at es1432
                  refine hp_get hx hb hts ix12 hown hK hh (q := 0) rfl (hI.1 _ (by decide)) es1432 rfl 20 (by decide) (hts _ tw_899) (fun _ h9 => h9) rfl dX12_goThrough_127 ?_
                  refine lv_iload hx hb dX12_goThrough_130 (lv_at hl 0 rfl) ?_
                  refine lv_aload_n hx hb dX12_goThrough_132 rfl (lv_at hl 2 rfl) ?_
                  refine hp_get hx hb hts ix12 hown hK hh (q := 0) rfl (hI.1 _ (by decide)) es1432 rfl 11 (by decide) (hts _ tw_890) (fun _ h9 => h9) rfl dX12_goThrough_133 ?_
                  refine lv_iload hx hb dX12_goThrough_136 (lv_at hl 0 rfl) ?_
                  obtain ⟨f_1434, es1434⟩ := getr_nw hI_1430
                  refine hp_iald hx hb hK hh (q := 7) rfl (hI.1 _ (by decide)) es1434 (vp_in_nI (n := j1430) (by omega) (by decide)) dX12_goThrough_138 ?_
                  rw [nI_clamp (n := j1430) (by omega)]
                  obtain ⟨v_1435, hv_1435, hve_1435⟩ := hall_1413 j1430 (by omega)
                  rw [show f_1434 j1430 = nI v_1435 from (show f_1434 j1430 = rdF (en_1413 7) j1430 from by rw [← i1_1430.2, es1434]; rfl).trans hve_1435]
                  obtain ⟨f_1436, es1436⟩ := getr_sm hI_1430
                  refine hp_iast hx hb hK hh (q := 11) rfl (hI.1 _ (by decide)) es1436 (vp_in_nI (n := j1430) (by omega) (by decide)) dX12_goThrough_139 (fun H locs en_1437 hen_1437 hh => ?_)
                  rw [nI_clamp (n := j1430) (by omega)] at hen_1437
                  have es1432_1437 : en_1437 0 = .inr (11, [.int fa_1432, .int hi_1432, .int (nI wd), .int (nI mo), .int (nI tb), .ref (ad 1), .ref (ad 2), .ref (ad 3), .ref (ad 4), .ref (ad 5), .ref (ad 6), .ref (ad 7), .ref (ad 8), .ref (ad 9), .int dp_1432, .long many_1432, .long grt_1432, .long lst_1432, .long nou_1432, .ref (ad 10), .ref (ad 11), .ref (ad 12), .int rm_1432, .long rb_1432, .ref (ad 13), .int pr_1432, .ref (ad 14), .ref (ad 15), .ref (ad 16), .ref (ad 17), .int (nI wo), .ref (ad 18), .ref (ad 19)]) := by rw [hen_1437, va_up_ne _ _ (by decide)]; exact es1432
                  have es1434_1437 : en_1437 7 = .inl (cy 0, 13, .inl f_1434) := by rw [hen_1437, va_up_ne _ _ (by decide)]; exact es1434
                  have es1436_1437 : en_1437 11 = .inl (cy 0, 12, .inl (upd f_1436 j1430 (nI v_1435))) := by rw [hen_1437]; exact va_up_self _ _ _
                  have hI_1437 : RX cy cs ad en_1437 := by rw [hen_1437]; exact upr_sm hI_1430 ⟨(upd f_1436 j1430 (nI v_1435)), rfl⟩
                  have hf_1437 : ∀ c, (c ≠ 0 ∧ c ≠ 6 ∧ c ≠ 7 ∧ c ≠ 10 ∧ c ≠ 11) → en_1437 c = en c := fun c hc => Eq.trans (show en_1437 c = en_1430 c from by rw [hen_1437, va_up_ne _ _ (by omega)]) (hf_1430 c hc)
                  have hkp_1437 : KP en en_1437 := KP_same i0_1430 (show en_1437 0 = en_1430 0 from by rw [hen_1437, va_up_ne _ _ (by decide)])
                  have hsd_1437 : SD en_1413 en_1437 := SD_same i1_1430 (show en_1437 0 = en_1430 0 from by rw [hen_1437, va_up_ne _ _ (by decide)]) (show en_1437 7 = en_1430 7 from by rw [hen_1437, va_up_ne _ _ (by decide)])
                  refine lv_iinc (v := (nI (j1430 + 1))) (lv' := [(4, .int (nI (j1430 + 1))), (2, .long r_1416), (0, .ref (ad 0)), (1, .int (nI n))]) hx hb dX12_goThrough_140 hl (k := 0) rfl (nI_1 _) (by decide) rfl (fun ls hl => ?_)
                  refine lv_goto (tgt := 120) hx hb dX12_goThrough_143 (by decide) ?_
                  exact ih_1430 ((j1430 + 1))  en_1437 ls H locs (by omega) (by omega) (by omega) hI_1437 hf_1437 (hkp_1437) (hsd_1437) (lv_sub hl [0, 1, 2, 3] rfl) hh
            exact loop_1430 (n + 1) 0  en_1429 ls _ _ (Nat.le_refl _) (by omega) (by omega) hI_1429 hf_1429 (hkp_1429) (hsd_1429) (lv_sub hl [0, 1, 2, 3] rfl) hh
          · refine lv_lload_n hx hb dX12_goThrough_103 rfl (lv_at hl 0 rfl) ?_
            refine lv_aload_n hx hb dX12_goThrough_104 rfl (lv_at hl 1 rfl) ?_
            refine hp_get hx hb hts ix12 hown hK hh (q := 0) rfl (hI.1 _ (by decide)) es1426 rfl 17 (by decide) (hts _ tw_896) (fun _ h9 => h9) rfl dX12_goThrough_105 ?_
            refine W.lcmp hx hb dX12_goThrough_108 ?_
            refine lv_if_ge (tgt := 146) hx hb dX12_goThrough_109 (by decide) (fun c_1438 => ?_) (fun c_1438 => ?_)
            · exact join_1418  en_1417 ls _ _ hI_1417 hf_1417 hkp_1417 hsd_1417 (lv_sub hl [0, 1, 2] rfl) hh
            · refine lv_aload_n hx hb dX12_goThrough_112 rfl (lv_at hl 1 rfl) ?_
              refine lv_lload_n hx hb dX12_goThrough_113 rfl (lv_at hl 0 rfl) ?_
              refine hp_put hx hb hts ix12 tyX12 tyX12_ok nmX12 hown hK hh (q := 0) rfl (hI.1 _ (by decide)) es1426 rfl 17 (by decide) (hts _ tw_896) (fun _ h9 => h9) rfl (ty := .long) (by decide +kernel) rfl rfl (Nat.le_of_ble_eq_true rfl) dX12_goThrough_114 (fun H locs en_1439 hen_1439 hh => ?_)
              have es1426_1439 : en_1439 0 = .inr (11, [.int fa_1426, .int hi_1426, .int (nI wd), .int (nI mo), .int (nI tb), .ref (ad 1), .ref (ad 2), .ref (ad 3), .ref (ad 4), .ref (ad 5), .ref (ad 6), .ref (ad 7), .ref (ad 8), .ref (ad 9), .int dp_1426, .long many_1426, .long grt_1426, .long r_1416, .long nou_1426, .ref (ad 10), .ref (ad 11), .ref (ad 12), .int rm_1426, .long rb_1426, .ref (ad 13), .int pr_1426, .ref (ad 14), .ref (ad 15), .ref (ad 16), .ref (ad 17), .int (nI wo), .ref (ad 18), .ref (ad 19)]) := by rw [hen_1439]; exact va_up_self _ _ _
              have hI_1439 : RX cy cs ad en_1439 := by rw [hen_1439]; exact upr_M hI_1417 ⟨fa_1426, hi_1426, wd, mo, tb, dp_1426, many_1426, grt_1426, r_1416, nou_1426, rm_1426, rb_1426, pr_1426, wo, rfl, hwd2, hwd3, hmo, htb, hwo⟩
              have hf_1439 : ∀ c, (c ≠ 0 ∧ c ≠ 6 ∧ c ≠ 7 ∧ c ≠ 10 ∧ c ≠ 11) → en_1439 c = en c := fun c hc => Eq.trans (show en_1439 c = en_1417 c from by rw [hen_1439, va_up_ne _ _ (by omega)]) (hf_1417 c hc)
              have hkp_1439 : KP en en_1439 := KP_fv hkp_1417 es1426 es1426_1439 hi_1426 (nI wd) (nI mo) (nI tb) pr_1426 (nI wo) rfl rfl rfl rfl rfl rfl rfl rfl rfl rfl rfl rfl
              have hsd_1439 : SD en_1413 en_1439 := SD_fv hsd_1417 es1426 es1426_1439 (show en_1439 7 = en_1417 7 from by rw [hen_1439, va_up_ne _ _ (by decide)]) dp_1426 rfl rfl
              refine lv_iconst (v := 0) hx hb dX12_goThrough_117 (by decide) ?_
              refine lv_istore (lv' := [(4, .int 0), (2, .long r_1416), (0, .ref (ad 0)), (1, .int (nI n))]) hx hb dX12_goThrough_118 hl (by decide) rfl (fun ls hl => ?_)
              have loop_1440 : ∀ (fu j1440 : Nat)  (en_1440 : Nat → va_E) (ls : Array Slot) (H : Heap) (locs : List Loc), 0 ≤ j1440 → j1440 ≤ n → n < j1440 + fu → RX cy cs ad en_1440 → (∀ c, (c ≠ 0 ∧ c ≠ 6 ∧ c ≠ 7 ∧ c ≠ 10 ∧ c ≠ 11) → en_1440 c = en c) → (KP en en_1440) → (SD en_1413 en_1440) → lv_has ls 5 [(4, .int (nI j1440)), (2, .long r_1416), (0, .ref (ad 0)), (1, .int (nI n))] → Hp D (Af cs ad sz) (Af cs ad sz) s.heap H locs cs ad en_1440 → W p l e (headSpec (Cond.code yX12_goThrough cX12_goThrough 5 none :: TB) (rmN 3)).room s m ([.ref (ad 0), .int (nI n)] : List Value).toArray below meth c H locs 0 0 (MQ below (va_Qv (S := Nat → va_E) (fun en1 => RX cy cs ad en1 ∧ (∀ c, (c ≠ 0 ∧ c ≠ 6 ∧ c ≠ 7 ∧ c ≠ 10 ∧ c ≠ 11) → en1 c = en c) ∧ KP en en1) (PostM D cs ad) (Af cs ad sz)) ([.ref (ad 0), .int (nI n)] : List Value).toArray s 0 0 (Af cs ad sz)) (F0 m 120 ls []) := by
                intro fu
                induction fu with
                | zero => intro j1440  en_1440 ls H locs h0 h1 h2; exact absurd h2 (by omega)
                | succ fu ih_1440 =>
                  intro j1440  en_1440 ls H locs hj0_1440 hj_1440 hfu_1440 hI_1440 hf_1440 i0_1440 i1_1440 hl hh
                  refine lv_iload hx hb dX12_goThrough_120 (lv_at hl 0 rfl) ?_
                  refine lv_iload_n hx hb dX12_goThrough_122 rfl (lv_at hl 3 rfl) ?_
                  refine lv_icmp_ge (tgt := 146) hx hb dX12_goThrough_123 (by decide) (fun c_1441 => ?_) (fun c_1441 => ?_)
                  · have n_1441 : n ≤ j1440 := n_le (a := n) (b := j1440) c_1441 (by omega) (by omega)
                    exact join_1418  en_1440 ls _ _ hI_1440 hf_1440 i0_1440 i1_1440 (lv_sub hl [1, 2, 3] rfl) hh
                  · have n_1441 : j1440 < n := n_nle (a := n) (b := j1440) c_1441 (by omega) (by omega)
                    refine lv_aload_n hx hb dX12_goThrough_126 rfl (lv_at hl 2 rfl) ?_
                    obtain ⟨fa_1442, hi_1442, wd_1442, mo_1442, tb_1442, dp_1442, many_1442, grt_1442, lst_1442, nou_1442, rm_1442, rb_1442, pr_1442, wo_1442, es1442, p0_1442, p1_1442, p2_1442, p3_1442, p4_1442⟩ := getr_M hI_1440
                    have hq2_1443 : wd_1442 = wd := n_eq ((show nI wd_1442 = rdI (en_1440 0) 2 from by rw [es1442]; rfl).trans (i0_1440.2.1.trans (show rdI (en 0) 2 = nI wd from by rw [es1404]; rfl))) (by omega) (by omega)
                    have hq3_1443 : mo_1442 = mo := n_eq ((show nI mo_1442 = rdI (en_1440 0) 3 from by rw [es1442]; rfl).trans (i0_1440.2.2.1.trans (show rdI (en 0) 3 = nI mo from by rw [es1404]; rfl))) (by omega) (by omega)
                    have hq4_1443 : tb_1442 = tb := n_eq ((show nI tb_1442 = rdI (en_1440 0) 4 from by rw [es1442]; rfl).trans (i0_1440.2.2.2.1.trans (show rdI (en 0) 4 = nI tb from by rw [es1404]; rfl))) (by omega) (by omega)
                    have hq30_1443 : wo_1442 = wo := n_eq ((show nI wo_1442 = rdI (en_1440 0) 30 from by rw [es1442]; rfl).trans (i0_1440.2.2.2.2.2.trans (show rdI (en 0) 30 = nI wo from by rw [es1404]; rfl))) (by omega) (by omega)
                    rw [hq2_1443, hq3_1443, hq4_1443, hq30_1443] at es1442
                    refine hp_get hx hb hts ix12 hown hK hh (q := 0) rfl (hI.1 _ (by decide)) es1442 rfl 20 (by decide) (hts _ tw_899) (fun _ h9 => h9) rfl dX12_goThrough_127 ?_
                    refine lv_iload hx hb dX12_goThrough_130 (lv_at hl 0 rfl) ?_
                    refine lv_aload_n hx hb dX12_goThrough_132 rfl (lv_at hl 2 rfl) ?_
                    refine hp_get hx hb hts ix12 hown hK hh (q := 0) rfl (hI.1 _ (by decide)) es1442 rfl 11 (by decide) (hts _ tw_890) (fun _ h9 => h9) rfl dX12_goThrough_133 ?_
                    refine lv_iload hx hb dX12_goThrough_136 (lv_at hl 0 rfl) ?_
                    obtain ⟨f_1444, es1444⟩ := getr_nw hI_1440
                    refine hp_iald hx hb hK hh (q := 7) rfl (hI.1 _ (by decide)) es1444 (vp_in_nI (n := j1440) (by omega) (by decide)) dX12_goThrough_138 ?_
                    rw [nI_clamp (n := j1440) (by omega)]
                    obtain ⟨v_1445, hv_1445, hve_1445⟩ := hall_1413 j1440 (by omega)
                    rw [show f_1444 j1440 = nI v_1445 from (show f_1444 j1440 = rdF (en_1413 7) j1440 from by rw [← i1_1440.2, es1444]; rfl).trans hve_1445]
                    obtain ⟨f_1446, es1446⟩ := getr_sm hI_1440
                    refine hp_iast hx hb hK hh (q := 11) rfl (hI.1 _ (by decide)) es1446 (vp_in_nI (n := j1440) (by omega) (by decide)) dX12_goThrough_139 (fun H locs en_1447 hen_1447 hh => ?_)
                    rw [nI_clamp (n := j1440) (by omega)] at hen_1447
                    have es1442_1447 : en_1447 0 = .inr (11, [.int fa_1442, .int hi_1442, .int (nI wd), .int (nI mo), .int (nI tb), .ref (ad 1), .ref (ad 2), .ref (ad 3), .ref (ad 4), .ref (ad 5), .ref (ad 6), .ref (ad 7), .ref (ad 8), .ref (ad 9), .int dp_1442, .long many_1442, .long grt_1442, .long lst_1442, .long nou_1442, .ref (ad 10), .ref (ad 11), .ref (ad 12), .int rm_1442, .long rb_1442, .ref (ad 13), .int pr_1442, .ref (ad 14), .ref (ad 15), .ref (ad 16), .ref (ad 17), .int (nI wo), .ref (ad 18), .ref (ad 19)]) := by rw [hen_1447, va_up_ne _ _ (by decide)]; exact es1442
                    have es1444_1447 : en_1447 7 = .inl (cy 0, 13, .inl f_1444) := by rw [hen_1447, va_up_ne _ _ (by decide)]; exact es1444
                    have es1446_1447 : en_1447 11 = .inl (cy 0, 12, .inl (upd f_1446 j1440 (nI v_1445))) := by rw [hen_1447]; exact va_up_self _ _ _
                    have hI_1447 : RX cy cs ad en_1447 := by rw [hen_1447]; exact upr_sm hI_1440 ⟨(upd f_1446 j1440 (nI v_1445)), rfl⟩
                    have hf_1447 : ∀ c, (c ≠ 0 ∧ c ≠ 6 ∧ c ≠ 7 ∧ c ≠ 10 ∧ c ≠ 11) → en_1447 c = en c := fun c hc => Eq.trans (show en_1447 c = en_1440 c from by rw [hen_1447, va_up_ne _ _ (by omega)]) (hf_1440 c hc)
                    have hkp_1447 : KP en en_1447 := KP_same i0_1440 (show en_1447 0 = en_1440 0 from by rw [hen_1447, va_up_ne _ _ (by decide)])
                    have hsd_1447 : SD en_1413 en_1447 := SD_same i1_1440 (show en_1447 0 = en_1440 0 from by rw [hen_1447, va_up_ne _ _ (by decide)]) (show en_1447 7 = en_1440 7 from by rw [hen_1447, va_up_ne _ _ (by decide)])
                    refine lv_iinc (v := (nI (j1440 + 1))) (lv' := [(4, .int (nI (j1440 + 1))), (2, .long r_1416), (0, .ref (ad 0)), (1, .int (nI n))]) hx hb dX12_goThrough_140 hl (k := 0) rfl (nI_1 _) (by decide) rfl (fun ls hl => ?_)
                    refine lv_goto (tgt := 120) hx hb dX12_goThrough_143 (by decide) ?_
                    exact ih_1440 ((j1440 + 1))  en_1447 ls H locs (by omega) (by omega) (by omega) hI_1447 hf_1447 (hkp_1447) (hsd_1447) (lv_sub hl [0, 1, 2, 3] rfl) hh
              exact loop_1440 (n + 1) 0  en_1439 ls _ _ (Nat.le_refl _) (by omega) (by omega) hI_1439 hf_1439 (hkp_1439) (hsd_1439) (lv_sub hl [0, 1, 2, 3] rfl) hh
        refine lv_aload_n hx hb dX12_goThrough_42 rfl (lv_at hl 1 rfl) ?_
        refine hp_get hx hb hts ix12 hown hK hh (q := 0) rfl (hI.1 _ (by decide)) es1414 rfl 15 (by decide) (hts _ tw_894) (fun _ h9 => h9) rfl dX12_goThrough_43 ?_
        refine lv_lconst (v := 0) hx hb dX12_goThrough_46 (by decide) ?_
        refine W.lcmp hx hb dX12_goThrough_47 ?_
        refine lv_if_eq (tgt := 60) hx hb dX12_goThrough_48 (by decide) (fun c_1448 => ?_) (fun c_1448 => ?_)
        · refine lv_aload_n hx hb dX12_goThrough_60 rfl (lv_at hl 1 rfl) ?_
          refine lv_lload_n hx hb dX12_goThrough_61 rfl (lv_at hl 0 rfl) ?_
          refine hp_put hx hb hts ix12 tyX12 tyX12_ok nmX12 hown hK hh (q := 0) rfl (hI.1 _ (by decide)) es1414 rfl 16 (by decide) (hts _ tw_895) (fun _ h9 => h9) rfl (ty := .long) (by decide +kernel) rfl rfl (Nat.le_of_ble_eq_true rfl) dX12_goThrough_62 (fun H locs en_1449 hen_1449 hh => ?_)
          have es1414_1449 : en_1449 0 = .inr (11, [.int fa_1414, .int hi_1414, .int (nI wd), .int (nI mo), .int (nI tb), .ref (ad 1), .ref (ad 2), .ref (ad 3), .ref (ad 4), .ref (ad 5), .ref (ad 6), .ref (ad 7), .ref (ad 8), .ref (ad 9), .int dp_1414, .long many_1414, .long r_1416, .long lst_1414, .long nou_1414, .ref (ad 10), .ref (ad 11), .ref (ad 12), .int rm_1414, .long rb_1414, .ref (ad 13), .int pr_1414, .ref (ad 14), .ref (ad 15), .ref (ad 16), .ref (ad 17), .int (nI wo), .ref (ad 18), .ref (ad 19)]) := by rw [hen_1449]; exact va_up_self _ _ _
          have hI_1449 : RX cy cs ad en_1449 := by rw [hen_1449]; exact upr_M hI_1413 ⟨fa_1414, hi_1414, wd, mo, tb, dp_1414, many_1414, r_1416, lst_1414, nou_1414, rm_1414, rb_1414, pr_1414, wo, rfl, hwd2, hwd3, hmo, htb, hwo⟩
          have hf_1449 : ∀ c, (c ≠ 0 ∧ c ≠ 6 ∧ c ≠ 7 ∧ c ≠ 10 ∧ c ≠ 11) → en_1449 c = en c := fun c hc => Eq.trans (show en_1449 c = en_1413 c from by rw [hen_1449, va_up_ne _ _ (by omega)]) (hf_1413 c hc)
          have hkp_1449 : KP en en_1449 := KP_fv hkp_1413 es1414 es1414_1449 hi_1414 (nI wd) (nI mo) (nI tb) pr_1414 (nI wo) rfl rfl rfl rfl rfl rfl rfl rfl rfl rfl rfl rfl
          have hsd_1449 : SD en_1413 en_1449 := SD_fv (SD_rf en_1413) es1414 es1414_1449 (show en_1449 7 = en_1413 7 from by rw [hen_1449, va_up_ne _ _ (by decide)]) dp_1414 rfl rfl
          refine lv_iconst (v := 0) hx hb dX12_goThrough_65 (by decide) ?_
          refine lv_istore (lv' := [(4, .int 0), (2, .long r_1416), (0, .ref (ad 0)), (1, .int (nI n))]) hx hb dX12_goThrough_66 hl (by decide) rfl (fun ls hl => ?_)
          have loop_1450 : ∀ (fu j1450 : Nat)  (en_1450 : Nat → va_E) (ls : Array Slot) (H : Heap) (locs : List Loc), 0 ≤ j1450 → j1450 ≤ n → n < j1450 + fu → RX cy cs ad en_1450 → (∀ c, (c ≠ 0 ∧ c ≠ 6 ∧ c ≠ 7 ∧ c ≠ 10 ∧ c ≠ 11) → en_1450 c = en c) → (KP en en_1450) → (SD en_1413 en_1450) → lv_has ls 5 [(4, .int (nI j1450)), (2, .long r_1416), (0, .ref (ad 0)), (1, .int (nI n))] → Hp D (Af cs ad sz) (Af cs ad sz) s.heap H locs cs ad en_1450 → W p l e (headSpec (Cond.code yX12_goThrough cX12_goThrough 5 none :: TB) (rmN 3)).room s m ([.ref (ad 0), .int (nI n)] : List Value).toArray below meth c H locs 0 0 (MQ below (va_Qv (S := Nat → va_E) (fun en1 => RX cy cs ad en1 ∧ (∀ c, (c ≠ 0 ∧ c ≠ 6 ∧ c ≠ 7 ∧ c ≠ 10 ∧ c ≠ 11) → en1 c = en c) ∧ KP en en1) (PostM D cs ad) (Af cs ad sz)) ([.ref (ad 0), .int (nI n)] : List Value).toArray s 0 0 (Af cs ad sz)) (F0 m 68 ls []) := by
            intro fu
            induction fu with
            | zero => intro j1450  en_1450 ls H locs h0 h1 h2; exact absurd h2 (by omega)
            | succ fu ih_1450 =>
              intro j1450  en_1450 ls H locs hj0_1450 hj_1450 hfu_1450 hI_1450 hf_1450 i0_1450 i1_1450 hl hh
              refine lv_iload hx hb dX12_goThrough_68 (lv_at hl 0 rfl) ?_
              refine lv_iload_n hx hb dX12_goThrough_70 rfl (lv_at hl 3 rfl) ?_
              refine lv_icmp_ge (tgt := 94) hx hb dX12_goThrough_71 (by decide) (fun c_1451 => ?_) (fun c_1451 => ?_)
              · have n_1451 : n ≤ j1450 := n_le (a := n) (b := j1450) c_1451 (by omega) (by omega)
                exact join_1417  en_1450 ls _ _ hI_1450 hf_1450 i0_1450 i1_1450 (lv_sub hl [1, 2, 3] rfl) hh
              · have n_1451 : j1450 < n := n_nle (a := n) (b := j1450) c_1451 (by omega) (by omega)
                refine lv_aload_n hx hb dX12_goThrough_74 rfl (lv_at hl 2 rfl) ?_
                obtain ⟨fa_1452, hi_1452, wd_1452, mo_1452, tb_1452, dp_1452, many_1452, grt_1452, lst_1452, nou_1452, rm_1452, rb_1452, pr_1452, wo_1452, es1452, p0_1452, p1_1452, p2_1452, p3_1452, p4_1452⟩ := getr_M hI_1450
                have hq2_1453 : wd_1452 = wd := n_eq ((show nI wd_1452 = rdI (en_1450 0) 2 from by rw [es1452]; rfl).trans (i0_1450.2.1.trans (show rdI (en 0) 2 = nI wd from by rw [es1404]; rfl))) (by omega) (by omega)
                have hq3_1453 : mo_1452 = mo := n_eq ((show nI mo_1452 = rdI (en_1450 0) 3 from by rw [es1452]; rfl).trans (i0_1450.2.2.1.trans (show rdI (en 0) 3 = nI mo from by rw [es1404]; rfl))) (by omega) (by omega)
                have hq4_1453 : tb_1452 = tb := n_eq ((show nI tb_1452 = rdI (en_1450 0) 4 from by rw [es1452]; rfl).trans (i0_1450.2.2.2.1.trans (show rdI (en 0) 4 = nI tb from by rw [es1404]; rfl))) (by omega) (by omega)
                have hq30_1453 : wo_1452 = wo := n_eq ((show nI wo_1452 = rdI (en_1450 0) 30 from by rw [es1452]; rfl).trans (i0_1450.2.2.2.2.2.trans (show rdI (en 0) 30 = nI wo from by rw [es1404]; rfl))) (by omega) (by omega)
                rw [hq2_1453, hq3_1453, hq4_1453, hq30_1453] at es1452
                refine hp_get hx hb hts ix12 hown hK hh (q := 0) rfl (hI.1 _ (by decide)) es1452 rfl 19 (by decide) (hts _ tw_898) (fun _ h9 => h9) rfl dX12_goThrough_75 ?_
                refine lv_iload hx hb dX12_goThrough_78 (lv_at hl 0 rfl) ?_
                refine lv_aload_n hx hb dX12_goThrough_80 rfl (lv_at hl 2 rfl) ?_
                refine hp_get hx hb hts ix12 hown hK hh (q := 0) rfl (hI.1 _ (by decide)) es1452 rfl 11 (by decide) (hts _ tw_890) (fun _ h9 => h9) rfl dX12_goThrough_81 ?_
                refine lv_iload hx hb dX12_goThrough_84 (lv_at hl 0 rfl) ?_
                obtain ⟨f_1454, es1454⟩ := getr_nw hI_1450
                refine hp_iald hx hb hK hh (q := 7) rfl (hI.1 _ (by decide)) es1454 (vp_in_nI (n := j1450) (by omega) (by decide)) dX12_goThrough_86 ?_
                rw [nI_clamp (n := j1450) (by omega)]
                obtain ⟨v_1455, hv_1455, hve_1455⟩ := hall_1413 j1450 (by omega)
                rw [show f_1454 j1450 = nI v_1455 from (show f_1454 j1450 = rdF (en_1413 7) j1450 from by rw [← i1_1450.2, es1454]; rfl).trans hve_1455]
                obtain ⟨f_1456, es1456⟩ := getr_gt hI_1450
                refine hp_iast hx hb hK hh (q := 10) rfl (hI.1 _ (by decide)) es1456 (vp_in_nI (n := j1450) (by omega) (by decide)) dX12_goThrough_87 (fun H locs en_1457 hen_1457 hh => ?_)
                rw [nI_clamp (n := j1450) (by omega)] at hen_1457
                have es1452_1457 : en_1457 0 = .inr (11, [.int fa_1452, .int hi_1452, .int (nI wd), .int (nI mo), .int (nI tb), .ref (ad 1), .ref (ad 2), .ref (ad 3), .ref (ad 4), .ref (ad 5), .ref (ad 6), .ref (ad 7), .ref (ad 8), .ref (ad 9), .int dp_1452, .long many_1452, .long grt_1452, .long lst_1452, .long nou_1452, .ref (ad 10), .ref (ad 11), .ref (ad 12), .int rm_1452, .long rb_1452, .ref (ad 13), .int pr_1452, .ref (ad 14), .ref (ad 15), .ref (ad 16), .ref (ad 17), .int (nI wo), .ref (ad 18), .ref (ad 19)]) := by rw [hen_1457, va_up_ne _ _ (by decide)]; exact es1452
                have es1454_1457 : en_1457 7 = .inl (cy 0, 13, .inl f_1454) := by rw [hen_1457, va_up_ne _ _ (by decide)]; exact es1454
                have es1456_1457 : en_1457 10 = .inl (cy 0, 12, .inl (upd f_1456 j1450 (nI v_1455))) := by rw [hen_1457]; exact va_up_self _ _ _
                have hI_1457 : RX cy cs ad en_1457 := by rw [hen_1457]; exact upr_gt hI_1450 ⟨(upd f_1456 j1450 (nI v_1455)), rfl⟩
                have hf_1457 : ∀ c, (c ≠ 0 ∧ c ≠ 6 ∧ c ≠ 7 ∧ c ≠ 10 ∧ c ≠ 11) → en_1457 c = en c := fun c hc => Eq.trans (show en_1457 c = en_1450 c from by rw [hen_1457, va_up_ne _ _ (by omega)]) (hf_1450 c hc)
                have hkp_1457 : KP en en_1457 := KP_same i0_1450 (show en_1457 0 = en_1450 0 from by rw [hen_1457, va_up_ne _ _ (by decide)])
                have hsd_1457 : SD en_1413 en_1457 := SD_same i1_1450 (show en_1457 0 = en_1450 0 from by rw [hen_1457, va_up_ne _ _ (by decide)]) (show en_1457 7 = en_1450 7 from by rw [hen_1457, va_up_ne _ _ (by decide)])
                refine lv_iinc (v := (nI (j1450 + 1))) (lv' := [(4, .int (nI (j1450 + 1))), (2, .long r_1416), (0, .ref (ad 0)), (1, .int (nI n))]) hx hb dX12_goThrough_88 hl (k := 0) rfl (nI_1 _) (by decide) rfl (fun ls hl => ?_)
                refine lv_goto (tgt := 68) hx hb dX12_goThrough_91 (by decide) ?_
                exact ih_1450 ((j1450 + 1))  en_1457 ls H locs (by omega) (by omega) (by omega) hI_1457 hf_1457 (hkp_1457) (hsd_1457) (lv_sub hl [0, 1, 2, 3] rfl) hh
          exact loop_1450 (n + 1) 0  en_1449 ls _ _ (Nat.le_refl _) (by omega) (by omega) hI_1449 hf_1449 (hkp_1449) (hsd_1449) (lv_sub hl [0, 1, 2, 3] rfl) hh
        · refine lv_lload_n hx hb dX12_goThrough_51 rfl (lv_at hl 0 rfl) ?_
          refine lv_aload_n hx hb dX12_goThrough_52 rfl (lv_at hl 1 rfl) ?_
          refine hp_get hx hb hts ix12 hown hK hh (q := 0) rfl (hI.1 _ (by decide)) es1414 rfl 16 (by decide) (hts _ tw_895) (fun _ h9 => h9) rfl dX12_goThrough_53 ?_
          refine W.lcmp hx hb dX12_goThrough_56 ?_
          refine lv_if_le (tgt := 94) hx hb dX12_goThrough_57 (by decide) (fun c_1458 => ?_) (fun c_1458 => ?_)
          · exact join_1417  en_1413 ls _ _ hI_1413 hf_1413 hkp_1413 (SD_rf en_1413) (lv_sub hl [0, 1, 2] rfl) hh
          · refine lv_aload_n hx hb dX12_goThrough_60 rfl (lv_at hl 1 rfl) ?_
            refine lv_lload_n hx hb dX12_goThrough_61 rfl (lv_at hl 0 rfl) ?_
            refine hp_put hx hb hts ix12 tyX12 tyX12_ok nmX12 hown hK hh (q := 0) rfl (hI.1 _ (by decide)) es1414 rfl 16 (by decide) (hts _ tw_895) (fun _ h9 => h9) rfl (ty := .long) (by decide +kernel) rfl rfl (Nat.le_of_ble_eq_true rfl) dX12_goThrough_62 (fun H locs en_1459 hen_1459 hh => ?_)
            have es1414_1459 : en_1459 0 = .inr (11, [.int fa_1414, .int hi_1414, .int (nI wd), .int (nI mo), .int (nI tb), .ref (ad 1), .ref (ad 2), .ref (ad 3), .ref (ad 4), .ref (ad 5), .ref (ad 6), .ref (ad 7), .ref (ad 8), .ref (ad 9), .int dp_1414, .long many_1414, .long r_1416, .long lst_1414, .long nou_1414, .ref (ad 10), .ref (ad 11), .ref (ad 12), .int rm_1414, .long rb_1414, .ref (ad 13), .int pr_1414, .ref (ad 14), .ref (ad 15), .ref (ad 16), .ref (ad 17), .int (nI wo), .ref (ad 18), .ref (ad 19)]) := by rw [hen_1459]; exact va_up_self _ _ _
            have hI_1459 : RX cy cs ad en_1459 := by rw [hen_1459]; exact upr_M hI_1413 ⟨fa_1414, hi_1414, wd, mo, tb, dp_1414, many_1414, r_1416, lst_1414, nou_1414, rm_1414, rb_1414, pr_1414, wo, rfl, hwd2, hwd3, hmo, htb, hwo⟩
            have hf_1459 : ∀ c, (c ≠ 0 ∧ c ≠ 6 ∧ c ≠ 7 ∧ c ≠ 10 ∧ c ≠ 11) → en_1459 c = en c := fun c hc => Eq.trans (show en_1459 c = en_1413 c from by rw [hen_1459, va_up_ne _ _ (by omega)]) (hf_1413 c hc)
            have hkp_1459 : KP en en_1459 := KP_fv hkp_1413 es1414 es1414_1459 hi_1414 (nI wd) (nI mo) (nI tb) pr_1414 (nI wo) rfl rfl rfl rfl rfl rfl rfl rfl rfl rfl rfl rfl
            have hsd_1459 : SD en_1413 en_1459 := SD_fv (SD_rf en_1413) es1414 es1414_1459 (show en_1459 7 = en_1413 7 from by rw [hen_1459, va_up_ne _ _ (by decide)]) dp_1414 rfl rfl
            refine lv_iconst (v := 0) hx hb dX12_goThrough_65 (by decide) ?_
            refine lv_istore (lv' := [(4, .int 0), (2, .long r_1416), (0, .ref (ad 0)), (1, .int (nI n))]) hx hb dX12_goThrough_66 hl (by decide) rfl (fun ls hl => ?_)
            have loop_1460 : ∀ (fu j1460 : Nat)  (en_1460 : Nat → va_E) (ls : Array Slot) (H : Heap) (locs : List Loc), 0 ≤ j1460 → j1460 ≤ n → n < j1460 + fu → RX cy cs ad en_1460 → (∀ c, (c ≠ 0 ∧ c ≠ 6 ∧ c ≠ 7 ∧ c ≠ 10 ∧ c ≠ 11) → en_1460 c = en c) → (KP en en_1460) → (SD en_1413 en_1460) → lv_has ls 5 [(4, .int (nI j1460)), (2, .long r_1416), (0, .ref (ad 0)), (1, .int (nI n))] → Hp D (Af cs ad sz) (Af cs ad sz) s.heap H locs cs ad en_1460 → W p l e (headSpec (Cond.code yX12_goThrough cX12_goThrough 5 none :: TB) (rmN 3)).room s m ([.ref (ad 0), .int (nI n)] : List Value).toArray below meth c H locs 0 0 (MQ below (va_Qv (S := Nat → va_E) (fun en1 => RX cy cs ad en1 ∧ (∀ c, (c ≠ 0 ∧ c ≠ 6 ∧ c ≠ 7 ∧ c ≠ 10 ∧ c ≠ 11) → en1 c = en c) ∧ KP en en1) (PostM D cs ad) (Af cs ad sz)) ([.ref (ad 0), .int (nI n)] : List Value).toArray s 0 0 (Af cs ad sz)) (F0 m 68 ls []) := by
              intro fu
              induction fu with
              | zero => intro j1460  en_1460 ls H locs h0 h1 h2; exact absurd h2 (by omega)
              | succ fu ih_1460 =>
                intro j1460  en_1460 ls H locs hj0_1460 hj_1460 hfu_1460 hI_1460 hf_1460 i0_1460 i1_1460 hl hh
                refine lv_iload hx hb dX12_goThrough_68 (lv_at hl 0 rfl) ?_
                refine lv_iload_n hx hb dX12_goThrough_70 rfl (lv_at hl 3 rfl) ?_
                refine lv_icmp_ge (tgt := 94) hx hb dX12_goThrough_71 (by decide) (fun c_1461 => ?_) (fun c_1461 => ?_)
                · have n_1461 : n ≤ j1460 := n_le (a := n) (b := j1460) c_1461 (by omega) (by omega)
                  exact join_1417  en_1460 ls _ _ hI_1460 hf_1460 i0_1460 i1_1460 (lv_sub hl [1, 2, 3] rfl) hh
                · have n_1461 : j1460 < n := n_nle (a := n) (b := j1460) c_1461 (by omega) (by omega)
                  refine lv_aload_n hx hb dX12_goThrough_74 rfl (lv_at hl 2 rfl) ?_
                  obtain ⟨fa_1462, hi_1462, wd_1462, mo_1462, tb_1462, dp_1462, many_1462, grt_1462, lst_1462, nou_1462, rm_1462, rb_1462, pr_1462, wo_1462, es1462, p0_1462, p1_1462, p2_1462, p3_1462, p4_1462⟩ := getr_M hI_1460
                  have hq2_1463 : wd_1462 = wd := n_eq ((show nI wd_1462 = rdI (en_1460 0) 2 from by rw [es1462]; rfl).trans (i0_1460.2.1.trans (show rdI (en 0) 2 = nI wd from by rw [es1404]; rfl))) (by omega) (by omega)
                  have hq3_1463 : mo_1462 = mo := n_eq ((show nI mo_1462 = rdI (en_1460 0) 3 from by rw [es1462]; rfl).trans (i0_1460.2.2.1.trans (show rdI (en 0) 3 = nI mo from by rw [es1404]; rfl))) (by omega) (by omega)
                  have hq4_1463 : tb_1462 = tb := n_eq ((show nI tb_1462 = rdI (en_1460 0) 4 from by rw [es1462]; rfl).trans (i0_1460.2.2.2.1.trans (show rdI (en 0) 4 = nI tb from by rw [es1404]; rfl))) (by omega) (by omega)
                  have hq30_1463 : wo_1462 = wo := n_eq ((show nI wo_1462 = rdI (en_1460 0) 30 from by rw [es1462]; rfl).trans (i0_1460.2.2.2.2.2.trans (show rdI (en 0) 30 = nI wo from by rw [es1404]; rfl))) (by omega) (by omega)
                  rw [hq2_1463, hq3_1463, hq4_1463, hq30_1463] at es1462
                  refine hp_get hx hb hts ix12 hown hK hh (q := 0) rfl (hI.1 _ (by decide)) es1462 rfl 19 (by decide) (hts _ tw_898) (fun _ h9 => h9) rfl dX12_goThrough_75 ?_
                  refine lv_iload hx hb dX12_goThrough_78 (lv_at hl 0 rfl) ?_
                  refine lv_aload_n hx hb dX12_goThrough_80 rfl (lv_at hl 2 rfl) ?_
                  refine hp_get hx hb hts ix12 hown hK hh (q := 0) rfl (hI.1 _ (by decide)) es1462 rfl 11 (by decide) (hts _ tw_890) (fun _ h9 => h9) rfl dX12_goThrough_81 ?_
                  refine lv_iload hx hb dX12_goThrough_84 (lv_at hl 0 rfl) ?_
                  obtain ⟨f_1464, es1464⟩ := getr_nw hI_1460
                  refine hp_iald hx hb hK hh (q := 7) rfl (hI.1 _ (by decide)) es1464 (vp_in_nI (n := j1460) (by omega) (by decide)) dX12_goThrough_86 ?_
                  rw [nI_clamp (n := j1460) (by omega)]
                  obtain ⟨v_1465, hv_1465, hve_1465⟩ := hall_1413 j1460 (by omega)
                  rw [show f_1464 j1460 = nI v_1465 from (show f_1464 j1460 = rdF (en_1413 7) j1460 from by rw [← i1_1460.2, es1464]; rfl).trans hve_1465]
                  obtain ⟨f_1466, es1466⟩ := getr_gt hI_1460
                  refine hp_iast hx hb hK hh (q := 10) rfl (hI.1 _ (by decide)) es1466 (vp_in_nI (n := j1460) (by omega) (by decide)) dX12_goThrough_87 (fun H locs en_1467 hen_1467 hh => ?_)
                  rw [nI_clamp (n := j1460) (by omega)] at hen_1467
                  have es1462_1467 : en_1467 0 = .inr (11, [.int fa_1462, .int hi_1462, .int (nI wd), .int (nI mo), .int (nI tb), .ref (ad 1), .ref (ad 2), .ref (ad 3), .ref (ad 4), .ref (ad 5), .ref (ad 6), .ref (ad 7), .ref (ad 8), .ref (ad 9), .int dp_1462, .long many_1462, .long grt_1462, .long lst_1462, .long nou_1462, .ref (ad 10), .ref (ad 11), .ref (ad 12), .int rm_1462, .long rb_1462, .ref (ad 13), .int pr_1462, .ref (ad 14), .ref (ad 15), .ref (ad 16), .ref (ad 17), .int (nI wo), .ref (ad 18), .ref (ad 19)]) := by rw [hen_1467, va_up_ne _ _ (by decide)]; exact es1462
                  have es1464_1467 : en_1467 7 = .inl (cy 0, 13, .inl f_1464) := by rw [hen_1467, va_up_ne _ _ (by decide)]; exact es1464
                  have es1466_1467 : en_1467 10 = .inl (cy 0, 12, .inl (upd f_1466 j1460 (nI v_1465))) := by rw [hen_1467]; exact va_up_self _ _ _
                  have hI_1467 : RX cy cs ad en_1467 := by rw [hen_1467]; exact upr_gt hI_1460 ⟨(upd f_1466 j1460 (nI v_1465)), rfl⟩
                  have hf_1467 : ∀ c, (c ≠ 0 ∧ c ≠ 6 ∧ c ≠ 7 ∧ c ≠ 10 ∧ c ≠ 11) → en_1467 c = en c := fun c hc => Eq.trans (show en_1467 c = en_1460 c from by rw [hen_1467, va_up_ne _ _ (by omega)]) (hf_1460 c hc)
                  have hkp_1467 : KP en en_1467 := KP_same i0_1460 (show en_1467 0 = en_1460 0 from by rw [hen_1467, va_up_ne _ _ (by decide)])
                  have hsd_1467 : SD en_1413 en_1467 := SD_same i1_1460 (show en_1467 0 = en_1460 0 from by rw [hen_1467, va_up_ne _ _ (by decide)]) (show en_1467 7 = en_1460 7 from by rw [hen_1467, va_up_ne _ _ (by decide)])
                  refine lv_iinc (v := (nI (j1460 + 1))) (lv' := [(4, .int (nI (j1460 + 1))), (2, .long r_1416), (0, .ref (ad 0)), (1, .int (nI n))]) hx hb dX12_goThrough_88 hl (k := 0) rfl (nI_1 _) (by decide) rfl (fun ls hl => ?_)
                  refine lv_goto (tgt := 68) hx hb dX12_goThrough_91 (by decide) ?_
                  exact ih_1460 ((j1460 + 1))  en_1467 ls H locs (by omega) (by omega) (by omega) hI_1467 hf_1467 (hkp_1467) (hsd_1467) (lv_sub hl [0, 1, 2, 3] rfl) hh
            exact loop_1460 (n + 1) 0  en_1459 ls _ _ (Nat.le_refl _) (by omega) (by omega) hI_1459 hf_1459 (hkp_1459) (hsd_1459) (lv_sub hl [0, 1, 2, 3] rfl) hh
  exact loop_1410 (134217728 + 1) 134217728 0 0 en_1409 ls _ _ (by omega) hI_1409 hf_1409 (hND_1409) (by omega) (hkp_1409) (lv_sub hl [0, 1] rfl) hh
theorem kw_X12_goThrough {R : Room} {s : State} {args : Array Value} {own : String} {idx : Nat} (hts : ∀ w ∈ TB, w.before args s = true) (hl : Cond.methodLink own idx yX12_goThrough ∈ TB) (hR : 3 + 1 ≤ R.frames ∧ 8 + (5 + 11) + 40 * 3 ≤ R.locals) : CallW R s args own RX12 idx yX12_goThrough cX12_goThrough 5 none (Cond.code yX12_goThrough cX12_goThrough 5 none :: TB) (rmN 3) 0 0 1 := cwV 1 hts (TB_V hl tw_1036 ts_37 tw_9 tw_1037) rfl rfl rfl (by decide +kernel) hR
set_option maxHeartbeats 4000000 in
set_option maxRecDepth 100000 in
/-- X12_length -/
theorem c_X12_length (l : Launch) (D : va_G) (cy : Nat → ClassId) (sz : Nat) (cs : List Nat) (ad : Nat → Nat) (en : Nat → va_E) (hI : RX cy cs ad en) (n9 w9 : Int32)   : Met l yX12_length (Cond.code yX12_length cX12_length 3 (some .long) :: TB) (rmN 4) (va_Pc [.ref (ad 0), .int n9, .int w9] (Pre D cy cs ad en sz)) (va_Ql (S := Nat → va_E) (fun r en1 => RX cy cs ad en1 ∧ (∀ c, (c ≠ 0 ∧ c ≠ 6 ∧ c ≠ 7 ∧ c ≠ 8 ∧ c ≠ 9 ∧ c ≠ 10 ∧ c ≠ 11) → en1 c = en c) ∧ KP en en1) (PostM D cs ad) (Af cs ad sz)) 0 0 (Af cs ad sz) := by
  refine Met.ofW (cc := cX12_length) (maxL := 3) (ret := (some .long)) (by decide) rfl ?_
  intro p e s m args below meth c s₁ B hml hv
  obtain ⟨rfl, hsz, hP, hK, hD0⟩ := hv
  have hx := B.exec
  have hb := B.bytes
  have hr := B.returns
  have hts : ∀ w ∈ TB, w.before _ s = true := fun w h => atoms_spec (ws := _ :: TB) B.pre w (List.mem_cons_of_mem _ h)
  have hown : s.vm.findClass RX12 = some m.cls := findClass_of_methodNamed B.named
  have hlocks := B.notSynchronized
  have hh : Hp D (Af cs ad sz) (Af cs ad sz) s.heap s.heap [] cs ad en := ⟨hP, Af_self hD0, va_S.rf⟩
  have hA : ∀ q : Nat, s.heap.size ≤ q → Af cs ad sz q := fun q h => Or.inr (by rw [hsz] at h; exact h)
  have hl := lv_entry ([.ref (ad 0), .int n9, .int w9]) (n := 3) (Nat.le_of_ble_eq_true rfl)
  rw [lg_entry_eq]
  generalize (lg_sl ([.ref (ad 0), .int n9, .int w9]) ++ List.replicate (3 - (lg_sl ([.ref (ad 0), .int n9, .int w9])).length) Slot.unset).toArray = ls at hl ⊢
  have hl : lv_has ls 3 [(0, .ref (ad 0)), (1, .int n9), (2, .int w9)] := hl
  have hf0 : ∀ c, (c ≠ 0 ∧ c ≠ 6 ∧ c ≠ 7 ∧ c ≠ 8 ∧ c ≠ 9 ∧ c ≠ 10 ∧ c ≠ 11) → en c = en c := fun _ _ => rfl
  obtain ⟨fa, hi, wd, mo, tb, dp, many, grt, lst, nou, rm, rb, pr, wo, es1468, hwd2, hwd3, hmo, htb, hwo⟩ := getr_M hI
  refine lv_iload_n hx hb dX12_length_0 rfl (lv_at hl 1 rfl) ?_
  refine lv_i2l hx hb dX12_length_1 rfl ?_
  refine lv_lconst (v := 1) hx hb dX12_length_2 (by decide) ?_
  refine lv_ldc2 hx hb hown (hts _ tw_1024) dX12_length_3 ?_
  refine hp_callRi (va_runS (As := [.long n9.toInt64, .long 1, .long 8]) (rest := []) ⟨hx, hb, hml, hown, hts⟩ (c_X12_within l D cy _ cs ad en n9.toInt64 1 8) (kw_X12_within hts tw_985 ⟨by decide, by decide⟩) (preS_of hh hK) rfl rfl hl.1 rfl (lv_room (Nat.le_of_ble_eq_true rfl)) dX12_length_6 ⟨Nat.le_of_ble_eq_true rfl, Nat.le_of_ble_eq_true rfl⟩) hh hA (fun r_1469 H locs hw_1469 hh => ?_)
  rcases Decidable.em (wi n9 1 8) with hp_1469 | hp_1469
  · obtain rfl : r_1469 = 1 := Eq.trans hw_1469 (if_pos ((wj_32 (by decide) (by decide)).mpr hp_1469))
    obtain ⟨N_1469, rfl, hA_1469, hB_1469⟩ := wi_natB hp_1469 1 8 (by decide) (by decide)
    refine lv_if_eq (tgt := 32) hx hb dX12_length_9 (by decide) (fun c_0 => absurd c_0 (by decide)) (fun _ => ?_)
    refine lv_iload_n hx hb dX12_length_12 rfl (lv_at hl 2 rfl) ?_
    refine lv_i2l hx hb dX12_length_13 rfl ?_
    refine lv_lconst (v := 0) hx hb dX12_length_14 (by decide) ?_
    refine lv_ldc2 hx hb hown (hts _ tw_984) dX12_length_15 ?_
    refine hp_callRi (va_runS (As := [.long w9.toInt64, .long 0, .long 3]) (rest := []) ⟨hx, hb, hml, hown, hts⟩ (c_X12_within l D cy _ cs ad en w9.toInt64 0 3) (kw_X12_within hts tw_985 ⟨by decide, by decide⟩) (preS_of hh hK) rfl rfl hl.1 rfl (lv_room (Nat.le_of_ble_eq_true rfl)) dX12_length_18 ⟨Nat.le_of_ble_eq_true rfl, Nat.le_of_ble_eq_true rfl⟩) hh hA (fun r_1470 H locs hw_1470 hh => ?_)
    rcases Decidable.em (wi w9 0 3) with hp_1470 | hp_1470
    · obtain rfl : r_1470 = 1 := Eq.trans hw_1470 (if_pos ((wj_32 (by decide) (by decide)).mpr hp_1470))
      obtain ⟨N_1470, rfl, hA_1470, hB_1470⟩ := wi_natB hp_1470 0 3 (by decide) (by decide)
      refine lv_if_eq (tgt := 32) hx hb dX12_length_21 (by decide) (fun c_0 => absurd c_0 (by decide)) (fun _ => ?_)
      refine lv_aload_n hx hb dX12_length_24 rfl (lv_at hl 0 rfl) ?_
      refine lv_iload_n hx hb dX12_length_25 rfl (lv_at hl 1 rfl) ?_
      refine hp_callMi (va_runV (As := [.int (nI N_1469)]) (rest := []) ⟨hx, hb, hml, hown, hts⟩ (c_X12_isSpent l D cy _ cs ad en hI N_1469 (by omega)) (kw_X12_isSpent hts tw_1025 ⟨by decide, by decide⟩) (preV_of hh hK (hI.1 _ (by decide)) es1468 rfl) rfl rfl hl.1 rfl (lv_room (Nat.le_of_ble_eq_true rfl)) dX12_length_26 ⟨Nat.le_of_ble_eq_true rfl, Nat.le_of_ble_eq_true rfl⟩) hh hA (fun r_1471 H locs en_1471 hw_1471 hh => ?_)
      obtain ⟨hI_1471, hu_1471, hx_1471⟩ := hw_1471
      have es1468_1471 : en_1471 0 = .inr (11, [.int fa, .int hi, .int (nI wd), .int (nI mo), .int (nI tb), .ref (ad 1), .ref (ad 2), .ref (ad 3), .ref (ad 4), .ref (ad 5), .ref (ad 6), .ref (ad 7), .ref (ad 8), .ref (ad 9), .int dp, .long many, .long grt, .long lst, .long nou, .ref (ad 10), .ref (ad 11), .ref (ad 12), .int rm, .long rb, .ref (ad 13), .int pr, .ref (ad 14), .ref (ad 15), .ref (ad 16), .ref (ad 17), .int (nI wo), .ref (ad 18), .ref (ad 19)]) := (hu_1471 0 (by omega)).trans es1468
      have hf_1471 : ∀ c, (c ≠ 0 ∧ c ≠ 6 ∧ c ≠ 7 ∧ c ≠ 8 ∧ c ≠ 9 ∧ c ≠ 10 ∧ c ≠ 11) → en_1471 c = en c := fun c hc => (hu_1471 c (by omega)).trans (hf0 c hc)
      have hkp_1471 : KP en en_1471 := KP_same (KP_rf en) (hu_1471 0 (by omega))
      have hw_1471 := hx_1471
      rcases hw_1471 with hb_1471 | hb_1471
      · obtain rfl : r_1471 = 0 := hb_1471
        refine lv_if_eq (tgt := 36) hx hb dX12_length_29 (by decide) (fun _ => ?_) (fun c_0 => absurd c_0 (by decide))
        refine lv_aload_n hx hb dX12_length_36 rfl (lv_at hl 0 rfl) ?_
        refine lv_iload_n hx hb dX12_length_37 rfl (lv_at hl 1 rfl) ?_
        refine hp_callMv (va_runV (As := [.int (nI N_1469)]) (rest := []) ⟨hx, hb, hml, hown, hts⟩ (c_X12_goThrough l D cy _ cs ad en_1471 hI_1471 N_1469 (by omega) (by omega)) (kw_X12_goThrough hts tw_1034 ⟨by decide, by decide⟩) (preV_of hh hK (hI.1 _ (by decide)) es1468_1471 rfl) rfl rfl hl.1 rfl (lv_room (Nat.le_of_ble_eq_true rfl)) dX12_length_38 ⟨Nat.le_of_ble_eq_true rfl, Nat.le_of_ble_eq_true rfl⟩) hh hA (fun H locs en_1472 hw_1472 hh => ?_)
        obtain ⟨hI_1472, hu_1472, hx_1472⟩ := hw_1472
        have hf_1472 : ∀ c, (c ≠ 0 ∧ c ≠ 6 ∧ c ≠ 7 ∧ c ≠ 8 ∧ c ≠ 9 ∧ c ≠ 10 ∧ c ≠ 11) → en_1472 c = en c := fun c hc => (hu_1472 c (by omega)).trans (hf_1471 c hc)
        have hkp_1472 : KP en en_1472 := KP_tr hkp_1471 hx_1472
        refine lv_iload_n hx hb dX12_length_41 rfl (lv_at hl 2 rfl) ?_
        refine lv_if_ne (tgt := 52) hx hb dX12_length_42 (by decide) (fun c_1473 => ?_) (fun c_1473 => ?_)
        · have n_1473 : N_1470 ≠ 0 := n_neq (a := N_1470) (b := 0) c_1473 (by omega) (by decide)
          refine lv_iload_n hx hb dX12_length_52 rfl (lv_at hl 2 rfl) ?_
          refine lv_iconst (v := 1) hx hb dX12_length_53 (by decide) ?_
          refine lv_icmp_ne (tgt := 64) hx hb dX12_length_54 (by decide) (fun c_1474 => ?_) (fun c_1474 => ?_)
          · have n_1474 : N_1470 ≠ 1 := n_neq (a := N_1470) (b := 1) c_1474 (by omega) (by decide)
            refine lv_iload_n hx hb dX12_length_64 rfl (lv_at hl 2 rfl) ?_
            refine lv_iconst (v := 2) hx hb dX12_length_65 (by decide) ?_
            refine lv_icmp_ne (tgt := 76) hx hb dX12_length_66 (by decide) (fun c_1475 => ?_) (fun c_1475 => ?_)
            · have n_1475 : N_1470 ≠ 2 := n_neq (a := N_1470) (b := 2) c_1475 (by omega) (by decide)
              refine lv_aload_n hx hb dX12_length_76 rfl (lv_at hl 0 rfl) ?_
              obtain ⟨fa_1476, hi_1476, wd_1476, mo_1476, tb_1476, dp_1476, many_1476, grt_1476, lst_1476, nou_1476, rm_1476, rb_1476, pr_1476, wo_1476, es1476, p0_1476, p1_1476, p2_1476, p3_1476, p4_1476⟩ := getr_M hI_1472
              have hq2_1477 : wd_1476 = wd := n_eq ((show nI wd_1476 = rdI (en_1472 0) 2 from by rw [es1476]; rfl).trans (hkp_1472.2.1.trans (show rdI (en 0) 2 = nI wd from by rw [es1468]; rfl))) (by omega) (by omega)
              have hq3_1477 : mo_1476 = mo := n_eq ((show nI mo_1476 = rdI (en_1472 0) 3 from by rw [es1476]; rfl).trans (hkp_1472.2.2.1.trans (show rdI (en 0) 3 = nI mo from by rw [es1468]; rfl))) (by omega) (by omega)
              have hq4_1477 : tb_1476 = tb := n_eq ((show nI tb_1476 = rdI (en_1472 0) 4 from by rw [es1476]; rfl).trans (hkp_1472.2.2.2.1.trans (show rdI (en 0) 4 = nI tb from by rw [es1468]; rfl))) (by omega) (by omega)
              have hq30_1477 : wo_1476 = wo := n_eq ((show nI wo_1476 = rdI (en_1472 0) 30 from by rw [es1476]; rfl).trans (hkp_1472.2.2.2.2.2.trans (show rdI (en 0) 30 = nI wo from by rw [es1468]; rfl))) (by omega) (by omega)
              rw [hq2_1477, hq3_1477, hq4_1477, hq30_1477] at es1476
              refine hp_get hx hb hts ix12 hown hK hh (q := 0) rfl (hI.1 _ (by decide)) es1476 rfl 18 (by decide) (hts _ tw_897) (fun _ h9 => h9) rfl dX12_length_77 ?_
              exact hp_lretM hx hb hr hlocks hh (⟨hI_1472, hf_1472, hkp_1472⟩) dX12_length_80
            · have n_1475 : N_1470 = 2 := n_eq (a := N_1470) (b := 2) c_1475 (by omega) (by decide)
              refine lv_aload_n hx hb dX12_length_69 rfl (lv_at hl 0 rfl) ?_
              obtain ⟨fa_1478, hi_1478, wd_1478, mo_1478, tb_1478, dp_1478, many_1478, grt_1478, lst_1478, nou_1478, rm_1478, rb_1478, pr_1478, wo_1478, es1478, p0_1478, p1_1478, p2_1478, p3_1478, p4_1478⟩ := getr_M hI_1472
              have hq2_1479 : wd_1478 = wd := n_eq ((show nI wd_1478 = rdI (en_1472 0) 2 from by rw [es1478]; rfl).trans (hkp_1472.2.1.trans (show rdI (en 0) 2 = nI wd from by rw [es1468]; rfl))) (by omega) (by omega)
              have hq3_1479 : mo_1478 = mo := n_eq ((show nI mo_1478 = rdI (en_1472 0) 3 from by rw [es1478]; rfl).trans (hkp_1472.2.2.1.trans (show rdI (en 0) 3 = nI mo from by rw [es1468]; rfl))) (by omega) (by omega)
              have hq4_1479 : tb_1478 = tb := n_eq ((show nI tb_1478 = rdI (en_1472 0) 4 from by rw [es1478]; rfl).trans (hkp_1472.2.2.2.1.trans (show rdI (en 0) 4 = nI tb from by rw [es1468]; rfl))) (by omega) (by omega)
              have hq30_1479 : wo_1478 = wo := n_eq ((show nI wo_1478 = rdI (en_1472 0) 30 from by rw [es1478]; rfl).trans (hkp_1472.2.2.2.2.2.trans (show rdI (en 0) 30 = nI wo from by rw [es1468]; rfl))) (by omega) (by omega)
              rw [hq2_1479, hq3_1479, hq4_1479, hq30_1479] at es1478
              refine hp_get hx hb hts ix12 hown hK hh (q := 0) rfl (hI.1 _ (by decide)) es1478 rfl 17 (by decide) (hts _ tw_896) (fun _ h9 => h9) rfl dX12_length_70 ?_
              refine lv_goto (tgt := 80) hx hb dX12_length_73 (by decide) ?_
              exact hp_lretM hx hb hr hlocks hh (⟨hI_1472, hf_1472, hkp_1472⟩) dX12_length_80
          · have n_1474 : N_1470 = 1 := n_eq (a := N_1470) (b := 1) c_1474 (by omega) (by decide)
            refine lv_aload_n hx hb dX12_length_57 rfl (lv_at hl 0 rfl) ?_
            obtain ⟨fa_1480, hi_1480, wd_1480, mo_1480, tb_1480, dp_1480, many_1480, grt_1480, lst_1480, nou_1480, rm_1480, rb_1480, pr_1480, wo_1480, es1480, p0_1480, p1_1480, p2_1480, p3_1480, p4_1480⟩ := getr_M hI_1472
            have hq2_1481 : wd_1480 = wd := n_eq ((show nI wd_1480 = rdI (en_1472 0) 2 from by rw [es1480]; rfl).trans (hkp_1472.2.1.trans (show rdI (en 0) 2 = nI wd from by rw [es1468]; rfl))) (by omega) (by omega)
            have hq3_1481 : mo_1480 = mo := n_eq ((show nI mo_1480 = rdI (en_1472 0) 3 from by rw [es1480]; rfl).trans (hkp_1472.2.2.1.trans (show rdI (en 0) 3 = nI mo from by rw [es1468]; rfl))) (by omega) (by omega)
            have hq4_1481 : tb_1480 = tb := n_eq ((show nI tb_1480 = rdI (en_1472 0) 4 from by rw [es1480]; rfl).trans (hkp_1472.2.2.2.1.trans (show rdI (en 0) 4 = nI tb from by rw [es1468]; rfl))) (by omega) (by omega)
            have hq30_1481 : wo_1480 = wo := n_eq ((show nI wo_1480 = rdI (en_1472 0) 30 from by rw [es1480]; rfl).trans (hkp_1472.2.2.2.2.2.trans (show rdI (en 0) 30 = nI wo from by rw [es1468]; rfl))) (by omega) (by omega)
            rw [hq2_1481, hq3_1481, hq4_1481, hq30_1481] at es1480
            refine hp_get hx hb hts ix12 hown hK hh (q := 0) rfl (hI.1 _ (by decide)) es1480 rfl 16 (by decide) (hts _ tw_895) (fun _ h9 => h9) rfl dX12_length_58 ?_
            refine lv_goto (tgt := 80) hx hb dX12_length_61 (by decide) ?_
            exact hp_lretM hx hb hr hlocks hh (⟨hI_1472, hf_1472, hkp_1472⟩) dX12_length_80
        · have n_1473 : N_1470 = 0 := n_eq (a := N_1470) (b := 0) c_1473 (by omega) (by decide)
          refine lv_aload_n hx hb dX12_length_45 rfl (lv_at hl 0 rfl) ?_
          obtain ⟨fa_1482, hi_1482, wd_1482, mo_1482, tb_1482, dp_1482, many_1482, grt_1482, lst_1482, nou_1482, rm_1482, rb_1482, pr_1482, wo_1482, es1482, p0_1482, p1_1482, p2_1482, p3_1482, p4_1482⟩ := getr_M hI_1472
          have hq2_1483 : wd_1482 = wd := n_eq ((show nI wd_1482 = rdI (en_1472 0) 2 from by rw [es1482]; rfl).trans (hkp_1472.2.1.trans (show rdI (en 0) 2 = nI wd from by rw [es1468]; rfl))) (by omega) (by omega)
          have hq3_1483 : mo_1482 = mo := n_eq ((show nI mo_1482 = rdI (en_1472 0) 3 from by rw [es1482]; rfl).trans (hkp_1472.2.2.1.trans (show rdI (en 0) 3 = nI mo from by rw [es1468]; rfl))) (by omega) (by omega)
          have hq4_1483 : tb_1482 = tb := n_eq ((show nI tb_1482 = rdI (en_1472 0) 4 from by rw [es1482]; rfl).trans (hkp_1472.2.2.2.1.trans (show rdI (en 0) 4 = nI tb from by rw [es1468]; rfl))) (by omega) (by omega)
          have hq30_1483 : wo_1482 = wo := n_eq ((show nI wo_1482 = rdI (en_1472 0) 30 from by rw [es1482]; rfl).trans (hkp_1472.2.2.2.2.2.trans (show rdI (en 0) 30 = nI wo from by rw [es1468]; rfl))) (by omega) (by omega)
          rw [hq2_1483, hq3_1483, hq4_1483, hq30_1483] at es1482
          refine hp_get hx hb hts ix12 hown hK hh (q := 0) rfl (hI.1 _ (by decide)) es1482 rfl 15 (by decide) (hts _ tw_894) (fun _ h9 => h9) rfl dX12_length_46 ?_
          refine lv_goto (tgt := 80) hx hb dX12_length_49 (by decide) ?_
          exact hp_lretM hx hb hr hlocks hh (⟨hI_1472, hf_1472, hkp_1472⟩) dX12_length_80
      · obtain rfl : r_1471 = 1 := hb_1471
        refine lv_if_eq (tgt := 36) hx hb dX12_length_29 (by decide) (fun c_0 => absurd c_0 (by decide)) (fun _ => ?_)
        refine lv_ldc2 hx hb hown (hts _ tw_1015) dX12_length_32 ?_
        exact hp_lretM hx hb hr hlocks hh (⟨hI_1471, hf_1471, hkp_1471⟩) dX12_length_35
    · obtain rfl : r_1470 = 0 := Eq.trans hw_1470 (if_neg (fun q => hp_1470 ((wj_32 (by decide) (by decide)).mp q)))
      refine lv_if_eq (tgt := 32) hx hb dX12_length_21 (by decide) (fun _ => ?_) (fun c_0 => absurd c_0 (by decide))
      refine lv_ldc2 hx hb hown (hts _ tw_1015) dX12_length_32 ?_
      exact hp_lretM hx hb hr hlocks hh (⟨hI, hf0, (KP_rf en)⟩) dX12_length_35
  · obtain rfl : r_1469 = 0 := Eq.trans hw_1469 (if_neg (fun q => hp_1469 ((wj_32 (by decide) (by decide)).mp q)))
    refine lv_if_eq (tgt := 32) hx hb dX12_length_9 (by decide) (fun _ => ?_) (fun c_0 => absurd c_0 (by decide))
    refine lv_ldc2 hx hb hown (hts _ tw_1015) dX12_length_32 ?_
    exact hp_lretM hx hb hr hlocks hh (⟨hI, hf0, (KP_rf en)⟩) dX12_length_35
theorem kw_X12_length {R : Room} {s : State} {args : Array Value} {own : String} {idx : Nat} (hts : ∀ w ∈ TB, w.before args s = true) (hl : Cond.methodLink own idx yX12_length ∈ TB) (hR : 4 + 1 ≤ R.frames ∧ 8 + (3 + 11) + 40 * 4 ≤ R.locals) : CallW R s args own RX12 idx yX12_length cX12_length 3 (some .long) (Cond.code yX12_length cX12_length 3 (some .long) :: TB) (rmN 4) 0 0 2 := cwV 2 hts (TB_V hl tw_1021 tw_1022 tw_9 tw_1023) rfl rfl rfl (by decide +kernel) hR
set_option maxHeartbeats 4000000 in
set_option maxRecDepth 100000 in
/-- X12_extreme -/
theorem c_X12_extreme (l : Launch) (D : va_G) (cy : Nat → ClassId) (sz : Nat) (cs : List Nat) (ad : Nat → Nat) (en : Nat → va_E) (hI : RX cy cs ad en) (n9 z9 i9 : Int32)   : Met l yX12_extreme (Cond.code yX12_extreme cX12_extreme 4 (some .int) :: TB) (rmN 4) (va_Pc [.ref (ad 0), .int n9, .int z9, .int i9] (Pre D cy cs ad en sz)) (va_Qi (S := Nat → va_E) (fun r en1 => RX cy cs ad en1 ∧ (∀ c, (c ≠ 0 ∧ c ≠ 6 ∧ c ≠ 7 ∧ c ≠ 8 ∧ c ≠ 9 ∧ c ≠ 10 ∧ c ≠ 11) → en1 c = en c) ∧ KP en en1) (PostM D cs ad) (Af cs ad sz)) 0 0 (Af cs ad sz) := by
  refine Met.ofW (cc := cX12_extreme) (maxL := 4) (ret := (some .int)) (by decide) rfl ?_
  intro p e s m args below meth c s₁ B hml hv
  obtain ⟨rfl, hsz, hP, hK, hD0⟩ := hv
  have hx := B.exec
  have hb := B.bytes
  have hr := B.returns
  have hts : ∀ w ∈ TB, w.before _ s = true := fun w h => atoms_spec (ws := _ :: TB) B.pre w (List.mem_cons_of_mem _ h)
  have hown : s.vm.findClass RX12 = some m.cls := findClass_of_methodNamed B.named
  have hlocks := B.notSynchronized
  have hh : Hp D (Af cs ad sz) (Af cs ad sz) s.heap s.heap [] cs ad en := ⟨hP, Af_self hD0, va_S.rf⟩
  have hA : ∀ q : Nat, s.heap.size ≤ q → Af cs ad sz q := fun q h => Or.inr (by rw [hsz] at h; exact h)
  have hl := lv_entry ([.ref (ad 0), .int n9, .int z9, .int i9]) (n := 4) (Nat.le_of_ble_eq_true rfl)
  rw [lg_entry_eq]
  generalize (lg_sl ([.ref (ad 0), .int n9, .int z9, .int i9]) ++ List.replicate (4 - (lg_sl ([.ref (ad 0), .int n9, .int z9, .int i9])).length) Slot.unset).toArray = ls at hl ⊢
  have hl : lv_has ls 4 [(0, .ref (ad 0)), (1, .int n9), (2, .int z9), (3, .int i9)] := hl
  have hf0 : ∀ c, (c ≠ 0 ∧ c ≠ 6 ∧ c ≠ 7 ∧ c ≠ 8 ∧ c ≠ 9 ∧ c ≠ 10 ∧ c ≠ 11) → en c = en c := fun _ _ => rfl
  obtain ⟨fa, hi, wd, mo, tb, dp, many, grt, lst, nou, rm, rb, pr, wo, es1484, hwd2, hwd3, hmo, htb, hwo⟩ := getr_M hI
  refine lv_iload_n hx hb dX12_extreme_0 rfl (lv_at hl 1 rfl) ?_
  refine lv_i2l hx hb dX12_extreme_1 rfl ?_
  refine lv_lconst (v := 1) hx hb dX12_extreme_2 (by decide) ?_
  refine lv_ldc2 hx hb hown (hts _ tw_1024) dX12_extreme_3 ?_
  refine hp_callRi (va_runS (As := [.long n9.toInt64, .long 1, .long 8]) (rest := []) ⟨hx, hb, hml, hown, hts⟩ (c_X12_within l D cy _ cs ad en n9.toInt64 1 8) (kw_X12_within hts tw_985 ⟨by decide, by decide⟩) (preS_of hh hK) rfl rfl hl.1 rfl (lv_room (Nat.le_of_ble_eq_true rfl)) dX12_extreme_6 ⟨Nat.le_of_ble_eq_true rfl, Nat.le_of_ble_eq_true rfl⟩) hh hA (fun r_1485 H locs hw_1485 hh => ?_)
  rcases Decidable.em (wi n9 1 8) with hp_1485 | hp_1485
  · obtain rfl : r_1485 = 1 := Eq.trans hw_1485 (if_pos ((wj_32 (by decide) (by decide)).mpr hp_1485))
    obtain ⟨N_1485, rfl, hA_1485, hB_1485⟩ := wi_natB hp_1485 1 8 (by decide) (by decide)
    refine lv_if_eq (tgt := 35) hx hb dX12_extreme_9 (by decide) (fun c_0 => absurd c_0 (by decide)) (fun _ => ?_)
    refine lv_iload_n hx hb dX12_extreme_12 rfl (lv_at hl 2 rfl) ?_
    refine lv_i2l hx hb dX12_extreme_13 rfl ?_
    refine lv_lconst (v := 0) hx hb dX12_extreme_14 (by decide) ?_
    refine lv_lconst (v := 1) hx hb dX12_extreme_15 (by decide) ?_
    refine hp_callRi (va_runS (As := [.long z9.toInt64, .long 0, .long 1]) (rest := []) ⟨hx, hb, hml, hown, hts⟩ (c_X12_within l D cy _ cs ad en z9.toInt64 0 1) (kw_X12_within hts tw_985 ⟨by decide, by decide⟩) (preS_of hh hK) rfl rfl hl.1 rfl (lv_room (Nat.le_of_ble_eq_true rfl)) dX12_extreme_16 ⟨Nat.le_of_ble_eq_true rfl, Nat.le_of_ble_eq_true rfl⟩) hh hA (fun r_1486 H locs hw_1486 hh => ?_)
    rcases Decidable.em (wi z9 0 1) with hp_1486 | hp_1486
    · obtain rfl : r_1486 = 1 := Eq.trans hw_1486 (if_pos ((wj_32 (by decide) (by decide)).mpr hp_1486))
      obtain ⟨N_1486, rfl, hA_1486, hB_1486⟩ := wi_natB hp_1486 0 1 (by decide) (by decide)
      refine lv_if_eq (tgt := 35) hx hb dX12_extreme_19 (by decide) (fun c_0 => absurd c_0 (by decide)) (fun _ => ?_)
      refine lv_iload_n hx hb dX12_extreme_22 rfl (lv_at hl 3 rfl) ?_
      refine lv_i2l hx hb dX12_extreme_23 rfl ?_
      refine lv_lconst (v := 0) hx hb dX12_extreme_24 (by decide) ?_
      refine lv_iload_n hx hb dX12_extreme_25 rfl (lv_at hl 1 rfl) ?_
      refine lv_i2l hx hb dX12_extreme_26 rfl ?_
      refine lv_lconst (v := 1) hx hb dX12_extreme_27 (by decide) ?_
      refine lv_lsub hx hb dX12_extreme_28 ?_
      refine hp_callRi (va_runS (As := [.long i9.toInt64, .long 0, .long ((nI N_1485).toInt64 - 1)]) (rest := []) ⟨hx, hb, hml, hown, hts⟩ (c_X12_within l D cy _ cs ad en i9.toInt64 0 ((nI N_1485).toInt64 - 1)) (kw_X12_within hts tw_985 ⟨by decide, by decide⟩) (preS_of hh hK) rfl rfl hl.1 rfl (lv_room (Nat.le_of_ble_eq_true rfl)) dX12_extreme_29 ⟨Nat.le_of_ble_eq_true rfl, Nat.le_of_ble_eq_true rfl⟩) hh hA (fun r_1487 H locs hw_1487 hh => ?_)
      rcases Decidable.em (0 ≤ i9.toInt ∧ i9.toInt < (N_1485 : Int)) with hp_1487 | hp_1487
      · obtain rfl : r_1487 = 1 := Eq.trans hw_1487 (if_pos ((wj_m1 (by omega)).mpr hp_1487))
        obtain ⟨N_1487, rfl, hB_1487⟩ := has_nat hp_1487
        refine lv_if_ne (tgt := 38) hx hb dX12_extreme_32 (by decide) (fun _ => ?_) (fun c_0 => absurd c_0 (by decide))
        refine lv_aload_n hx hb dX12_extreme_38 rfl (lv_at hl 0 rfl) ?_
        refine lv_iload_n hx hb dX12_extreme_39 rfl (lv_at hl 1 rfl) ?_
        refine hp_callMi (va_runV (As := [.int (nI N_1485)]) (rest := []) ⟨hx, hb, hml, hown, hts⟩ (c_X12_isSpent l D cy _ cs ad en hI N_1485 (by omega)) (kw_X12_isSpent hts tw_1025 ⟨by decide, by decide⟩) (preV_of hh hK (hI.1 _ (by decide)) es1484 rfl) rfl rfl hl.1 rfl (lv_room (Nat.le_of_ble_eq_true rfl)) dX12_extreme_40 ⟨Nat.le_of_ble_eq_true rfl, Nat.le_of_ble_eq_true rfl⟩) hh hA (fun r_1488 H locs en_1488 hw_1488 hh => ?_)
        obtain ⟨hI_1488, hu_1488, hx_1488⟩ := hw_1488
        have es1484_1488 : en_1488 0 = .inr (11, [.int fa, .int hi, .int (nI wd), .int (nI mo), .int (nI tb), .ref (ad 1), .ref (ad 2), .ref (ad 3), .ref (ad 4), .ref (ad 5), .ref (ad 6), .ref (ad 7), .ref (ad 8), .ref (ad 9), .int dp, .long many, .long grt, .long lst, .long nou, .ref (ad 10), .ref (ad 11), .ref (ad 12), .int rm, .long rb, .ref (ad 13), .int pr, .ref (ad 14), .ref (ad 15), .ref (ad 16), .ref (ad 17), .int (nI wo), .ref (ad 18), .ref (ad 19)]) := (hu_1488 0 (by omega)).trans es1484
        have hf_1488 : ∀ c, (c ≠ 0 ∧ c ≠ 6 ∧ c ≠ 7 ∧ c ≠ 8 ∧ c ≠ 9 ∧ c ≠ 10 ∧ c ≠ 11) → en_1488 c = en c := fun c hc => (hu_1488 c (by omega)).trans (hf0 c hc)
        have hkp_1488 : KP en en_1488 := KP_same (KP_rf en) (hu_1488 0 (by omega))
        have hw_1488 := hx_1488
        rcases hw_1488 with hb_1488 | hb_1488
        · obtain rfl : r_1488 = 0 := hb_1488
          refine lv_if_eq (tgt := 49) hx hb dX12_extreme_43 (by decide) (fun _ => ?_) (fun c_0 => absurd c_0 (by decide))
          refine lv_aload_n hx hb dX12_extreme_49 rfl (lv_at hl 0 rfl) ?_
          refine lv_iload_n hx hb dX12_extreme_50 rfl (lv_at hl 1 rfl) ?_
          refine hp_callMv (va_runV (As := [.int (nI N_1485)]) (rest := []) ⟨hx, hb, hml, hown, hts⟩ (c_X12_goThrough l D cy _ cs ad en_1488 hI_1488 N_1485 (by omega) (by omega)) (kw_X12_goThrough hts tw_1034 ⟨by decide, by decide⟩) (preV_of hh hK (hI.1 _ (by decide)) es1484_1488 rfl) rfl rfl hl.1 rfl (lv_room (Nat.le_of_ble_eq_true rfl)) dX12_extreme_51 ⟨Nat.le_of_ble_eq_true rfl, Nat.le_of_ble_eq_true rfl⟩) hh hA (fun H locs en_1489 hw_1489 hh => ?_)
          obtain ⟨hI_1489, hu_1489, hx_1489⟩ := hw_1489
          have hf_1489 : ∀ c, (c ≠ 0 ∧ c ≠ 6 ∧ c ≠ 7 ∧ c ≠ 8 ∧ c ≠ 9 ∧ c ≠ 10 ∧ c ≠ 11) → en_1489 c = en c := fun c hc => (hu_1489 c (by omega)).trans (hf_1488 c hc)
          have hkp_1489 : KP en en_1489 := KP_tr hkp_1488 hx_1489
          refine lv_aload_n hx hb dX12_extreme_54 rfl (lv_at hl 0 rfl) ?_
          obtain ⟨fa_1490, hi_1490, wd_1490, mo_1490, tb_1490, dp_1490, many_1490, grt_1490, lst_1490, nou_1490, rm_1490, rb_1490, pr_1490, wo_1490, es1490, p0_1490, p1_1490, p2_1490, p3_1490, p4_1490⟩ := getr_M hI_1489
          have hq2_1491 : wd_1490 = wd := n_eq ((show nI wd_1490 = rdI (en_1489 0) 2 from by rw [es1490]; rfl).trans (hkp_1489.2.1.trans (show rdI (en 0) 2 = nI wd from by rw [es1484]; rfl))) (by omega) (by omega)
          have hq3_1491 : mo_1490 = mo := n_eq ((show nI mo_1490 = rdI (en_1489 0) 3 from by rw [es1490]; rfl).trans (hkp_1489.2.2.1.trans (show rdI (en 0) 3 = nI mo from by rw [es1484]; rfl))) (by omega) (by omega)
          have hq4_1491 : tb_1490 = tb := n_eq ((show nI tb_1490 = rdI (en_1489 0) 4 from by rw [es1490]; rfl).trans (hkp_1489.2.2.2.1.trans (show rdI (en 0) 4 = nI tb from by rw [es1484]; rfl))) (by omega) (by omega)
          have hq30_1491 : wo_1490 = wo := n_eq ((show nI wo_1490 = rdI (en_1489 0) 30 from by rw [es1490]; rfl).trans (hkp_1489.2.2.2.2.2.trans (show rdI (en 0) 30 = nI wo from by rw [es1484]; rfl))) (by omega) (by omega)
          rw [hq2_1491, hq3_1491, hq4_1491, hq30_1491] at es1490
          refine hp_get hx hb hts ix12 hown hK hh (q := 0) rfl (hI.1 _ (by decide)) es1490 rfl 15 (by decide) (hts _ tw_894) (fun _ h9 => h9) rfl dX12_extreme_55 ?_
          refine lv_lconst (v := 0) hx hb dX12_extreme_58 (by decide) ?_
          refine W.lcmp hx hb dX12_extreme_59 ?_
          refine lv_if_ne (tgt := 68) hx hb dX12_extreme_60 (by decide) (fun c_1492 => ?_) (fun c_1492 => ?_)
          · refine lv_iload_n hx hb dX12_extreme_68 rfl (lv_at hl 2 rfl) ?_
            refine lv_if_ne (tgt := 81) hx hb dX12_extreme_69 (by decide) (fun c_1493 => ?_) (fun c_1493 => ?_)
            · have n_1493 : N_1486 ≠ 0 := n_neq (a := N_1486) (b := 0) c_1493 (by omega) (by decide)
              refine lv_aload_n hx hb dX12_extreme_81 rfl (lv_at hl 0 rfl) ?_
              refine hp_get hx hb hts ix12 hown hK hh (q := 0) rfl (hI.1 _ (by decide)) es1490 rfl 20 (by decide) (hts _ tw_899) (fun _ h9 => h9) rfl dX12_extreme_82 ?_
              refine lv_iload_n hx hb dX12_extreme_85 rfl (lv_at hl 3 rfl) ?_
              obtain ⟨f_1494, es1494⟩ := getr_sm hI_1489
              refine hp_iald hx hb hK hh (q := 11) rfl (hI.1 _ (by decide)) es1494 (vp_in_nI (n := N_1487) (by omega) (by decide)) dX12_extreme_86 ?_
              rw [nI_clamp (n := N_1487) (by omega)]
              exact hp_iretM hx hb hr rfl hlocks hh (⟨hI_1489, hf_1489, hkp_1489⟩) dX12_extreme_87
            · have n_1493 : N_1486 = 0 := n_eq (a := N_1486) (b := 0) c_1493 (by omega) (by decide)
              refine lv_aload_n hx hb dX12_extreme_72 rfl (lv_at hl 0 rfl) ?_
              refine hp_get hx hb hts ix12 hown hK hh (q := 0) rfl (hI.1 _ (by decide)) es1490 rfl 19 (by decide) (hts _ tw_898) (fun _ h9 => h9) rfl dX12_extreme_73 ?_
              refine lv_iload_n hx hb dX12_extreme_76 rfl (lv_at hl 3 rfl) ?_
              obtain ⟨f_1495, es1495⟩ := getr_gt hI_1489
              refine hp_iald hx hb hK hh (q := 10) rfl (hI.1 _ (by decide)) es1495 (vp_in_nI (n := N_1487) (by omega) (by decide)) dX12_extreme_77 ?_
              rw [nI_clamp (n := N_1487) (by omega)]
              refine lv_goto (tgt := 87) hx hb dX12_extreme_78 (by decide) ?_
              exact hp_iretM hx hb hr rfl hlocks hh (⟨hI_1489, hf_1489, hkp_1489⟩) dX12_extreme_87
          · refine lv_bipush (v := (-9)) hx hb dX12_extreme_63 (by decide) ?_
            refine lv_goto (tgt := 87) hx hb dX12_extreme_65 (by decide) ?_
            exact hp_iretM hx hb hr rfl hlocks hh (⟨hI_1489, hf_1489, hkp_1489⟩) dX12_extreme_87
        · obtain rfl : r_1488 = 1 := hb_1488
          refine lv_if_eq (tgt := 49) hx hb dX12_extreme_43 (by decide) (fun c_0 => absurd c_0 (by decide)) (fun _ => ?_)
          refine lv_bipush (v := (-6)) hx hb dX12_extreme_46 (by decide) ?_
          exact hp_iretM hx hb hr rfl hlocks hh (⟨hI_1488, hf_1488, hkp_1488⟩) dX12_extreme_48
      · obtain rfl : r_1487 = 0 := Eq.trans hw_1487 (if_neg (fun q => hp_1487 ((wj_m1 (by omega)).mp q)))
        refine lv_if_ne (tgt := 38) hx hb dX12_extreme_32 (by decide) (fun c_0 => absurd c_0 (by decide)) (fun _ => ?_)
        refine lv_bipush (v := (-2)) hx hb dX12_extreme_35 (by decide) ?_
        exact hp_iretM hx hb hr rfl hlocks hh (⟨hI, hf0, (KP_rf en)⟩) dX12_extreme_37
    · obtain rfl : r_1486 = 0 := Eq.trans hw_1486 (if_neg (fun q => hp_1486 ((wj_32 (by decide) (by decide)).mp q)))
      refine lv_if_eq (tgt := 35) hx hb dX12_extreme_19 (by decide) (fun _ => ?_) (fun c_0 => absurd c_0 (by decide))
      refine lv_bipush (v := (-2)) hx hb dX12_extreme_35 (by decide) ?_
      exact hp_iretM hx hb hr rfl hlocks hh (⟨hI, hf0, (KP_rf en)⟩) dX12_extreme_37
  · obtain rfl : r_1485 = 0 := Eq.trans hw_1485 (if_neg (fun q => hp_1485 ((wj_32 (by decide) (by decide)).mp q)))
    refine lv_if_eq (tgt := 35) hx hb dX12_extreme_9 (by decide) (fun _ => ?_) (fun c_0 => absurd c_0 (by decide))
    refine lv_bipush (v := (-2)) hx hb dX12_extreme_35 (by decide) ?_
    exact hp_iretM hx hb hr rfl hlocks hh (⟨hI, hf0, (KP_rf en)⟩) dX12_extreme_37
theorem kw_X12_extreme {R : Room} {s : State} {args : Array Value} {own : String} {idx : Nat} (hts : ∀ w ∈ TB, w.before args s = true) (hl : Cond.methodLink own idx yX12_extreme ∈ TB) (hR : 4 + 1 ≤ R.frames ∧ 8 + (4 + 11) + 40 * 4 ≤ R.locals) : CallW R s args own RX12 idx yX12_extreme cX12_extreme 4 (some .int) (Cond.code yX12_extreme cX12_extreme 4 (some .int) :: TB) (rmN 4) 0 0 3 := cwV 3 hts (TB_V hl tw_1066 tw_1067 tw_9 tw_1068) rfl rfl rfl (by decide +kernel) hR
set_option maxHeartbeats 4000000 in
set_option maxRecDepth 100000 in
/-- findRings -/
theorem c_X12_findRings (l : Launch) (D : va_G) (cy : Nat → ClassId) (sz : Nat) (cs : List Nat) (ad : Nat → Nat) (en : Nat → va_E) (hI : RX cy cs ad en) (n : Nat) (hn1 : 1 ≤ n) (hn8 : n ≤ 8)   : Met l yX12_findRings (Cond.code yX12_findRings cX12_findRings 3 none :: TB) (rmN 3) (va_Pc [.ref (ad 0), .int (nI n)] (Pre D cy cs ad en sz)) (va_Qv (S := Nat → va_E) (fun en1 => RX cy cs ad en1 ∧ (∀ c, (c ≠ 0 ∧ c ≠ 6 ∧ c ≠ 7 ∧ c ≠ 12 ∧ c ≠ 13) → en1 c = en c) ∧ KP en en1) (PostM D cs ad) (Af cs ad sz)) 0 0 (Af cs ad sz) := by
  refine Met.ofW (cc := cX12_findRings) (maxL := 3) (ret := none) (by decide) rfl ?_
  intro p e s m args below meth c s₁ B hml hv
  obtain ⟨rfl, hsz, hP, hK, hD0⟩ := hv
  have hx := B.exec
  have hb := B.bytes
  have hr := B.returns
  have hts : ∀ w ∈ TB, w.before _ s = true := fun w h => atoms_spec (ws := _ :: TB) B.pre w (List.mem_cons_of_mem _ h)
  have hown : s.vm.findClass RX12 = some m.cls := findClass_of_methodNamed B.named
  have hlocks := B.notSynchronized
  have hh : Hp D (Af cs ad sz) (Af cs ad sz) s.heap s.heap [] cs ad en := ⟨hP, Af_self hD0, va_S.rf⟩
  have hA : ∀ q : Nat, s.heap.size ≤ q → Af cs ad sz q := fun q h => Or.inr (by rw [hsz] at h; exact h)
  have hl := lv_entry ([.ref (ad 0), .int (nI n)]) (n := 3) (Nat.le_of_ble_eq_true rfl)
  rw [lg_entry_eq]
  generalize (lg_sl ([.ref (ad 0), .int (nI n)]) ++ List.replicate (3 - (lg_sl ([.ref (ad 0), .int (nI n)])).length) Slot.unset).toArray = ls at hl ⊢
  have hl : lv_has ls 3 [(0, .ref (ad 0)), (1, .int (nI n))] := hl
  have hf0 : ∀ c, (c ≠ 0 ∧ c ≠ 6 ∧ c ≠ 7 ∧ c ≠ 12 ∧ c ≠ 13) → en c = en c := fun _ _ => rfl
  obtain ⟨fa, hi, wd, mo, tb, dp, many, grt, lst, nou, rm, rb, pr, wo, es1496, hwd2, hwd3, hmo, htb, hwo⟩ := getr_M hI
  refine lv_aload_n hx hb dX12_findRings_0 rfl (lv_at hl 0 rfl) ?_
  refine lv_iconst (v := 0) hx hb dX12_findRings_1 (by decide) ?_
  refine hp_put hx hb hts ix12 tyX12 tyX12_ok nmX12 hown hK hh (q := 0) rfl (hI.1 _ (by decide)) es1496 rfl 22 (by decide) (hts _ tw_901) (fun _ h9 => h9) rfl (ty := .int) (by decide +kernel) rfl rfl (Nat.le_of_ble_eq_true rfl) dX12_findRings_2 (fun H locs en_1497 hen_1497 hh => ?_)
  have es1496_1497 : en_1497 0 = .inr (11, [.int fa, .int hi, .int (nI wd), .int (nI mo), .int (nI tb), .ref (ad 1), .ref (ad 2), .ref (ad 3), .ref (ad 4), .ref (ad 5), .ref (ad 6), .ref (ad 7), .ref (ad 8), .ref (ad 9), .int dp, .long many, .long grt, .long lst, .long nou, .ref (ad 10), .ref (ad 11), .ref (ad 12), .int 0, .long rb, .ref (ad 13), .int pr, .ref (ad 14), .ref (ad 15), .ref (ad 16), .ref (ad 17), .int (nI wo), .ref (ad 18), .ref (ad 19)]) := by rw [hen_1497]; exact va_up_self _ _ _
  have hI_1497 : RX cy cs ad en_1497 := by rw [hen_1497]; exact upr_M hI ⟨fa, hi, wd, mo, tb, dp, many, grt, lst, nou, 0, rb, pr, wo, rfl, hwd2, hwd3, hmo, htb, hwo⟩
  have hf_1497 : ∀ c, (c ≠ 0 ∧ c ≠ 6 ∧ c ≠ 7 ∧ c ≠ 12 ∧ c ≠ 13) → en_1497 c = en c := fun c hc => Eq.trans (show en_1497 c = en c from by rw [hen_1497, va_up_ne _ _ (by omega)]) (hf0 c hc)
  have hkp_1497 : KP en en_1497 := KP_fv (KP_rf en) es1496 es1496_1497 hi (nI wd) (nI mo) (nI tb) pr (nI wo) rfl rfl rfl rfl rfl rfl rfl rfl rfl rfl rfl rfl
  refine lv_aload_n hx hb dX12_findRings_5 rfl (lv_at hl 0 rfl) ?_
  refine lv_lconst (v := 0) hx hb dX12_findRings_6 (by decide) ?_
  refine hp_put hx hb hts ix12 tyX12 tyX12_ok nmX12 hown hK hh (q := 0) rfl (hI.1 _ (by decide)) es1496_1497 rfl 23 (by decide) (hts _ tw_902) (fun _ h9 => h9) rfl (ty := .long) (by decide +kernel) rfl rfl (Nat.le_of_ble_eq_true rfl) dX12_findRings_7 (fun H locs en_1498 hen_1498 hh => ?_)
  have es1496_1498 : en_1498 0 = .inr (11, [.int fa, .int hi, .int (nI wd), .int (nI mo), .int (nI tb), .ref (ad 1), .ref (ad 2), .ref (ad 3), .ref (ad 4), .ref (ad 5), .ref (ad 6), .ref (ad 7), .ref (ad 8), .ref (ad 9), .int dp, .long many, .long grt, .long lst, .long nou, .ref (ad 10), .ref (ad 11), .ref (ad 12), .int 0, .long 0, .ref (ad 13), .int pr, .ref (ad 14), .ref (ad 15), .ref (ad 16), .ref (ad 17), .int (nI wo), .ref (ad 18), .ref (ad 19)]) := by rw [hen_1498]; exact va_up_self _ _ _
  have hI_1498 : RX cy cs ad en_1498 := by rw [hen_1498]; exact upr_M hI_1497 ⟨fa, hi, wd, mo, tb, dp, many, grt, lst, nou, 0, 0, pr, wo, rfl, hwd2, hwd3, hmo, htb, hwo⟩
  have hf_1498 : ∀ c, (c ≠ 0 ∧ c ≠ 6 ∧ c ≠ 7 ∧ c ≠ 12 ∧ c ≠ 13) → en_1498 c = en c := fun c hc => Eq.trans (show en_1498 c = en_1497 c from by rw [hen_1498, va_up_ne _ _ (by omega)]) (hf_1497 c hc)
  have hkp_1498 : KP en en_1498 := KP_fv hkp_1497 es1496_1497 es1496_1498 hi (nI wd) (nI mo) (nI tb) pr (nI wo) rfl rfl rfl rfl rfl rfl rfl rfl rfl rfl rfl rfl
  refine lv_aload_n hx hb dX12_findRings_10 rfl (lv_at hl 0 rfl) ?_
  refine hp_callMv (va_runV (As := []) (rest := []) ⟨hx, hb, hml, hown, hts⟩ (c_X12_beginWords l D cy _ cs ad en_1498 hI_1498  ) (kw_X12_beginWords hts tw_1038 ⟨by decide, by decide⟩) (preV_of hh hK (hI.1 _ (by decide)) es1496_1498 rfl) rfl rfl hl.1 rfl (lv_room (Nat.le_of_ble_eq_true rfl)) dX12_findRings_11 ⟨Nat.le_of_ble_eq_true rfl, Nat.le_of_ble_eq_true rfl⟩) hh hA (fun H locs en_1499 hw_1499 hh => ?_)
  obtain ⟨hI_1499, hu_1499, hd0_1499, hg0_1499, hx_1499⟩ := hw_1499
  have hND_1499 : ND en_1499 n 0 0 := ⟨by omega, Or.inl hd0_1499, fun i h => absurd h (Nat.not_lt_zero i), by rw [hg0_1499]; decide, by omega⟩
  have hf_1499 : ∀ c, (c ≠ 0 ∧ c ≠ 6 ∧ c ≠ 7 ∧ c ≠ 12 ∧ c ≠ 13) → en_1499 c = en c := fun c hc => (hu_1499 c (by omega)).trans (hf_1498 c hc)
  have hkp_1499 : KP en en_1499 := KP_tr hkp_1498 hx_1499
  have loop_1500 : ∀ (fu mm1500 : Nat)  (d1500 : Nat) (u1500 : Nat) (en_1500 : Nat → va_E) (ls : Array Slot) (H : Heap) (locs : List Loc), mm1500 < fu → RX cy cs ad en_1500 → (∀ c, (c ≠ 0 ∧ c ≠ 6 ∧ c ≠ 7 ∧ c ≠ 12 ∧ c ≠ 13) → en_1500 c = en c) → (ND en_1500 n d1500 u1500) → (134217728 ≤ nmv (rdF (en_1500 7)) d1500 u1500 + mm1500) → (KP en en_1500) → lv_has ls 3 [(0, .ref (ad 0)), (1, .int (nI n))] → Hp D (Af cs ad sz) (Af cs ad sz) s.heap H locs cs ad en_1500 → W p l e (headSpec (Cond.code yX12_findRings cX12_findRings 3 none :: TB) (rmN 3)).room s m ([.ref (ad 0), .int (nI n)] : List Value).toArray below meth c H locs 0 0 (MQ below (va_Qv (S := Nat → va_E) (fun en1 => RX cy cs ad en1 ∧ (∀ c, (c ≠ 0 ∧ c ≠ 6 ∧ c ≠ 7 ∧ c ≠ 12 ∧ c ≠ 13) → en1 c = en c) ∧ KP en en1) (PostM D cs ad) (Af cs ad sz)) ([.ref (ad 0), .int (nI n)] : List Value).toArray s 0 0 (Af cs ad sz)) (F0 m 14 ls []) := by
    intro fu
    induction fu with
    | zero => intro mm1500 d1500 u1500 en_1500 ls H locs h2; exact absurd h2 (by omega)
    | succ fu ih_1500 =>
      intro mm1500 d1500 u1500 en_1500 ls H locs hmm_1500 hI_1500 hf_1500 i0_1500 i1_1500 i2_1500 hl hh
      have hlt_1500 := nmv_lt i0_1500.2.2 (by have h9 := i0_1500.1; omega)
      have hwd_1500 := i0_1500.1
      refine lv_aload_n hx hb dX12_findRings_14 rfl (lv_at hl 0 rfl) ?_
      refine lv_iload_n hx hb dX12_findRings_15 rfl (lv_at hl 1 rfl) ?_
      obtain ⟨fa_1501, hi_1501, wd_1501, mo_1501, tb_1501, dp_1501, many_1501, grt_1501, lst_1501, nou_1501, rm_1501, rb_1501, pr_1501, wo_1501, es1501, p0_1501, p1_1501, p2_1501, p3_1501, p4_1501⟩ := getr_M hI_1500
      have hq2_1502 : wd_1501 = wd := n_eq ((show nI wd_1501 = rdI (en_1500 0) 2 from by rw [es1501]; rfl).trans (i2_1500.2.1.trans (show rdI (en 0) 2 = nI wd from by rw [es1496]; rfl))) (by omega) (by omega)
      have hq3_1502 : mo_1501 = mo := n_eq ((show nI mo_1501 = rdI (en_1500 0) 3 from by rw [es1501]; rfl).trans (i2_1500.2.2.1.trans (show rdI (en 0) 3 = nI mo from by rw [es1496]; rfl))) (by omega) (by omega)
      have hq4_1502 : tb_1501 = tb := n_eq ((show nI tb_1501 = rdI (en_1500 0) 4 from by rw [es1501]; rfl).trans (i2_1500.2.2.2.1.trans (show rdI (en 0) 4 = nI tb from by rw [es1496]; rfl))) (by omega) (by omega)
      have hq30_1502 : wo_1501 = wo := n_eq ((show nI wo_1501 = rdI (en_1500 0) 30 from by rw [es1501]; rfl).trans (i2_1500.2.2.2.2.2.trans (show rdI (en 0) 30 = nI wo from by rw [es1496]; rfl))) (by omega) (by omega)
      rw [hq2_1502, hq3_1502, hq4_1502, hq30_1502] at es1501
      refine hp_callMi (va_runV (As := [.int (nI n)]) (rest := []) ⟨hx, hb, hml, hown, hts⟩ (c_X12_next l D cy _ cs ad en_1500 hI_1500 n (by omega) (by omega) d1500 u1500 i0_1500) (kw_X12_next hts tw_1046 ⟨by decide, by decide⟩) (preV_of hh hK (hI.1 _ (by decide)) es1501 rfl) rfl rfl hl.1 rfl (lv_room (Nat.le_of_ble_eq_true rfl)) dX12_findRings_16 ⟨Nat.le_of_ble_eq_true rfl, Nat.le_of_ble_eq_true rfl⟩) hh hA (fun r_1503 H locs en_1503 hw_1503 hh => ?_)
      obtain ⟨hI_1503, hu_1503, hx_1503, hkq_1503⟩ := hw_1503
      have hf_1503 : ∀ c, (c ≠ 0 ∧ c ≠ 6 ∧ c ≠ 7 ∧ c ≠ 12 ∧ c ≠ 13) → en_1503 c = en c := fun c hc => (hu_1503 c (by omega)).trans (hf_1500 c hc)
      have hkp_1503 : KP en en_1503 := KP_tr i2_1500 hkq_1503
      rcases hx_1503 with hr_1503 | ⟨hr_1503, u1_1503, hND_1503, hu1_1503, hnm_1503⟩
      · rw [hr_1503]
        refine lv_if_eq (tgt := 131) hx hb dX12_findRings_19 (by decide) (fun _ => ?_) (fun c_0 => absurd c_0 (by decide))
        exact hp_vretM hx hb hr hlocks hh (⟨hI_1503, hf_1503, hkp_1503⟩) dX12_findRings_131
      · rw [hr_1503]
        have hall_1503 := NW_all hND_1503.2.2 (by omega) hu1_1503
        refine lv_if_eq (tgt := 131) hx hb dX12_findRings_19 (by decide) (fun c_0 => absurd c_0 (by decide)) (fun _ => ?_)
        refine lv_iconst (v := 0) hx hb dX12_findRings_22 (by decide) ?_
        refine lv_istore_n (lv' := [(2, .int 0), (0, .ref (ad 0)), (1, .int (nI n))]) hx hb dX12_findRings_23 rfl hl (by decide) rfl (fun ls hl => ?_)
        have loop_1504 : ∀ (fu j1504 : Nat)  (en_1504 : Nat → va_E) (ls : Array Slot) (H : Heap) (locs : List Loc), 0 ≤ j1504 → j1504 ≤ n → n < j1504 + fu → RX cy cs ad en_1504 → (∀ c, (c ≠ 0 ∧ c ≠ 6 ∧ c ≠ 7 ∧ c ≠ 12 ∧ c ≠ 13) → en_1504 c = en c) → (KP en en_1504) → (SD en_1503 en_1504) → lv_has ls 3 [(2, .int (nI j1504)), (0, .ref (ad 0)), (1, .int (nI n))] → Hp D (Af cs ad sz) (Af cs ad sz) s.heap H locs cs ad en_1504 → W p l e (headSpec (Cond.code yX12_findRings cX12_findRings 3 none :: TB) (rmN 3)).room s m ([.ref (ad 0), .int (nI n)] : List Value).toArray below meth c H locs 0 0 (MQ below (va_Qv (S := Nat → va_E) (fun en1 => RX cy cs ad en1 ∧ (∀ c, (c ≠ 0 ∧ c ≠ 6 ∧ c ≠ 7 ∧ c ≠ 12 ∧ c ≠ 13) → en1 c = en c) ∧ KP en en1) (PostM D cs ad) (Af cs ad sz)) ([.ref (ad 0), .int (nI n)] : List Value).toArray s 0 0 (Af cs ad sz)) (F0 m 24 ls []) := by
          intro fu
          induction fu with
          | zero => intro j1504  en_1504 ls H locs h0 h1 h2; exact absurd h2 (by omega)
          | succ fu ih_1504 =>
            intro j1504  en_1504 ls H locs hj0_1504 hj_1504 hfu_1504 hI_1504 hf_1504 i0_1504 i1_1504 hl hh
            refine lv_iload_n hx hb dX12_findRings_24 rfl (lv_at hl 0 rfl) ?_
            refine lv_iload_n hx hb dX12_findRings_25 rfl (lv_at hl 2 rfl) ?_
            refine lv_icmp_ge (tgt := 47) hx hb dX12_findRings_26 (by decide) (fun c_1505 => ?_) (fun c_1505 => ?_)
            · have n_1505 : n ≤ j1504 := n_le (a := n) (b := j1504) c_1505 (by omega) (by omega)
              refine lv_aload_n hx hb dX12_findRings_47 rfl (lv_at hl 1 rfl) ?_
              refine lv_iload_n hx hb dX12_findRings_48 rfl (lv_at hl 2 rfl) ?_
              obtain ⟨fa_1506, hi_1506, wd_1506, mo_1506, tb_1506, dp_1506, many_1506, grt_1506, lst_1506, nou_1506, rm_1506, rb_1506, pr_1506, wo_1506, es1506, p0_1506, p1_1506, p2_1506, p3_1506, p4_1506⟩ := getr_M hI_1504
              have hq2_1507 : wd_1506 = wd := n_eq ((show nI wd_1506 = rdI (en_1504 0) 2 from by rw [es1506]; rfl).trans (i0_1504.2.1.trans (show rdI (en 0) 2 = nI wd from by rw [es1496]; rfl))) (by omega) (by omega)
              have hq3_1507 : mo_1506 = mo := n_eq ((show nI mo_1506 = rdI (en_1504 0) 3 from by rw [es1506]; rfl).trans (i0_1504.2.2.1.trans (show rdI (en 0) 3 = nI mo from by rw [es1496]; rfl))) (by omega) (by omega)
              have hq4_1507 : tb_1506 = tb := n_eq ((show nI tb_1506 = rdI (en_1504 0) 4 from by rw [es1506]; rfl).trans (i0_1504.2.2.2.1.trans (show rdI (en 0) 4 = nI tb from by rw [es1496]; rfl))) (by omega) (by omega)
              have hq30_1507 : wo_1506 = wo := n_eq ((show nI wo_1506 = rdI (en_1504 0) 30 from by rw [es1506]; rfl).trans (i0_1504.2.2.2.2.2.trans (show rdI (en 0) 30 = nI wo from by rw [es1496]; rfl))) (by omega) (by omega)
              rw [hq2_1507, hq3_1507, hq4_1507, hq30_1507] at es1506
              refine hp_callRi (va_runV (As := [.int (nI n)]) (rest := []) ⟨hx, hb, hml, hown, hts⟩ (c_X12_isRing l D cy _ cs ad en_1504 hI_1504 n (by omega) (by omega)) (kw_X12_isRing hts tw_1077 ⟨by decide, by decide⟩) (preV_of hh hK (hI.1 _ (by decide)) es1506 rfl) rfl rfl hl.1 rfl (lv_room (Nat.le_of_ble_eq_true rfl)) dX12_findRings_49 ⟨Nat.le_of_ble_eq_true rfl, Nat.le_of_ble_eq_true rfl⟩) hh hA (fun r_1508 H locs hw_1508 hh => ?_)
              rcases hw_1508 with hb_1508 | hb_1508
              · obtain rfl : r_1508 = 0 := hb_1508
                refine lv_if_ne (tgt := 58) hx hb dX12_findRings_52 (by decide) (fun c_0 => absurd c_0 (by decide)) (fun _ => ?_)
                refine lv_goto (tgt := 14) hx hb dX12_findRings_55 (by decide) ?_
                exact ih_1500 (mm1500 - 1) (n - 1) u1_1503 en_1504 ls H locs (by omega) hI_1504 hf_1504 (ND_sd hND_1503 i1_1504) (by rw [i1_1504.2]; have h1 := hnm_1503; have h2 := i1_1500; omega) (i0_1504) (lv_sub hl [1, 2] rfl) hh
              · obtain rfl : r_1508 = 1 := hb_1508
                refine lv_if_ne (tgt := 58) hx hb dX12_findRings_52 (by decide) (fun _ => ?_) (fun c_0 => absurd c_0 (by decide))
                have join_1509 : ∀  (en_1509 : Nat → va_E) (ls : Array Slot) (H : Heap) (locs : List Loc), RX cy cs ad en_1509 → (∀ c, (c ≠ 0 ∧ c ≠ 6 ∧ c ≠ 7 ∧ c ≠ 12 ∧ c ≠ 13) → en_1509 c = en c) → KP en en_1509 → SD en_1503 en_1509 → lv_has ls 3 [(0, .ref (ad 0)), (1, .int (nI n))] → Hp D (Af cs ad sz) (Af cs ad sz) s.heap H locs cs ad en_1509 → W p l e (headSpec (Cond.code yX12_findRings cX12_findRings 3 none :: TB) (rmN 3)).room s m ([.ref (ad 0), .int (nI n)] : List Value).toArray below meth c H locs 0 0 (MQ below (va_Qv (S := Nat → va_E) (fun en1 => RX cy cs ad en1 ∧ (∀ c, (c ≠ 0 ∧ c ≠ 6 ∧ c ≠ 7 ∧ c ≠ 12 ∧ c ≠ 13) → en1 c = en c) ∧ KP en en1) (PostM D cs ad) (Af cs ad sz)) ([.ref (ad 0), .int (nI n)] : List Value).toArray s 0 0 (Af cs ad sz)) (F0 m 118 ls []) := by
                  intro  en_1509 ls H locs hI_1509 hf_1509 hkp_1509 hsd_1509  hl hh
                  refine lv_aload_n hx hb dX12_findRings_118 rfl (lv_at hl 0 rfl) ?_
                  refine lv_dup hx hb dX12_findRings_119 rfl ?_
                  obtain ⟨fa_1510, hi_1510, wd_1510, mo_1510, tb_1510, dp_1510, many_1510, grt_1510, lst_1510, nou_1510, rm_1510, rb_1510, pr_1510, wo_1510, es1510, p0_1510, p1_1510, p2_1510, p3_1510, p4_1510⟩ := getr_M hI_1509
                  have hq2_1511 : wd_1510 = wd := n_eq ((show nI wd_1510 = rdI (en_1509 0) 2 from by rw [es1510]; rfl).trans (hkp_1509.2.1.trans (show rdI (en 0) 2 = nI wd from by rw [es1496]; rfl))) (by omega) (by omega)
                  have hq3_1511 : mo_1510 = mo := n_eq ((show nI mo_1510 = rdI (en_1509 0) 3 from by rw [es1510]; rfl).trans (hkp_1509.2.2.1.trans (show rdI (en 0) 3 = nI mo from by rw [es1496]; rfl))) (by omega) (by omega)
                  have hq4_1511 : tb_1510 = tb := n_eq ((show nI tb_1510 = rdI (en_1509 0) 4 from by rw [es1510]; rfl).trans (hkp_1509.2.2.2.1.trans (show rdI (en 0) 4 = nI tb from by rw [es1496]; rfl))) (by omega) (by omega)
                  have hq30_1511 : wo_1510 = wo := n_eq ((show nI wo_1510 = rdI (en_1509 0) 30 from by rw [es1510]; rfl).trans (hkp_1509.2.2.2.2.2.trans (show rdI (en 0) 30 = nI wo from by rw [es1496]; rfl))) (by omega) (by omega)
                  rw [hq2_1511, hq3_1511, hq4_1511, hq30_1511] at es1510
                  refine hp_get hx hb hts ix12 hown hK hh (q := 0) rfl (hI.1 _ (by decide)) es1510 rfl 22 (by decide) (hts _ tw_901) (fun _ h9 => h9) rfl dX12_findRings_120 ?_
                  refine lv_iconst (v := 1) hx hb dX12_findRings_123 (by decide) ?_
                  refine lv_iadd hx hb dX12_findRings_124 ?_
                  refine hp_put hx hb hts ix12 tyX12 tyX12_ok nmX12 hown hK hh (q := 0) rfl (hI.1 _ (by decide)) es1510 rfl 22 (by decide) (hts _ tw_901) (fun _ h9 => h9) rfl (ty := .int) (by decide +kernel) rfl rfl (Nat.le_of_ble_eq_true rfl) dX12_findRings_125 (fun H locs en_1512 hen_1512 hh => ?_)
                  have es1510_1512 : en_1512 0 = .inr (11, [.int fa_1510, .int hi_1510, .int (nI wd), .int (nI mo), .int (nI tb), .ref (ad 1), .ref (ad 2), .ref (ad 3), .ref (ad 4), .ref (ad 5), .ref (ad 6), .ref (ad 7), .ref (ad 8), .ref (ad 9), .int dp_1510, .long many_1510, .long grt_1510, .long lst_1510, .long nou_1510, .ref (ad 10), .ref (ad 11), .ref (ad 12), .int (rm_1510 + 1), .long rb_1510, .ref (ad 13), .int pr_1510, .ref (ad 14), .ref (ad 15), .ref (ad 16), .ref (ad 17), .int (nI wo), .ref (ad 18), .ref (ad 19)]) := by rw [hen_1512]; exact va_up_self _ _ _
                  have hI_1512 : RX cy cs ad en_1512 := by rw [hen_1512]; exact upr_M hI_1509 ⟨fa_1510, hi_1510, wd, mo, tb, dp_1510, many_1510, grt_1510, lst_1510, nou_1510, (rm_1510 + 1), rb_1510, pr_1510, wo, rfl, hwd2, hwd3, hmo, htb, hwo⟩
                  have hf_1512 : ∀ c, (c ≠ 0 ∧ c ≠ 6 ∧ c ≠ 7 ∧ c ≠ 12 ∧ c ≠ 13) → en_1512 c = en c := fun c hc => Eq.trans (show en_1512 c = en_1509 c from by rw [hen_1512, va_up_ne _ _ (by omega)]) (hf_1509 c hc)
                  have hkp_1512 : KP en en_1512 := KP_fv hkp_1509 es1510 es1510_1512 hi_1510 (nI wd) (nI mo) (nI tb) pr_1510 (nI wo) rfl rfl rfl rfl rfl rfl rfl rfl rfl rfl rfl rfl
                  have hsd_1512 : SD en_1503 en_1512 := SD_fv hsd_1509 es1510 es1510_1512 (show en_1512 7 = en_1509 7 from by rw [hen_1512, va_up_ne _ _ (by decide)]) dp_1510 rfl rfl
                  refine lv_goto (tgt := 14) hx hb dX12_findRings_128 (by decide) ?_
                  exact ih_1500 (mm1500 - 1) (n - 1) u1_1503 en_1512 ls H locs (by omega) hI_1512 hf_1512 (ND_sd hND_1503 hsd_1512) (by rw [hsd_1512.2]; have h1 := hnm_1503; have h2 := i1_1500; omega) (hkp_1512) (lv_sub hl [0, 1] rfl) hh
                refine lv_aload_n hx hb dX12_findRings_58 rfl (lv_at hl 1 rfl) ?_
                refine hp_get hx hb hts ix12 hown hK hh (q := 0) rfl (hI.1 _ (by decide)) es1506 rfl 22 (by decide) (hts _ tw_901) (fun _ h9 => h9) rfl dX12_findRings_59 ?_
                refine lv_if_eq (tgt := 84) hx hb dX12_findRings_62 (by decide) (fun c_1513 => ?_) (fun c_1513 => ?_)
                · refine lv_aload_n hx hb dX12_findRings_84 rfl (lv_at hl 1 rfl) ?_
                  refine lv_aload_n hx hb dX12_findRings_85 rfl (lv_at hl 1 rfl) ?_
                  refine lv_iload_n hx hb dX12_findRings_86 rfl (lv_at hl 2 rfl) ?_
                  refine hp_callRl (va_runV (As := [.int (nI n)]) (rest := [.ref (ad 0)]) ⟨hx, hb, hml, hown, hts⟩ (c_X12_trackAt l D cy _ cs ad en_1504 hI_1504 n (by omega)) (kw_X12_trackAt hts tw_1093 ⟨by decide, by decide⟩) (preV_of hh hK (hI.1 _ (by decide)) es1506 rfl) rfl rfl hl.1 rfl (lv_room (Nat.le_of_ble_eq_true rfl)) dX12_findRings_87 ⟨Nat.le_of_ble_eq_true rfl, Nat.le_of_ble_eq_true rfl⟩) hh hA (fun r_1514 H locs hw_1514 hh => ?_)
                  refine hp_put hx hb hts ix12 tyX12 tyX12_ok nmX12 hown hK hh (q := 0) rfl (hI.1 _ (by decide)) es1506 rfl 23 (by decide) (hts _ tw_902) (fun _ h9 => h9) rfl (ty := .long) (by decide +kernel) rfl rfl (Nat.le_of_ble_eq_true rfl) dX12_findRings_90 (fun H locs en_1515 hen_1515 hh => ?_)
                  have es1506_1515 : en_1515 0 = .inr (11, [.int fa_1506, .int hi_1506, .int (nI wd), .int (nI mo), .int (nI tb), .ref (ad 1), .ref (ad 2), .ref (ad 3), .ref (ad 4), .ref (ad 5), .ref (ad 6), .ref (ad 7), .ref (ad 8), .ref (ad 9), .int dp_1506, .long many_1506, .long grt_1506, .long lst_1506, .long nou_1506, .ref (ad 10), .ref (ad 11), .ref (ad 12), .int rm_1506, .long r_1514, .ref (ad 13), .int pr_1506, .ref (ad 14), .ref (ad 15), .ref (ad 16), .ref (ad 17), .int (nI wo), .ref (ad 18), .ref (ad 19)]) := by rw [hen_1515]; exact va_up_self _ _ _
                  have hI_1515 : RX cy cs ad en_1515 := by rw [hen_1515]; exact upr_M hI_1504 ⟨fa_1506, hi_1506, wd, mo, tb, dp_1506, many_1506, grt_1506, lst_1506, nou_1506, rm_1506, r_1514, pr_1506, wo, rfl, hwd2, hwd3, hmo, htb, hwo⟩
                  have hf_1515 : ∀ c, (c ≠ 0 ∧ c ≠ 6 ∧ c ≠ 7 ∧ c ≠ 12 ∧ c ≠ 13) → en_1515 c = en c := fun c hc => Eq.trans (show en_1515 c = en_1504 c from by rw [hen_1515, va_up_ne _ _ (by omega)]) (hf_1504 c hc)
                  have hkp_1515 : KP en en_1515 := KP_fv i0_1504 es1506 es1506_1515 hi_1506 (nI wd) (nI mo) (nI tb) pr_1506 (nI wo) rfl rfl rfl rfl rfl rfl rfl rfl rfl rfl rfl rfl
                  have hsd_1515 : SD en_1503 en_1515 := SD_fv i1_1504 es1506 es1506_1515 (show en_1515 7 = en_1504 7 from by rw [hen_1515, va_up_ne _ _ (by decide)]) dp_1506 rfl rfl
                  refine lv_iconst (v := 0) hx hb dX12_findRings_93 (by decide) ?_
                  refine lv_istore_n (lv' := [(2, .int 0), (0, .ref (ad 0)), (1, .int (nI n))]) hx hb dX12_findRings_94 rfl hl (by decide) rfl (fun ls hl => ?_)
                  have loop_1516 : ∀ (fu j1516 : Nat)  (en_1516 : Nat → va_E) (ls : Array Slot) (H : Heap) (locs : List Loc), 0 ≤ j1516 → j1516 ≤ n → n < j1516 + fu → RX cy cs ad en_1516 → (∀ c, (c ≠ 0 ∧ c ≠ 6 ∧ c ≠ 7 ∧ c ≠ 12 ∧ c ≠ 13) → en_1516 c = en c) → (KP en en_1516) → (SD en_1503 en_1516) → lv_has ls 3 [(2, .int (nI j1516)), (0, .ref (ad 0)), (1, .int (nI n))] → Hp D (Af cs ad sz) (Af cs ad sz) s.heap H locs cs ad en_1516 → W p l e (headSpec (Cond.code yX12_findRings cX12_findRings 3 none :: TB) (rmN 3)).room s m ([.ref (ad 0), .int (nI n)] : List Value).toArray below meth c H locs 0 0 (MQ below (va_Qv (S := Nat → va_E) (fun en1 => RX cy cs ad en1 ∧ (∀ c, (c ≠ 0 ∧ c ≠ 6 ∧ c ≠ 7 ∧ c ≠ 12 ∧ c ≠ 13) → en1 c = en c) ∧ KP en en1) (PostM D cs ad) (Af cs ad sz)) ([.ref (ad 0), .int (nI n)] : List Value).toArray s 0 0 (Af cs ad sz)) (F0 m 95 ls []) := by
                    intro fu
                    induction fu with
                    | zero => intro j1516  en_1516 ls H locs h0 h1 h2; exact absurd h2 (by omega)
                    | succ fu ih_1516 =>
                      intro j1516  en_1516 ls H locs hj0_1516 hj_1516 hfu_1516 hI_1516 hf_1516 i0_1516 i1_1516 hl hh
                      refine lv_iload_n hx hb dX12_findRings_95 rfl (lv_at hl 0 rfl) ?_
                      refine lv_iload_n hx hb dX12_findRings_96 rfl (lv_at hl 2 rfl) ?_
                      refine lv_icmp_ge (tgt := 118) hx hb dX12_findRings_97 (by decide) (fun c_1517 => ?_) (fun c_1517 => ?_)
                      · have n_1517 : n ≤ j1516 := n_le (a := n) (b := j1516) c_1517 (by omega) (by omega)
                        exact join_1509  en_1516 ls _ _ hI_1516 hf_1516 i0_1516 i1_1516 (lv_sub hl [1, 2] rfl) hh
                      · have n_1517 : j1516 < n := n_nle (a := n) (b := j1516) c_1517 (by omega) (by omega)
                        refine lv_aload_n hx hb dX12_findRings_100 rfl (lv_at hl 1 rfl) ?_
                        obtain ⟨fa_1518, hi_1518, wd_1518, mo_1518, tb_1518, dp_1518, many_1518, grt_1518, lst_1518, nou_1518, rm_1518, rb_1518, pr_1518, wo_1518, es1518, p0_1518, p1_1518, p2_1518, p3_1518, p4_1518⟩ := getr_M hI_1516
                        have hq2_1519 : wd_1518 = wd := n_eq ((show nI wd_1518 = rdI (en_1516 0) 2 from by rw [es1518]; rfl).trans (i0_1516.2.1.trans (show rdI (en 0) 2 = nI wd from by rw [es1496]; rfl))) (by omega) (by omega)
                        have hq3_1519 : mo_1518 = mo := n_eq ((show nI mo_1518 = rdI (en_1516 0) 3 from by rw [es1518]; rfl).trans (i0_1516.2.2.1.trans (show rdI (en 0) 3 = nI mo from by rw [es1496]; rfl))) (by omega) (by omega)
                        have hq4_1519 : tb_1518 = tb := n_eq ((show nI tb_1518 = rdI (en_1516 0) 4 from by rw [es1518]; rfl).trans (i0_1516.2.2.2.1.trans (show rdI (en 0) 4 = nI tb from by rw [es1496]; rfl))) (by omega) (by omega)
                        have hq30_1519 : wo_1518 = wo := n_eq ((show nI wo_1518 = rdI (en_1516 0) 30 from by rw [es1518]; rfl).trans (i0_1516.2.2.2.2.2.trans (show rdI (en 0) 30 = nI wo from by rw [es1496]; rfl))) (by omega) (by omega)
                        rw [hq2_1519, hq3_1519, hq4_1519, hq30_1519] at es1518
                        refine hp_get hx hb hts ix12 hown hK hh (q := 0) rfl (hI.1 _ (by decide)) es1518 rfl 24 (by decide) (hts _ tw_903) (fun _ h9 => h9) rfl dX12_findRings_101 ?_
                        refine lv_iload_n hx hb dX12_findRings_104 rfl (lv_at hl 0 rfl) ?_
                        refine lv_aload_n hx hb dX12_findRings_105 rfl (lv_at hl 1 rfl) ?_
                        refine hp_get hx hb hts ix12 hown hK hh (q := 0) rfl (hI.1 _ (by decide)) es1518 rfl 11 (by decide) (hts _ tw_890) (fun _ h9 => h9) rfl dX12_findRings_106 ?_
                        refine lv_iload_n hx hb dX12_findRings_109 rfl (lv_at hl 0 rfl) ?_
                        obtain ⟨f_1520, es1520⟩ := getr_nw hI_1516
                        refine hp_iald hx hb hK hh (q := 7) rfl (hI.1 _ (by decide)) es1520 (vp_in_nI (n := j1516) (by omega) (by decide)) dX12_findRings_110 ?_
                        rw [nI_clamp (n := j1516) (by omega)]
                        obtain ⟨v_1521, hv_1521, hve_1521⟩ := hall_1503 j1516 (by omega)
                        rw [show f_1520 j1516 = nI v_1521 from (show f_1520 j1516 = rdF (en_1503 7) j1516 from by rw [← i1_1516.2, es1520]; rfl).trans hve_1521]
                        obtain ⟨f_1522, es1522⟩ := getr_rw hI_1516
                        refine hp_iast hx hb hK hh (q := 13) rfl (hI.1 _ (by decide)) es1522 (vp_in_nI (n := j1516) (by omega) (by decide)) dX12_findRings_111 (fun H locs en_1523 hen_1523 hh => ?_)
                        rw [nI_clamp (n := j1516) (by omega)] at hen_1523
                        have es1518_1523 : en_1523 0 = .inr (11, [.int fa_1518, .int hi_1518, .int (nI wd), .int (nI mo), .int (nI tb), .ref (ad 1), .ref (ad 2), .ref (ad 3), .ref (ad 4), .ref (ad 5), .ref (ad 6), .ref (ad 7), .ref (ad 8), .ref (ad 9), .int dp_1518, .long many_1518, .long grt_1518, .long lst_1518, .long nou_1518, .ref (ad 10), .ref (ad 11), .ref (ad 12), .int rm_1518, .long rb_1518, .ref (ad 13), .int pr_1518, .ref (ad 14), .ref (ad 15), .ref (ad 16), .ref (ad 17), .int (nI wo), .ref (ad 18), .ref (ad 19)]) := by rw [hen_1523, va_up_ne _ _ (by decide)]; exact es1518
                        have es1520_1523 : en_1523 7 = .inl (cy 0, 13, .inl f_1520) := by rw [hen_1523, va_up_ne _ _ (by decide)]; exact es1520
                        have es1522_1523 : en_1523 13 = .inl (cy 0, 12, .inl (upd f_1522 j1516 (nI v_1521))) := by rw [hen_1523]; exact va_up_self _ _ _
                        have hI_1523 : RX cy cs ad en_1523 := by rw [hen_1523]; exact upr_rw hI_1516 ⟨(upd f_1522 j1516 (nI v_1521)), rfl⟩
                        have hf_1523 : ∀ c, (c ≠ 0 ∧ c ≠ 6 ∧ c ≠ 7 ∧ c ≠ 12 ∧ c ≠ 13) → en_1523 c = en c := fun c hc => Eq.trans (show en_1523 c = en_1516 c from by rw [hen_1523, va_up_ne _ _ (by omega)]) (hf_1516 c hc)
                        have hkp_1523 : KP en en_1523 := KP_same i0_1516 (show en_1523 0 = en_1516 0 from by rw [hen_1523, va_up_ne _ _ (by decide)])
                        have hsd_1523 : SD en_1503 en_1523 := SD_same i1_1516 (show en_1523 0 = en_1516 0 from by rw [hen_1523, va_up_ne _ _ (by decide)]) (show en_1523 7 = en_1516 7 from by rw [hen_1523, va_up_ne _ _ (by decide)])
                        refine lv_iinc (v := (nI (j1516 + 1))) (lv' := [(2, .int (nI (j1516 + 1))), (0, .ref (ad 0)), (1, .int (nI n))]) hx hb dX12_findRings_112 hl (k := 0) rfl (nI_1 _) (by decide) rfl (fun ls hl => ?_)
                        refine lv_goto (tgt := 95) hx hb dX12_findRings_115 (by decide) ?_
                        exact ih_1516 ((j1516 + 1))  en_1523 ls H locs (by omega) (by omega) (by omega) hI_1523 hf_1523 (hkp_1523) (hsd_1523) (lv_sub hl [0, 1, 2] rfl) hh
                  exact loop_1516 (n + 1) 0  en_1515 ls _ _ (Nat.le_refl _) (by omega) (by omega) hI_1515 hf_1515 (hkp_1515) (hsd_1515) (lv_sub hl [0, 1, 2] rfl) hh
                · refine lv_aload_n hx hb dX12_findRings_65 rfl (lv_at hl 1 rfl) ?_
                  refine lv_iload_n hx hb dX12_findRings_66 rfl (lv_at hl 2 rfl) ?_
                  refine hp_callRl (va_runV (As := [.int (nI n)]) (rest := []) ⟨hx, hb, hml, hown, hts⟩ (c_X12_trackAt l D cy _ cs ad en_1504 hI_1504 n (by omega)) (kw_X12_trackAt hts tw_1093 ⟨by decide, by decide⟩) (preV_of hh hK (hI.1 _ (by decide)) es1506 rfl) rfl rfl hl.1 rfl (lv_room (Nat.le_of_ble_eq_true rfl)) dX12_findRings_67 ⟨Nat.le_of_ble_eq_true rfl, Nat.le_of_ble_eq_true rfl⟩) hh hA (fun r_1524 H locs hw_1524 hh => ?_)
                  refine hp_callRl (va_runS (As := [.long r_1524]) (rest := []) ⟨hx, hb, hml, hown, hts⟩ (c_X12_sizeOf l D cy _ cs ad en_1504 hI_1504 r_1524 ) (kw_X12_sizeOf hts tw_1062 ⟨by decide, by decide⟩) (preS_of hh hK) rfl rfl hl.1 rfl (lv_room (Nat.le_of_ble_eq_true rfl)) dX12_findRings_70 ⟨Nat.le_of_ble_eq_true rfl, Nat.le_of_ble_eq_true rfl⟩) hh hA (fun r_1525 H locs hw_1525 hh => ?_)
                  obtain rfl : r_1525 = absR r_1524 := hw_1525
                  refine lv_aload_n hx hb dX12_findRings_73 rfl (lv_at hl 1 rfl) ?_
                  refine hp_get hx hb hts ix12 hown hK hh (q := 0) rfl (hI.1 _ (by decide)) es1506 rfl 23 (by decide) (hts _ tw_902) (fun _ h9 => h9) rfl dX12_findRings_74 ?_
                  refine hp_callRl (va_runS (As := [.long rb_1506]) (rest := [.long (absR r_1524)]) ⟨hx, hb, hml, hown, hts⟩ (c_X12_sizeOf l D cy _ cs ad en_1504 hI_1504 rb_1506 ) (kw_X12_sizeOf hts tw_1062 ⟨by decide, by decide⟩) (preS_of hh hK) rfl rfl hl.1 rfl (lv_room (Nat.le_of_ble_eq_true rfl)) dX12_findRings_77 ⟨Nat.le_of_ble_eq_true rfl, Nat.le_of_ble_eq_true rfl⟩) hh hA (fun r_1526 H locs hw_1526 hh => ?_)
                  obtain rfl : r_1526 = absR rb_1506 := hw_1526
                  refine W.lcmp hx hb dX12_findRings_80 ?_
                  refine lv_if_le (tgt := 118) hx hb dX12_findRings_81 (by decide) (fun c_1527 => ?_) (fun c_1527 => ?_)
                  · exact join_1509  en_1504 ls _ _ hI_1504 hf_1504 i0_1504 i1_1504 (lv_sub hl [1, 2] rfl) hh
                  · refine lv_aload_n hx hb dX12_findRings_84 rfl (lv_at hl 1 rfl) ?_
                    refine lv_aload_n hx hb dX12_findRings_85 rfl (lv_at hl 1 rfl) ?_
                    refine lv_iload_n hx hb dX12_findRings_86 rfl (lv_at hl 2 rfl) ?_
                    refine hp_callRl (va_runV (As := [.int (nI n)]) (rest := [.ref (ad 0)]) ⟨hx, hb, hml, hown, hts⟩ (c_X12_trackAt l D cy _ cs ad en_1504 hI_1504 n (by omega)) (kw_X12_trackAt hts tw_1093 ⟨by decide, by decide⟩) (preV_of hh hK (hI.1 _ (by decide)) es1506 rfl) rfl rfl hl.1 rfl (lv_room (Nat.le_of_ble_eq_true rfl)) dX12_findRings_87 ⟨Nat.le_of_ble_eq_true rfl, Nat.le_of_ble_eq_true rfl⟩) hh hA (fun r_1528 H locs hw_1528 hh => ?_)
                    refine hp_put hx hb hts ix12 tyX12 tyX12_ok nmX12 hown hK hh (q := 0) rfl (hI.1 _ (by decide)) es1506 rfl 23 (by decide) (hts _ tw_902) (fun _ h9 => h9) rfl (ty := .long) (by decide +kernel) rfl rfl (Nat.le_of_ble_eq_true rfl) dX12_findRings_90 (fun H locs en_1529 hen_1529 hh => ?_)
                    have es1506_1529 : en_1529 0 = .inr (11, [.int fa_1506, .int hi_1506, .int (nI wd), .int (nI mo), .int (nI tb), .ref (ad 1), .ref (ad 2), .ref (ad 3), .ref (ad 4), .ref (ad 5), .ref (ad 6), .ref (ad 7), .ref (ad 8), .ref (ad 9), .int dp_1506, .long many_1506, .long grt_1506, .long lst_1506, .long nou_1506, .ref (ad 10), .ref (ad 11), .ref (ad 12), .int rm_1506, .long r_1528, .ref (ad 13), .int pr_1506, .ref (ad 14), .ref (ad 15), .ref (ad 16), .ref (ad 17), .int (nI wo), .ref (ad 18), .ref (ad 19)]) := by rw [hen_1529]; exact va_up_self _ _ _
                    have hI_1529 : RX cy cs ad en_1529 := by rw [hen_1529]; exact upr_M hI_1504 ⟨fa_1506, hi_1506, wd, mo, tb, dp_1506, many_1506, grt_1506, lst_1506, nou_1506, rm_1506, r_1528, pr_1506, wo, rfl, hwd2, hwd3, hmo, htb, hwo⟩
                    have hf_1529 : ∀ c, (c ≠ 0 ∧ c ≠ 6 ∧ c ≠ 7 ∧ c ≠ 12 ∧ c ≠ 13) → en_1529 c = en c := fun c hc => Eq.trans (show en_1529 c = en_1504 c from by rw [hen_1529, va_up_ne _ _ (by omega)]) (hf_1504 c hc)
                    have hkp_1529 : KP en en_1529 := KP_fv i0_1504 es1506 es1506_1529 hi_1506 (nI wd) (nI mo) (nI tb) pr_1506 (nI wo) rfl rfl rfl rfl rfl rfl rfl rfl rfl rfl rfl rfl
                    have hsd_1529 : SD en_1503 en_1529 := SD_fv i1_1504 es1506 es1506_1529 (show en_1529 7 = en_1504 7 from by rw [hen_1529, va_up_ne _ _ (by decide)]) dp_1506 rfl rfl
                    refine lv_iconst (v := 0) hx hb dX12_findRings_93 (by decide) ?_
                    refine lv_istore_n (lv' := [(2, .int 0), (0, .ref (ad 0)), (1, .int (nI n))]) hx hb dX12_findRings_94 rfl hl (by decide) rfl (fun ls hl => ?_)
                    have loop_1530 : ∀ (fu j1530 : Nat)  (en_1530 : Nat → va_E) (ls : Array Slot) (H : Heap) (locs : List Loc), 0 ≤ j1530 → j1530 ≤ n → n < j1530 + fu → RX cy cs ad en_1530 → (∀ c, (c ≠ 0 ∧ c ≠ 6 ∧ c ≠ 7 ∧ c ≠ 12 ∧ c ≠ 13) → en_1530 c = en c) → (KP en en_1530) → (SD en_1503 en_1530) → lv_has ls 3 [(2, .int (nI j1530)), (0, .ref (ad 0)), (1, .int (nI n))] → Hp D (Af cs ad sz) (Af cs ad sz) s.heap H locs cs ad en_1530 → W p l e (headSpec (Cond.code yX12_findRings cX12_findRings 3 none :: TB) (rmN 3)).room s m ([.ref (ad 0), .int (nI n)] : List Value).toArray below meth c H locs 0 0 (MQ below (va_Qv (S := Nat → va_E) (fun en1 => RX cy cs ad en1 ∧ (∀ c, (c ≠ 0 ∧ c ≠ 6 ∧ c ≠ 7 ∧ c ≠ 12 ∧ c ≠ 13) → en1 c = en c) ∧ KP en en1) (PostM D cs ad) (Af cs ad sz)) ([.ref (ad 0), .int (nI n)] : List Value).toArray s 0 0 (Af cs ad sz)) (F0 m 95 ls []) := by
                      intro fu
                      induction fu with
                      | zero => intro j1530  en_1530 ls H locs h0 h1 h2; exact absurd h2 (by omega)
                      | succ fu ih_1530 =>
                        intro j1530  en_1530 ls H locs hj0_1530 hj_1530 hfu_1530 hI_1530 hf_1530 i0_1530 i1_1530 hl hh
                        refine lv_iload_n hx hb dX12_findRings_95 rfl (lv_at hl 0 rfl) ?_
                        refine lv_iload_n hx hb dX12_findRings_96 rfl (lv_at hl 2 rfl) ?_
                        refine lv_icmp_ge (tgt := 118) hx hb dX12_findRings_97 (by decide) (fun c_1531 => ?_) (fun c_1531 => ?_)
                        · have n_1531 : n ≤ j1530 := n_le (a := n) (b := j1530) c_1531 (by omega) (by omega)
                          exact join_1509  en_1530 ls _ _ hI_1530 hf_1530 i0_1530 i1_1530 (lv_sub hl [1, 2] rfl) hh
                        · have n_1531 : j1530 < n := n_nle (a := n) (b := j1530) c_1531 (by omega) (by omega)
                          refine lv_aload_n hx hb dX12_findRings_100 rfl (lv_at hl 1 rfl) ?_
                          obtain ⟨fa_1532, hi_1532, wd_1532, mo_1532, tb_1532, dp_1532, many_1532, grt_1532, lst_1532, nou_1532, rm_1532, rb_1532, pr_1532, wo_1532, es1532, p0_1532, p1_1532, p2_1532, p3_1532, p4_1532⟩ := getr_M hI_1530
                          have hq2_1533 : wd_1532 = wd := n_eq ((show nI wd_1532 = rdI (en_1530 0) 2 from by rw [es1532]; rfl).trans (i0_1530.2.1.trans (show rdI (en 0) 2 = nI wd from by rw [es1496]; rfl))) (by omega) (by omega)
                          have hq3_1533 : mo_1532 = mo := n_eq ((show nI mo_1532 = rdI (en_1530 0) 3 from by rw [es1532]; rfl).trans (i0_1530.2.2.1.trans (show rdI (en 0) 3 = nI mo from by rw [es1496]; rfl))) (by omega) (by omega)
                          have hq4_1533 : tb_1532 = tb := n_eq ((show nI tb_1532 = rdI (en_1530 0) 4 from by rw [es1532]; rfl).trans (i0_1530.2.2.2.1.trans (show rdI (en 0) 4 = nI tb from by rw [es1496]; rfl))) (by omega) (by omega)
                          have hq30_1533 : wo_1532 = wo := n_eq ((show nI wo_1532 = rdI (en_1530 0) 30 from by rw [es1532]; rfl).trans (i0_1530.2.2.2.2.2.trans (show rdI (en 0) 30 = nI wo from by rw [es1496]; rfl))) (by omega) (by omega)
                          rw [hq2_1533, hq3_1533, hq4_1533, hq30_1533] at es1532
                          refine hp_get hx hb hts ix12 hown hK hh (q := 0) rfl (hI.1 _ (by decide)) es1532 rfl 24 (by decide) (hts _ tw_903) (fun _ h9 => h9) rfl dX12_findRings_101 ?_
                          refine lv_iload_n hx hb dX12_findRings_104 rfl (lv_at hl 0 rfl) ?_
                          refine lv_aload_n hx hb dX12_findRings_105 rfl (lv_at hl 1 rfl) ?_
                          refine hp_get hx hb hts ix12 hown hK hh (q := 0) rfl (hI.1 _ (by decide)) es1532 rfl 11 (by decide) (hts _ tw_890) (fun _ h9 => h9) rfl dX12_findRings_106 ?_
                          refine lv_iload_n hx hb dX12_findRings_109 rfl (lv_at hl 0 rfl) ?_
                          obtain ⟨f_1534, es1534⟩ := getr_nw hI_1530
                          refine hp_iald hx hb hK hh (q := 7) rfl (hI.1 _ (by decide)) es1534 (vp_in_nI (n := j1530) (by omega) (by decide)) dX12_findRings_110 ?_
                          rw [nI_clamp (n := j1530) (by omega)]
                          obtain ⟨v_1535, hv_1535, hve_1535⟩ := hall_1503 j1530 (by omega)
                          rw [show f_1534 j1530 = nI v_1535 from (show f_1534 j1530 = rdF (en_1503 7) j1530 from by rw [← i1_1530.2, es1534]; rfl).trans hve_1535]
                          obtain ⟨f_1536, es1536⟩ := getr_rw hI_1530
                          refine hp_iast hx hb hK hh (q := 13) rfl (hI.1 _ (by decide)) es1536 (vp_in_nI (n := j1530) (by omega) (by decide)) dX12_findRings_111 (fun H locs en_1537 hen_1537 hh => ?_)
                          rw [nI_clamp (n := j1530) (by omega)] at hen_1537
                          have es1532_1537 : en_1537 0 = .inr (11, [.int fa_1532, .int hi_1532, .int (nI wd), .int (nI mo), .int (nI tb), .ref (ad 1), .ref (ad 2), .ref (ad 3), .ref (ad 4), .ref (ad 5), .ref (ad 6), .ref (ad 7), .ref (ad 8), .ref (ad 9), .int dp_1532, .long many_1532, .long grt_1532, .long lst_1532, .long nou_1532, .ref (ad 10), .ref (ad 11), .ref (ad 12), .int rm_1532, .long rb_1532, .ref (ad 13), .int pr_1532, .ref (ad 14), .ref (ad 15), .ref (ad 16), .ref (ad 17), .int (nI wo), .ref (ad 18), .ref (ad 19)]) := by rw [hen_1537, va_up_ne _ _ (by decide)]; exact es1532
                          have es1534_1537 : en_1537 7 = .inl (cy 0, 13, .inl f_1534) := by rw [hen_1537, va_up_ne _ _ (by decide)]; exact es1534
                          have es1536_1537 : en_1537 13 = .inl (cy 0, 12, .inl (upd f_1536 j1530 (nI v_1535))) := by rw [hen_1537]; exact va_up_self _ _ _
                          have hI_1537 : RX cy cs ad en_1537 := by rw [hen_1537]; exact upr_rw hI_1530 ⟨(upd f_1536 j1530 (nI v_1535)), rfl⟩
                          have hf_1537 : ∀ c, (c ≠ 0 ∧ c ≠ 6 ∧ c ≠ 7 ∧ c ≠ 12 ∧ c ≠ 13) → en_1537 c = en c := fun c hc => Eq.trans (show en_1537 c = en_1530 c from by rw [hen_1537, va_up_ne _ _ (by omega)]) (hf_1530 c hc)
                          have hkp_1537 : KP en en_1537 := KP_same i0_1530 (show en_1537 0 = en_1530 0 from by rw [hen_1537, va_up_ne _ _ (by decide)])
                          have hsd_1537 : SD en_1503 en_1537 := SD_same i1_1530 (show en_1537 0 = en_1530 0 from by rw [hen_1537, va_up_ne _ _ (by decide)]) (show en_1537 7 = en_1530 7 from by rw [hen_1537, va_up_ne _ _ (by decide)])
                          refine lv_iinc (v := (nI (j1530 + 1))) (lv' := [(2, .int (nI (j1530 + 1))), (0, .ref (ad 0)), (1, .int (nI n))]) hx hb dX12_findRings_112 hl (k := 0) rfl (nI_1 _) (by decide) rfl (fun ls hl => ?_)
                          refine lv_goto (tgt := 95) hx hb dX12_findRings_115 (by decide) ?_
                          exact ih_1530 ((j1530 + 1))  en_1537 ls H locs (by omega) (by omega) (by omega) hI_1537 hf_1537 (hkp_1537) (hsd_1537) (lv_sub hl [0, 1, 2] rfl) hh
                    exact loop_1530 (n + 1) 0  en_1529 ls _ _ (Nat.le_refl _) (by omega) (by omega) hI_1529 hf_1529 (hkp_1529) (hsd_1529) (lv_sub hl [0, 1, 2] rfl) hh
            · have n_1505 : j1504 < n := n_nle (a := n) (b := j1504) c_1505 (by omega) (by omega)
              refine lv_aload_n hx hb dX12_findRings_29 rfl (lv_at hl 1 rfl) ?_
              obtain ⟨fa_1538, hi_1538, wd_1538, mo_1538, tb_1538, dp_1538, many_1538, grt_1538, lst_1538, nou_1538, rm_1538, rb_1538, pr_1538, wo_1538, es1538, p0_1538, p1_1538, p2_1538, p3_1538, p4_1538⟩ := getr_M hI_1504
              have hq2_1539 : wd_1538 = wd := n_eq ((show nI wd_1538 = rdI (en_1504 0) 2 from by rw [es1538]; rfl).trans (i0_1504.2.1.trans (show rdI (en 0) 2 = nI wd from by rw [es1496]; rfl))) (by omega) (by omega)
              have hq3_1539 : mo_1538 = mo := n_eq ((show nI mo_1538 = rdI (en_1504 0) 3 from by rw [es1538]; rfl).trans (i0_1504.2.2.1.trans (show rdI (en 0) 3 = nI mo from by rw [es1496]; rfl))) (by omega) (by omega)
              have hq4_1539 : tb_1538 = tb := n_eq ((show nI tb_1538 = rdI (en_1504 0) 4 from by rw [es1538]; rfl).trans (i0_1504.2.2.2.1.trans (show rdI (en 0) 4 = nI tb from by rw [es1496]; rfl))) (by omega) (by omega)
              have hq30_1539 : wo_1538 = wo := n_eq ((show nI wo_1538 = rdI (en_1504 0) 30 from by rw [es1538]; rfl).trans (i0_1504.2.2.2.2.2.trans (show rdI (en 0) 30 = nI wo from by rw [es1496]; rfl))) (by omega) (by omega)
              rw [hq2_1539, hq3_1539, hq4_1539, hq30_1539] at es1538
              refine hp_get hx hb hts ix12 hown hK hh (q := 0) rfl (hI.1 _ (by decide)) es1538 rfl 21 (by decide) (hts _ tw_900) (fun _ h9 => h9) rfl dX12_findRings_30 ?_
              refine lv_iload_n hx hb dX12_findRings_33 rfl (lv_at hl 0 rfl) ?_
              refine lv_aload_n hx hb dX12_findRings_34 rfl (lv_at hl 1 rfl) ?_
              refine hp_get hx hb hts ix12 hown hK hh (q := 0) rfl (hI.1 _ (by decide)) es1538 rfl 11 (by decide) (hts _ tw_890) (fun _ h9 => h9) rfl dX12_findRings_35 ?_
              refine lv_iload_n hx hb dX12_findRings_38 rfl (lv_at hl 0 rfl) ?_
              obtain ⟨f_1540, es1540⟩ := getr_nw hI_1504
              refine hp_iald hx hb hK hh (q := 7) rfl (hI.1 _ (by decide)) es1540 (vp_in_nI (n := j1504) (by omega) (by decide)) dX12_findRings_39 ?_
              rw [nI_clamp (n := j1504) (by omega)]
              obtain ⟨v_1541, hv_1541, hve_1541⟩ := hall_1503 j1504 (by omega)
              rw [show f_1540 j1504 = nI v_1541 from (show f_1540 j1504 = rdF (en_1503 7) j1504 from by rw [← i1_1504.2, es1540]; rfl).trans hve_1541]
              obtain ⟨f_1542, es1542, p0_1542⟩ := getr_ak hI_1504
              refine hp_iast hx hb hK hh (q := 12) rfl (hI.1 _ (by decide)) es1542 (vp_in_nI (n := j1504) (by omega) (by decide)) dX12_findRings_40 (fun H locs en_1543 hen_1543 hh => ?_)
              rw [nI_clamp (n := j1504) (by omega)] at hen_1543
              have es1538_1543 : en_1543 0 = .inr (11, [.int fa_1538, .int hi_1538, .int (nI wd), .int (nI mo), .int (nI tb), .ref (ad 1), .ref (ad 2), .ref (ad 3), .ref (ad 4), .ref (ad 5), .ref (ad 6), .ref (ad 7), .ref (ad 8), .ref (ad 9), .int dp_1538, .long many_1538, .long grt_1538, .long lst_1538, .long nou_1538, .ref (ad 10), .ref (ad 11), .ref (ad 12), .int rm_1538, .long rb_1538, .ref (ad 13), .int pr_1538, .ref (ad 14), .ref (ad 15), .ref (ad 16), .ref (ad 17), .int (nI wo), .ref (ad 18), .ref (ad 19)]) := by rw [hen_1543, va_up_ne _ _ (by decide)]; exact es1538
              have es1540_1543 : en_1543 7 = .inl (cy 0, 13, .inl f_1540) := by rw [hen_1543, va_up_ne _ _ (by decide)]; exact es1540
              have es1542_1543 : en_1543 12 = .inl (cy 0, 12, .inl (upd f_1542 j1504 (nI v_1541))) := by rw [hen_1543]; exact va_up_self _ _ _
              have hI_1543 : RX cy cs ad en_1543 := by rw [hen_1543]; exact upr_ak hI_1504 ⟨(upd f_1542 j1504 (nI v_1541)), rfl, (vals_updB p0_1542 (by omega))⟩
              have hf_1543 : ∀ c, (c ≠ 0 ∧ c ≠ 6 ∧ c ≠ 7 ∧ c ≠ 12 ∧ c ≠ 13) → en_1543 c = en c := fun c hc => Eq.trans (show en_1543 c = en_1504 c from by rw [hen_1543, va_up_ne _ _ (by omega)]) (hf_1504 c hc)
              have hkp_1543 : KP en en_1543 := KP_same i0_1504 (show en_1543 0 = en_1504 0 from by rw [hen_1543, va_up_ne _ _ (by decide)])
              have hsd_1543 : SD en_1503 en_1543 := SD_same i1_1504 (show en_1543 0 = en_1504 0 from by rw [hen_1543, va_up_ne _ _ (by decide)]) (show en_1543 7 = en_1504 7 from by rw [hen_1543, va_up_ne _ _ (by decide)])
              refine lv_iinc (v := (nI (j1504 + 1))) (lv' := [(2, .int (nI (j1504 + 1))), (0, .ref (ad 0)), (1, .int (nI n))]) hx hb dX12_findRings_41 hl (k := 0) rfl (nI_1 _) (by decide) rfl (fun ls hl => ?_)
              refine lv_goto (tgt := 24) hx hb dX12_findRings_44 (by decide) ?_
              exact ih_1504 ((j1504 + 1))  en_1543 ls H locs (by omega) (by omega) (by omega) hI_1543 hf_1543 (hkp_1543) (hsd_1543) (lv_sub hl [0, 1, 2] rfl) hh
        exact loop_1504 (n + 1) 0  en_1503 ls _ _ (Nat.le_refl _) (by omega) (by omega) hI_1503 hf_1503 (hkp_1503) ((SD_rf en_1503)) (lv_sub hl [0, 1, 2] rfl) hh
  exact loop_1500 (134217728 + 1) 134217728 0 0 en_1499 ls _ _ (by omega) hI_1499 hf_1499 (hND_1499) (by omega) (hkp_1499) (lv_sub hl [0, 1] rfl) hh
theorem kw_X12_findRings {R : Room} {s : State} {args : Array Value} {own : String} {idx : Nat} (hts : ∀ w ∈ TB, w.before args s = true) (hl : Cond.methodLink own idx yX12_findRings ∈ TB) (hR : 3 + 1 ≤ R.frames ∧ 8 + (3 + 11) + 40 * 3 ≤ R.locals) : CallW R s args own RX12 idx yX12_findRings cX12_findRings 3 none (Cond.code yX12_findRings cX12_findRings 3 none :: TB) (rmN 3) 0 0 1 := cwV 1 hts (TB_V hl tw_1075 ts_44 tw_9 tw_1076) rfl rfl rfl (by decide +kernel) hR
set_option maxHeartbeats 4000000 in
set_option maxRecDepth 100000 in
/-- X12_rings -/
theorem c_X12_rings (l : Launch) (D : va_G) (cy : Nat → ClassId) (sz : Nat) (cs : List Nat) (ad : Nat → Nat) (en : Nat → va_E) (hI : RX cy cs ad en) (n9 : Int32)   : Met l yX12_rings (Cond.code yX12_rings cX12_rings 2 (some .int) :: TB) (rmN 4) (va_Pc [.ref (ad 0), .int n9] (Pre D cy cs ad en sz)) (va_Qi (S := Nat → va_E) (fun r en1 => RX cy cs ad en1 ∧ (∀ c, (c ≠ 0 ∧ c ≠ 6 ∧ c ≠ 7 ∧ c ≠ 8 ∧ c ≠ 9 ∧ c ≠ 12 ∧ c ≠ 13) → en1 c = en c) ∧ KP en en1) (PostM D cs ad) (Af cs ad sz)) 0 0 (Af cs ad sz) := by
  refine Met.ofW (cc := cX12_rings) (maxL := 2) (ret := (some .int)) (by decide) rfl ?_
  intro p e s m args below meth c s₁ B hml hv
  obtain ⟨rfl, hsz, hP, hK, hD0⟩ := hv
  have hx := B.exec
  have hb := B.bytes
  have hr := B.returns
  have hts : ∀ w ∈ TB, w.before _ s = true := fun w h => atoms_spec (ws := _ :: TB) B.pre w (List.mem_cons_of_mem _ h)
  have hown : s.vm.findClass RX12 = some m.cls := findClass_of_methodNamed B.named
  have hlocks := B.notSynchronized
  have hh : Hp D (Af cs ad sz) (Af cs ad sz) s.heap s.heap [] cs ad en := ⟨hP, Af_self hD0, va_S.rf⟩
  have hA : ∀ q : Nat, s.heap.size ≤ q → Af cs ad sz q := fun q h => Or.inr (by rw [hsz] at h; exact h)
  have hl := lv_entry ([.ref (ad 0), .int n9]) (n := 2) (Nat.le_of_ble_eq_true rfl)
  rw [lg_entry_eq]
  generalize (lg_sl ([.ref (ad 0), .int n9]) ++ List.replicate (2 - (lg_sl ([.ref (ad 0), .int n9])).length) Slot.unset).toArray = ls at hl ⊢
  have hl : lv_has ls 2 [(0, .ref (ad 0)), (1, .int n9)] := hl
  have hf0 : ∀ c, (c ≠ 0 ∧ c ≠ 6 ∧ c ≠ 7 ∧ c ≠ 8 ∧ c ≠ 9 ∧ c ≠ 12 ∧ c ≠ 13) → en c = en c := fun _ _ => rfl
  obtain ⟨fa, hi, wd, mo, tb, dp, many, grt, lst, nou, rm, rb, pr, wo, es1544, hwd2, hwd3, hmo, htb, hwo⟩ := getr_M hI
  refine lv_iload_n hx hb dX12_rings_0 rfl (lv_at hl 1 rfl) ?_
  refine lv_i2l hx hb dX12_rings_1 rfl ?_
  refine lv_lconst (v := 1) hx hb dX12_rings_2 (by decide) ?_
  refine lv_ldc2 hx hb hown (hts _ tw_1024) dX12_rings_3 ?_
  refine hp_callRi (va_runS (As := [.long n9.toInt64, .long 1, .long 8]) (rest := []) ⟨hx, hb, hml, hown, hts⟩ (c_X12_within l D cy _ cs ad en n9.toInt64 1 8) (kw_X12_within hts tw_985 ⟨by decide, by decide⟩) (preS_of hh hK) rfl rfl hl.1 rfl (lv_room (Nat.le_of_ble_eq_true rfl)) dX12_rings_6 ⟨Nat.le_of_ble_eq_true rfl, Nat.le_of_ble_eq_true rfl⟩) hh hA (fun r_1545 H locs hw_1545 hh => ?_)
  rcases Decidable.em (wi n9 1 8) with hp_1545 | hp_1545
  · obtain rfl : r_1545 = 1 := Eq.trans hw_1545 (if_pos ((wj_32 (by decide) (by decide)).mpr hp_1545))
    obtain ⟨N_1545, rfl, hA_1545, hB_1545⟩ := wi_natB hp_1545 1 8 (by decide) (by decide)
    refine lv_if_ne (tgt := 15) hx hb dX12_rings_9 (by decide) (fun _ => ?_) (fun c_0 => absurd c_0 (by decide))
    refine lv_aload_n hx hb dX12_rings_15 rfl (lv_at hl 0 rfl) ?_
    refine lv_iload_n hx hb dX12_rings_16 rfl (lv_at hl 1 rfl) ?_
    refine hp_callMi (va_runV (As := [.int (nI N_1545)]) (rest := []) ⟨hx, hb, hml, hown, hts⟩ (c_X12_isSpent l D cy _ cs ad en hI N_1545 (by omega)) (kw_X12_isSpent hts tw_1025 ⟨by decide, by decide⟩) (preV_of hh hK (hI.1 _ (by decide)) es1544 rfl) rfl rfl hl.1 rfl (lv_room (Nat.le_of_ble_eq_true rfl)) dX12_rings_17 ⟨Nat.le_of_ble_eq_true rfl, Nat.le_of_ble_eq_true rfl⟩) hh hA (fun r_1546 H locs en_1546 hw_1546 hh => ?_)
    obtain ⟨hI_1546, hu_1546, hx_1546⟩ := hw_1546
    have es1544_1546 : en_1546 0 = .inr (11, [.int fa, .int hi, .int (nI wd), .int (nI mo), .int (nI tb), .ref (ad 1), .ref (ad 2), .ref (ad 3), .ref (ad 4), .ref (ad 5), .ref (ad 6), .ref (ad 7), .ref (ad 8), .ref (ad 9), .int dp, .long many, .long grt, .long lst, .long nou, .ref (ad 10), .ref (ad 11), .ref (ad 12), .int rm, .long rb, .ref (ad 13), .int pr, .ref (ad 14), .ref (ad 15), .ref (ad 16), .ref (ad 17), .int (nI wo), .ref (ad 18), .ref (ad 19)]) := (hu_1546 0 (by omega)).trans es1544
    have hf_1546 : ∀ c, (c ≠ 0 ∧ c ≠ 6 ∧ c ≠ 7 ∧ c ≠ 8 ∧ c ≠ 9 ∧ c ≠ 12 ∧ c ≠ 13) → en_1546 c = en c := fun c hc => (hu_1546 c (by omega)).trans (hf0 c hc)
    have hkp_1546 : KP en en_1546 := KP_same (KP_rf en) (hu_1546 0 (by omega))
    have hw_1546 := hx_1546
    rcases hw_1546 with hb_1546 | hb_1546
    · obtain rfl : r_1546 = 0 := hb_1546
      refine lv_if_eq (tgt := 26) hx hb dX12_rings_20 (by decide) (fun _ => ?_) (fun c_0 => absurd c_0 (by decide))
      refine lv_aload_n hx hb dX12_rings_26 rfl (lv_at hl 0 rfl) ?_
      refine lv_iload_n hx hb dX12_rings_27 rfl (lv_at hl 1 rfl) ?_
      refine hp_callMv (va_runV (As := [.int (nI N_1545)]) (rest := []) ⟨hx, hb, hml, hown, hts⟩ (c_X12_findRings l D cy _ cs ad en_1546 hI_1546 N_1545 (by omega) (by omega)) (kw_X12_findRings hts tw_1073 ⟨by decide, by decide⟩) (preV_of hh hK (hI.1 _ (by decide)) es1544_1546 rfl) rfl rfl hl.1 rfl (lv_room (Nat.le_of_ble_eq_true rfl)) dX12_rings_28 ⟨Nat.le_of_ble_eq_true rfl, Nat.le_of_ble_eq_true rfl⟩) hh hA (fun H locs en_1547 hw_1547 hh => ?_)
      obtain ⟨hI_1547, hu_1547, hx_1547⟩ := hw_1547
      have hf_1547 : ∀ c, (c ≠ 0 ∧ c ≠ 6 ∧ c ≠ 7 ∧ c ≠ 8 ∧ c ≠ 9 ∧ c ≠ 12 ∧ c ≠ 13) → en_1547 c = en c := fun c hc => (hu_1547 c (by omega)).trans (hf_1546 c hc)
      have hkp_1547 : KP en en_1547 := KP_tr hkp_1546 hx_1547
      refine lv_aload_n hx hb dX12_rings_31 rfl (lv_at hl 0 rfl) ?_
      obtain ⟨fa_1548, hi_1548, wd_1548, mo_1548, tb_1548, dp_1548, many_1548, grt_1548, lst_1548, nou_1548, rm_1548, rb_1548, pr_1548, wo_1548, es1548, p0_1548, p1_1548, p2_1548, p3_1548, p4_1548⟩ := getr_M hI_1547
      have hq2_1549 : wd_1548 = wd := n_eq ((show nI wd_1548 = rdI (en_1547 0) 2 from by rw [es1548]; rfl).trans (hkp_1547.2.1.trans (show rdI (en 0) 2 = nI wd from by rw [es1544]; rfl))) (by omega) (by omega)
      have hq3_1549 : mo_1548 = mo := n_eq ((show nI mo_1548 = rdI (en_1547 0) 3 from by rw [es1548]; rfl).trans (hkp_1547.2.2.1.trans (show rdI (en 0) 3 = nI mo from by rw [es1544]; rfl))) (by omega) (by omega)
      have hq4_1549 : tb_1548 = tb := n_eq ((show nI tb_1548 = rdI (en_1547 0) 4 from by rw [es1548]; rfl).trans (hkp_1547.2.2.2.1.trans (show rdI (en 0) 4 = nI tb from by rw [es1544]; rfl))) (by omega) (by omega)
      have hq30_1549 : wo_1548 = wo := n_eq ((show nI wo_1548 = rdI (en_1547 0) 30 from by rw [es1548]; rfl).trans (hkp_1547.2.2.2.2.2.trans (show rdI (en 0) 30 = nI wo from by rw [es1544]; rfl))) (by omega) (by omega)
      rw [hq2_1549, hq3_1549, hq4_1549, hq30_1549] at es1548
      refine hp_get hx hb hts ix12 hown hK hh (q := 0) rfl (hI.1 _ (by decide)) es1548 rfl 22 (by decide) (hts _ tw_901) (fun _ h9 => h9) rfl dX12_rings_32 ?_
      exact hp_iretM hx hb hr rfl hlocks hh (⟨hI_1547, hf_1547, hkp_1547⟩) dX12_rings_35
    · obtain rfl : r_1546 = 1 := hb_1546
      refine lv_if_eq (tgt := 26) hx hb dX12_rings_20 (by decide) (fun c_0 => absurd c_0 (by decide)) (fun _ => ?_)
      refine lv_bipush (v := (-6)) hx hb dX12_rings_23 (by decide) ?_
      exact hp_iretM hx hb hr rfl hlocks hh (⟨hI_1546, hf_1546, hkp_1546⟩) dX12_rings_25
  · obtain rfl : r_1545 = 0 := Eq.trans hw_1545 (if_neg (fun q => hp_1545 ((wj_32 (by decide) (by decide)).mp q)))
    refine lv_if_ne (tgt := 15) hx hb dX12_rings_9 (by decide) (fun c_0 => absurd c_0 (by decide)) (fun _ => ?_)
    refine lv_bipush (v := (-2)) hx hb dX12_rings_12 (by decide) ?_
    exact hp_iretM hx hb hr rfl hlocks hh (⟨hI, hf0, (KP_rf en)⟩) dX12_rings_14
theorem kw_X12_rings {R : Room} {s : State} {args : Array Value} {own : String} {idx : Nat} (hts : ∀ w ∈ TB, w.before args s = true) (hl : Cond.methodLink own idx yX12_rings ∈ TB) (hR : 4 + 1 ≤ R.frames ∧ 8 + (2 + 11) + 40 * 4 ≤ R.locals) : CallW R s args own RX12 idx yX12_rings cX12_rings 2 (some .int) (Cond.code yX12_rings cX12_rings 2 (some .int) :: TB) (rmN 4) 0 0 1 := cwV 1 hts (TB_V hl tw_1070 tw_1071 tw_9 tw_1072) rfl rfl rfl (by decide +kernel) hR
set_option maxHeartbeats 4000000 in
set_option maxRecDepth 100000 in
/-- X12_ringTrack -/
theorem c_X12_ringTrack (l : Launch) (D : va_G) (cy : Nat → ClassId) (sz : Nat) (cs : List Nat) (ad : Nat → Nat) (en : Nat → va_E) (hI : RX cy cs ad en) (n9 : Int32)   : Met l yX12_ringTrack (Cond.code yX12_ringTrack cX12_ringTrack 2 (some .long) :: TB) (rmN 4) (va_Pc [.ref (ad 0), .int n9] (Pre D cy cs ad en sz)) (va_Ql (S := Nat → va_E) (fun r en1 => RX cy cs ad en1 ∧ (∀ c, (c ≠ 0 ∧ c ≠ 6 ∧ c ≠ 7 ∧ c ≠ 8 ∧ c ≠ 9 ∧ c ≠ 12 ∧ c ≠ 13) → en1 c = en c) ∧ KP en en1) (PostM D cs ad) (Af cs ad sz)) 0 0 (Af cs ad sz) := by
  refine Met.ofW (cc := cX12_ringTrack) (maxL := 2) (ret := (some .long)) (by decide) rfl ?_
  intro p e s m args below meth c s₁ B hml hv
  obtain ⟨rfl, hsz, hP, hK, hD0⟩ := hv
  have hx := B.exec
  have hb := B.bytes
  have hr := B.returns
  have hts : ∀ w ∈ TB, w.before _ s = true := fun w h => atoms_spec (ws := _ :: TB) B.pre w (List.mem_cons_of_mem _ h)
  have hown : s.vm.findClass RX12 = some m.cls := findClass_of_methodNamed B.named
  have hlocks := B.notSynchronized
  have hh : Hp D (Af cs ad sz) (Af cs ad sz) s.heap s.heap [] cs ad en := ⟨hP, Af_self hD0, va_S.rf⟩
  have hA : ∀ q : Nat, s.heap.size ≤ q → Af cs ad sz q := fun q h => Or.inr (by rw [hsz] at h; exact h)
  have hl := lv_entry ([.ref (ad 0), .int n9]) (n := 2) (Nat.le_of_ble_eq_true rfl)
  rw [lg_entry_eq]
  generalize (lg_sl ([.ref (ad 0), .int n9]) ++ List.replicate (2 - (lg_sl ([.ref (ad 0), .int n9])).length) Slot.unset).toArray = ls at hl ⊢
  have hl : lv_has ls 2 [(0, .ref (ad 0)), (1, .int n9)] := hl
  have hf0 : ∀ c, (c ≠ 0 ∧ c ≠ 6 ∧ c ≠ 7 ∧ c ≠ 8 ∧ c ≠ 9 ∧ c ≠ 12 ∧ c ≠ 13) → en c = en c := fun _ _ => rfl
  obtain ⟨fa, hi, wd, mo, tb, dp, many, grt, lst, nou, rm, rb, pr, wo, es1550, hwd2, hwd3, hmo, htb, hwo⟩ := getr_M hI
  refine lv_iload_n hx hb dX12_ringTrack_0 rfl (lv_at hl 1 rfl) ?_
  refine lv_i2l hx hb dX12_ringTrack_1 rfl ?_
  refine lv_lconst (v := 1) hx hb dX12_ringTrack_2 (by decide) ?_
  refine lv_ldc2 hx hb hown (hts _ tw_1024) dX12_ringTrack_3 ?_
  refine hp_callRi (va_runS (As := [.long n9.toInt64, .long 1, .long 8]) (rest := []) ⟨hx, hb, hml, hown, hts⟩ (c_X12_within l D cy _ cs ad en n9.toInt64 1 8) (kw_X12_within hts tw_985 ⟨by decide, by decide⟩) (preS_of hh hK) rfl rfl hl.1 rfl (lv_room (Nat.le_of_ble_eq_true rfl)) dX12_ringTrack_6 ⟨Nat.le_of_ble_eq_true rfl, Nat.le_of_ble_eq_true rfl⟩) hh hA (fun r_1551 H locs hw_1551 hh => ?_)
  rcases Decidable.em (wi n9 1 8) with hp_1551 | hp_1551
  · obtain rfl : r_1551 = 1 := Eq.trans hw_1551 (if_pos ((wj_32 (by decide) (by decide)).mpr hp_1551))
    obtain ⟨N_1551, rfl, hA_1551, hB_1551⟩ := wi_natB hp_1551 1 8 (by decide) (by decide)
    refine lv_if_eq (tgt := 20) hx hb dX12_ringTrack_9 (by decide) (fun c_0 => absurd c_0 (by decide)) (fun _ => ?_)
    refine lv_aload_n hx hb dX12_ringTrack_12 rfl (lv_at hl 0 rfl) ?_
    refine lv_iload_n hx hb dX12_ringTrack_13 rfl (lv_at hl 1 rfl) ?_
    refine hp_callMi (va_runV (As := [.int (nI N_1551)]) (rest := []) ⟨hx, hb, hml, hown, hts⟩ (c_X12_isSpent l D cy _ cs ad en hI N_1551 (by omega)) (kw_X12_isSpent hts tw_1025 ⟨by decide, by decide⟩) (preV_of hh hK (hI.1 _ (by decide)) es1550 rfl) rfl rfl hl.1 rfl (lv_room (Nat.le_of_ble_eq_true rfl)) dX12_ringTrack_14 ⟨Nat.le_of_ble_eq_true rfl, Nat.le_of_ble_eq_true rfl⟩) hh hA (fun r_1552 H locs en_1552 hw_1552 hh => ?_)
    obtain ⟨hI_1552, hu_1552, hx_1552⟩ := hw_1552
    have es1550_1552 : en_1552 0 = .inr (11, [.int fa, .int hi, .int (nI wd), .int (nI mo), .int (nI tb), .ref (ad 1), .ref (ad 2), .ref (ad 3), .ref (ad 4), .ref (ad 5), .ref (ad 6), .ref (ad 7), .ref (ad 8), .ref (ad 9), .int dp, .long many, .long grt, .long lst, .long nou, .ref (ad 10), .ref (ad 11), .ref (ad 12), .int rm, .long rb, .ref (ad 13), .int pr, .ref (ad 14), .ref (ad 15), .ref (ad 16), .ref (ad 17), .int (nI wo), .ref (ad 18), .ref (ad 19)]) := (hu_1552 0 (by omega)).trans es1550
    have hf_1552 : ∀ c, (c ≠ 0 ∧ c ≠ 6 ∧ c ≠ 7 ∧ c ≠ 8 ∧ c ≠ 9 ∧ c ≠ 12 ∧ c ≠ 13) → en_1552 c = en c := fun c hc => (hu_1552 c (by omega)).trans (hf0 c hc)
    have hkp_1552 : KP en en_1552 := KP_same (KP_rf en) (hu_1552 0 (by omega))
    have hw_1552 := hx_1552
    rcases hw_1552 with hb_1552 | hb_1552
    · obtain rfl : r_1552 = 0 := hb_1552
      refine lv_if_eq (tgt := 24) hx hb dX12_ringTrack_17 (by decide) (fun _ => ?_) (fun c_0 => absurd c_0 (by decide))
      refine lv_aload_n hx hb dX12_ringTrack_24 rfl (lv_at hl 0 rfl) ?_
      refine lv_iload_n hx hb dX12_ringTrack_25 rfl (lv_at hl 1 rfl) ?_
      refine hp_callMv (va_runV (As := [.int (nI N_1551)]) (rest := []) ⟨hx, hb, hml, hown, hts⟩ (c_X12_findRings l D cy _ cs ad en_1552 hI_1552 N_1551 (by omega) (by omega)) (kw_X12_findRings hts tw_1073 ⟨by decide, by decide⟩) (preV_of hh hK (hI.1 _ (by decide)) es1550_1552 rfl) rfl rfl hl.1 rfl (lv_room (Nat.le_of_ble_eq_true rfl)) dX12_ringTrack_26 ⟨Nat.le_of_ble_eq_true rfl, Nat.le_of_ble_eq_true rfl⟩) hh hA (fun H locs en_1553 hw_1553 hh => ?_)
      obtain ⟨hI_1553, hu_1553, hx_1553⟩ := hw_1553
      have hf_1553 : ∀ c, (c ≠ 0 ∧ c ≠ 6 ∧ c ≠ 7 ∧ c ≠ 8 ∧ c ≠ 9 ∧ c ≠ 12 ∧ c ≠ 13) → en_1553 c = en c := fun c hc => (hu_1553 c (by omega)).trans (hf_1552 c hc)
      have hkp_1553 : KP en en_1553 := KP_tr hkp_1552 hx_1553
      refine lv_aload_n hx hb dX12_ringTrack_29 rfl (lv_at hl 0 rfl) ?_
      obtain ⟨fa_1554, hi_1554, wd_1554, mo_1554, tb_1554, dp_1554, many_1554, grt_1554, lst_1554, nou_1554, rm_1554, rb_1554, pr_1554, wo_1554, es1554, p0_1554, p1_1554, p2_1554, p3_1554, p4_1554⟩ := getr_M hI_1553
      have hq2_1555 : wd_1554 = wd := n_eq ((show nI wd_1554 = rdI (en_1553 0) 2 from by rw [es1554]; rfl).trans (hkp_1553.2.1.trans (show rdI (en 0) 2 = nI wd from by rw [es1550]; rfl))) (by omega) (by omega)
      have hq3_1555 : mo_1554 = mo := n_eq ((show nI mo_1554 = rdI (en_1553 0) 3 from by rw [es1554]; rfl).trans (hkp_1553.2.2.1.trans (show rdI (en 0) 3 = nI mo from by rw [es1550]; rfl))) (by omega) (by omega)
      have hq4_1555 : tb_1554 = tb := n_eq ((show nI tb_1554 = rdI (en_1553 0) 4 from by rw [es1554]; rfl).trans (hkp_1553.2.2.2.1.trans (show rdI (en 0) 4 = nI tb from by rw [es1550]; rfl))) (by omega) (by omega)
      have hq30_1555 : wo_1554 = wo := n_eq ((show nI wo_1554 = rdI (en_1553 0) 30 from by rw [es1554]; rfl).trans (hkp_1553.2.2.2.2.2.trans (show rdI (en 0) 30 = nI wo from by rw [es1550]; rfl))) (by omega) (by omega)
      rw [hq2_1555, hq3_1555, hq4_1555, hq30_1555] at es1554
      refine hp_get hx hb hts ix12 hown hK hh (q := 0) rfl (hI.1 _ (by decide)) es1554 rfl 22 (by decide) (hts _ tw_901) (fun _ h9 => h9) rfl dX12_ringTrack_30 ?_
      refine lv_if_ne (tgt := 42) hx hb dX12_ringTrack_33 (by decide) (fun c_1556 => ?_) (fun c_1556 => ?_)
      · refine lv_aload_n hx hb dX12_ringTrack_42 rfl (lv_at hl 0 rfl) ?_
        refine hp_get hx hb hts ix12 hown hK hh (q := 0) rfl (hI.1 _ (by decide)) es1554 rfl 23 (by decide) (hts _ tw_902) (fun _ h9 => h9) rfl dX12_ringTrack_43 ?_
        exact hp_lretM hx hb hr hlocks hh (⟨hI_1553, hf_1553, hkp_1553⟩) dX12_ringTrack_46
      · refine lv_ldc2 hx hb hown (hts _ tw_1015) dX12_ringTrack_36 ?_
        refine lv_goto (tgt := 46) hx hb dX12_ringTrack_39 (by decide) ?_
        exact hp_lretM hx hb hr hlocks hh (⟨hI_1553, hf_1553, hkp_1553⟩) dX12_ringTrack_46
    · obtain rfl : r_1552 = 1 := hb_1552
      refine lv_if_eq (tgt := 24) hx hb dX12_ringTrack_17 (by decide) (fun c_0 => absurd c_0 (by decide)) (fun _ => ?_)
      refine lv_ldc2 hx hb hown (hts _ tw_1015) dX12_ringTrack_20 ?_
      exact hp_lretM hx hb hr hlocks hh (⟨hI_1552, hf_1552, hkp_1552⟩) dX12_ringTrack_23
  · obtain rfl : r_1551 = 0 := Eq.trans hw_1551 (if_neg (fun q => hp_1551 ((wj_32 (by decide) (by decide)).mp q)))
    refine lv_if_eq (tgt := 20) hx hb dX12_ringTrack_9 (by decide) (fun _ => ?_) (fun c_0 => absurd c_0 (by decide))
    refine lv_ldc2 hx hb hown (hts _ tw_1015) dX12_ringTrack_20 ?_
    exact hp_lretM hx hb hr hlocks hh (⟨hI, hf0, (KP_rf en)⟩) dX12_ringTrack_23
theorem kw_X12_ringTrack {R : Room} {s : State} {args : Array Value} {own : String} {idx : Nat} (hts : ∀ w ∈ TB, w.before args s = true) (hl : Cond.methodLink own idx yX12_ringTrack ∈ TB) (hR : 4 + 1 ≤ R.frames ∧ 8 + (2 + 11) + 40 * 4 ≤ R.locals) : CallW R s args own RX12 idx yX12_ringTrack cX12_ringTrack 2 (some .long) (Cond.code yX12_ringTrack cX12_ringTrack 2 (some .long) :: TB) (rmN 4) 0 0 1 := cwV 1 hts (TB_V hl tw_1098 tw_1099 tw_9 tw_1100) rfl rfl rfl (by decide +kernel) hR
set_option maxHeartbeats 4000000 in
set_option maxRecDepth 100000 in
/-- X12_ring -/
theorem c_X12_ring (l : Launch) (D : va_G) (cy : Nat → ClassId) (sz : Nat) (cs : List Nat) (ad : Nat → Nat) (en : Nat → va_E) (hI : RX cy cs ad en) (n9 i9 : Int32)   : Met l yX12_ring (Cond.code yX12_ring cX12_ring 3 (some .int) :: TB) (rmN 4) (va_Pc [.ref (ad 0), .int n9, .int i9] (Pre D cy cs ad en sz)) (va_Qi (S := Nat → va_E) (fun r en1 => RX cy cs ad en1 ∧ (∀ c, (c ≠ 0 ∧ c ≠ 6 ∧ c ≠ 7 ∧ c ≠ 8 ∧ c ≠ 9 ∧ c ≠ 12 ∧ c ≠ 13) → en1 c = en c) ∧ KP en en1) (PostM D cs ad) (Af cs ad sz)) 0 0 (Af cs ad sz) := by
  refine Met.ofW (cc := cX12_ring) (maxL := 3) (ret := (some .int)) (by decide) rfl ?_
  intro p e s m args below meth c s₁ B hml hv
  obtain ⟨rfl, hsz, hP, hK, hD0⟩ := hv
  have hx := B.exec
  have hb := B.bytes
  have hr := B.returns
  have hts : ∀ w ∈ TB, w.before _ s = true := fun w h => atoms_spec (ws := _ :: TB) B.pre w (List.mem_cons_of_mem _ h)
  have hown : s.vm.findClass RX12 = some m.cls := findClass_of_methodNamed B.named
  have hlocks := B.notSynchronized
  have hh : Hp D (Af cs ad sz) (Af cs ad sz) s.heap s.heap [] cs ad en := ⟨hP, Af_self hD0, va_S.rf⟩
  have hA : ∀ q : Nat, s.heap.size ≤ q → Af cs ad sz q := fun q h => Or.inr (by rw [hsz] at h; exact h)
  have hl := lv_entry ([.ref (ad 0), .int n9, .int i9]) (n := 3) (Nat.le_of_ble_eq_true rfl)
  rw [lg_entry_eq]
  generalize (lg_sl ([.ref (ad 0), .int n9, .int i9]) ++ List.replicate (3 - (lg_sl ([.ref (ad 0), .int n9, .int i9])).length) Slot.unset).toArray = ls at hl ⊢
  have hl : lv_has ls 3 [(0, .ref (ad 0)), (1, .int n9), (2, .int i9)] := hl
  have hf0 : ∀ c, (c ≠ 0 ∧ c ≠ 6 ∧ c ≠ 7 ∧ c ≠ 8 ∧ c ≠ 9 ∧ c ≠ 12 ∧ c ≠ 13) → en c = en c := fun _ _ => rfl
  obtain ⟨fa, hi, wd, mo, tb, dp, many, grt, lst, nou, rm, rb, pr, wo, es1557, hwd2, hwd3, hmo, htb, hwo⟩ := getr_M hI
  refine lv_iload_n hx hb dX12_ring_0 rfl (lv_at hl 1 rfl) ?_
  refine lv_i2l hx hb dX12_ring_1 rfl ?_
  refine lv_lconst (v := 1) hx hb dX12_ring_2 (by decide) ?_
  refine lv_ldc2 hx hb hown (hts _ tw_1024) dX12_ring_3 ?_
  refine hp_callRi (va_runS (As := [.long n9.toInt64, .long 1, .long 8]) (rest := []) ⟨hx, hb, hml, hown, hts⟩ (c_X12_within l D cy _ cs ad en n9.toInt64 1 8) (kw_X12_within hts tw_985 ⟨by decide, by decide⟩) (preS_of hh hK) rfl rfl hl.1 rfl (lv_room (Nat.le_of_ble_eq_true rfl)) dX12_ring_6 ⟨Nat.le_of_ble_eq_true rfl, Nat.le_of_ble_eq_true rfl⟩) hh hA (fun r_1558 H locs hw_1558 hh => ?_)
  rcases Decidable.em (wi n9 1 8) with hp_1558 | hp_1558
  · obtain rfl : r_1558 = 1 := Eq.trans hw_1558 (if_pos ((wj_32 (by decide) (by decide)).mpr hp_1558))
    obtain ⟨N_1558, rfl, hA_1558, hB_1558⟩ := wi_natB hp_1558 1 8 (by decide) (by decide)
    refine lv_if_eq (tgt := 25) hx hb dX12_ring_9 (by decide) (fun c_0 => absurd c_0 (by decide)) (fun _ => ?_)
    refine lv_iload_n hx hb dX12_ring_12 rfl (lv_at hl 2 rfl) ?_
    refine lv_i2l hx hb dX12_ring_13 rfl ?_
    refine lv_lconst (v := 0) hx hb dX12_ring_14 (by decide) ?_
    refine lv_iload_n hx hb dX12_ring_15 rfl (lv_at hl 1 rfl) ?_
    refine lv_i2l hx hb dX12_ring_16 rfl ?_
    refine lv_lconst (v := 1) hx hb dX12_ring_17 (by decide) ?_
    refine lv_lsub hx hb dX12_ring_18 ?_
    refine hp_callRi (va_runS (As := [.long i9.toInt64, .long 0, .long ((nI N_1558).toInt64 - 1)]) (rest := []) ⟨hx, hb, hml, hown, hts⟩ (c_X12_within l D cy _ cs ad en i9.toInt64 0 ((nI N_1558).toInt64 - 1)) (kw_X12_within hts tw_985 ⟨by decide, by decide⟩) (preS_of hh hK) rfl rfl hl.1 rfl (lv_room (Nat.le_of_ble_eq_true rfl)) dX12_ring_19 ⟨Nat.le_of_ble_eq_true rfl, Nat.le_of_ble_eq_true rfl⟩) hh hA (fun r_1559 H locs hw_1559 hh => ?_)
    rcases Decidable.em (0 ≤ i9.toInt ∧ i9.toInt < (N_1558 : Int)) with hp_1559 | hp_1559
    · obtain rfl : r_1559 = 1 := Eq.trans hw_1559 (if_pos ((wj_m1 (by omega)).mpr hp_1559))
      obtain ⟨N_1559, rfl, hB_1559⟩ := has_nat hp_1559
      refine lv_if_ne (tgt := 28) hx hb dX12_ring_22 (by decide) (fun _ => ?_) (fun c_0 => absurd c_0 (by decide))
      refine lv_aload_n hx hb dX12_ring_28 rfl (lv_at hl 0 rfl) ?_
      refine lv_iload_n hx hb dX12_ring_29 rfl (lv_at hl 1 rfl) ?_
      refine hp_callMi (va_runV (As := [.int (nI N_1558)]) (rest := []) ⟨hx, hb, hml, hown, hts⟩ (c_X12_isSpent l D cy _ cs ad en hI N_1558 (by omega)) (kw_X12_isSpent hts tw_1025 ⟨by decide, by decide⟩) (preV_of hh hK (hI.1 _ (by decide)) es1557 rfl) rfl rfl hl.1 rfl (lv_room (Nat.le_of_ble_eq_true rfl)) dX12_ring_30 ⟨Nat.le_of_ble_eq_true rfl, Nat.le_of_ble_eq_true rfl⟩) hh hA (fun r_1560 H locs en_1560 hw_1560 hh => ?_)
      obtain ⟨hI_1560, hu_1560, hx_1560⟩ := hw_1560
      have es1557_1560 : en_1560 0 = .inr (11, [.int fa, .int hi, .int (nI wd), .int (nI mo), .int (nI tb), .ref (ad 1), .ref (ad 2), .ref (ad 3), .ref (ad 4), .ref (ad 5), .ref (ad 6), .ref (ad 7), .ref (ad 8), .ref (ad 9), .int dp, .long many, .long grt, .long lst, .long nou, .ref (ad 10), .ref (ad 11), .ref (ad 12), .int rm, .long rb, .ref (ad 13), .int pr, .ref (ad 14), .ref (ad 15), .ref (ad 16), .ref (ad 17), .int (nI wo), .ref (ad 18), .ref (ad 19)]) := (hu_1560 0 (by omega)).trans es1557
      have hf_1560 : ∀ c, (c ≠ 0 ∧ c ≠ 6 ∧ c ≠ 7 ∧ c ≠ 8 ∧ c ≠ 9 ∧ c ≠ 12 ∧ c ≠ 13) → en_1560 c = en c := fun c hc => (hu_1560 c (by omega)).trans (hf0 c hc)
      have hkp_1560 : KP en en_1560 := KP_same (KP_rf en) (hu_1560 0 (by omega))
      have hw_1560 := hx_1560
      rcases hw_1560 with hb_1560 | hb_1560
      · obtain rfl : r_1560 = 0 := hb_1560
        refine lv_if_eq (tgt := 39) hx hb dX12_ring_33 (by decide) (fun _ => ?_) (fun c_0 => absurd c_0 (by decide))
        refine lv_aload_n hx hb dX12_ring_39 rfl (lv_at hl 0 rfl) ?_
        refine lv_iload_n hx hb dX12_ring_40 rfl (lv_at hl 1 rfl) ?_
        refine hp_callMv (va_runV (As := [.int (nI N_1558)]) (rest := []) ⟨hx, hb, hml, hown, hts⟩ (c_X12_findRings l D cy _ cs ad en_1560 hI_1560 N_1558 (by omega) (by omega)) (kw_X12_findRings hts tw_1073 ⟨by decide, by decide⟩) (preV_of hh hK (hI.1 _ (by decide)) es1557_1560 rfl) rfl rfl hl.1 rfl (lv_room (Nat.le_of_ble_eq_true rfl)) dX12_ring_41 ⟨Nat.le_of_ble_eq_true rfl, Nat.le_of_ble_eq_true rfl⟩) hh hA (fun H locs en_1561 hw_1561 hh => ?_)
        obtain ⟨hI_1561, hu_1561, hx_1561⟩ := hw_1561
        have hf_1561 : ∀ c, (c ≠ 0 ∧ c ≠ 6 ∧ c ≠ 7 ∧ c ≠ 8 ∧ c ≠ 9 ∧ c ≠ 12 ∧ c ≠ 13) → en_1561 c = en c := fun c hc => (hu_1561 c (by omega)).trans (hf_1560 c hc)
        have hkp_1561 : KP en en_1561 := KP_tr hkp_1560 hx_1561
        refine lv_aload_n hx hb dX12_ring_44 rfl (lv_at hl 0 rfl) ?_
        obtain ⟨fa_1562, hi_1562, wd_1562, mo_1562, tb_1562, dp_1562, many_1562, grt_1562, lst_1562, nou_1562, rm_1562, rb_1562, pr_1562, wo_1562, es1562, p0_1562, p1_1562, p2_1562, p3_1562, p4_1562⟩ := getr_M hI_1561
        have hq2_1563 : wd_1562 = wd := n_eq ((show nI wd_1562 = rdI (en_1561 0) 2 from by rw [es1562]; rfl).trans (hkp_1561.2.1.trans (show rdI (en 0) 2 = nI wd from by rw [es1557]; rfl))) (by omega) (by omega)
        have hq3_1563 : mo_1562 = mo := n_eq ((show nI mo_1562 = rdI (en_1561 0) 3 from by rw [es1562]; rfl).trans (hkp_1561.2.2.1.trans (show rdI (en 0) 3 = nI mo from by rw [es1557]; rfl))) (by omega) (by omega)
        have hq4_1563 : tb_1562 = tb := n_eq ((show nI tb_1562 = rdI (en_1561 0) 4 from by rw [es1562]; rfl).trans (hkp_1561.2.2.2.1.trans (show rdI (en 0) 4 = nI tb from by rw [es1557]; rfl))) (by omega) (by omega)
        have hq30_1563 : wo_1562 = wo := n_eq ((show nI wo_1562 = rdI (en_1561 0) 30 from by rw [es1562]; rfl).trans (hkp_1561.2.2.2.2.2.trans (show rdI (en 0) 30 = nI wo from by rw [es1557]; rfl))) (by omega) (by omega)
        rw [hq2_1563, hq3_1563, hq4_1563, hq30_1563] at es1562
        refine hp_get hx hb hts ix12 hown hK hh (q := 0) rfl (hI.1 _ (by decide)) es1562 rfl 22 (by decide) (hts _ tw_901) (fun _ h9 => h9) rfl dX12_ring_45 ?_
        refine lv_if_ne (tgt := 56) hx hb dX12_ring_48 (by decide) (fun c_1564 => ?_) (fun c_1564 => ?_)
        · refine lv_aload_n hx hb dX12_ring_56 rfl (lv_at hl 0 rfl) ?_
          refine hp_get hx hb hts ix12 hown hK hh (q := 0) rfl (hI.1 _ (by decide)) es1562 rfl 24 (by decide) (hts _ tw_903) (fun _ h9 => h9) rfl dX12_ring_57 ?_
          refine lv_iload_n hx hb dX12_ring_60 rfl (lv_at hl 2 rfl) ?_
          obtain ⟨f_1565, es1565⟩ := getr_rw hI_1561
          refine hp_iald hx hb hK hh (q := 13) rfl (hI.1 _ (by decide)) es1565 (vp_in_nI (n := N_1559) (by omega) (by decide)) dX12_ring_61 ?_
          rw [nI_clamp (n := N_1559) (by omega)]
          exact hp_iretM hx hb hr rfl hlocks hh (⟨hI_1561, hf_1561, hkp_1561⟩) dX12_ring_62
        · refine lv_bipush (v := (-9)) hx hb dX12_ring_51 (by decide) ?_
          refine lv_goto (tgt := 62) hx hb dX12_ring_53 (by decide) ?_
          exact hp_iretM hx hb hr rfl hlocks hh (⟨hI_1561, hf_1561, hkp_1561⟩) dX12_ring_62
      · obtain rfl : r_1560 = 1 := hb_1560
        refine lv_if_eq (tgt := 39) hx hb dX12_ring_33 (by decide) (fun c_0 => absurd c_0 (by decide)) (fun _ => ?_)
        refine lv_bipush (v := (-6)) hx hb dX12_ring_36 (by decide) ?_
        exact hp_iretM hx hb hr rfl hlocks hh (⟨hI_1560, hf_1560, hkp_1560⟩) dX12_ring_38
    · obtain rfl : r_1559 = 0 := Eq.trans hw_1559 (if_neg (fun q => hp_1559 ((wj_m1 (by omega)).mp q)))
      refine lv_if_ne (tgt := 28) hx hb dX12_ring_22 (by decide) (fun c_0 => absurd c_0 (by decide)) (fun _ => ?_)
      refine lv_bipush (v := (-2)) hx hb dX12_ring_25 (by decide) ?_
      exact hp_iretM hx hb hr rfl hlocks hh (⟨hI, hf0, (KP_rf en)⟩) dX12_ring_27
  · obtain rfl : r_1558 = 0 := Eq.trans hw_1558 (if_neg (fun q => hp_1558 ((wj_32 (by decide) (by decide)).mp q)))
    refine lv_if_eq (tgt := 25) hx hb dX12_ring_9 (by decide) (fun _ => ?_) (fun c_0 => absurd c_0 (by decide))
    refine lv_bipush (v := (-2)) hx hb dX12_ring_25 (by decide) ?_
    exact hp_iretM hx hb hr rfl hlocks hh (⟨hI, hf0, (KP_rf en)⟩) dX12_ring_27
theorem kw_X12_ring {R : Room} {s : State} {args : Array Value} {own : String} {idx : Nat} (hts : ∀ w ∈ TB, w.before args s = true) (hl : Cond.methodLink own idx yX12_ring ∈ TB) (hR : 4 + 1 ≤ R.frames ∧ 8 + (3 + 11) + 40 * 4 ≤ R.locals) : CallW R s args own RX12 idx yX12_ring cX12_ring 3 (some .int) (Cond.code yX12_ring cX12_ring 3 (some .int) :: TB) (rmN 4) 0 0 2 := cwV 2 hts (TB_V hl tw_1102 tw_1103 tw_9 tw_1104) rfl rfl rfl (by decide +kernel) hR
set_option maxHeartbeats 4000000 in
set_option maxRecDepth 100000 in
/-- power -/
theorem c_X12_power (l : Launch) (D : va_G) (cy : Nat → ClassId) (sz : Nat) (cs : List Nat) (ad : Nat → Nat) (en : Nat → va_E) (hI : RX cy cs ad en) (v : Int64) (n : Nat) (hn8 : n ≤ 8)   : Met l yX12_power (Cond.code yX12_power cX12_power 6 (some .long) :: TB) (rmN 0) (va_Pc [.long v, .int (nI n)] (Pre D cy cs ad en sz)) (va_Ql (S := Unit) (fun _ _ => True) (fun _ _ => True) (Nf sz)) 0 0 (Nf sz) := by
  refine Met.ofW (cc := cX12_power) (maxL := 6) (ret := (some .long)) (by decide) rfl ?_
  intro p e s m args below meth c s₁ B hml hv
  obtain ⟨rfl, hsz, hP, hK, hD0⟩ := hv
  have hx := B.exec
  have hb := B.bytes
  have hr := B.returns
  have hts : ∀ w ∈ TB, w.before _ s = true := fun w h => atoms_spec (ws := _ :: TB) B.pre w (List.mem_cons_of_mem _ h)
  have hown : s.vm.findClass RX12 = some m.cls := findClass_of_methodNamed B.named
  have hlocks := B.notSynchronized
  have hh : Hp D (Nf sz) (fun _ => True) s.heap s.heap [] cs ad en := ⟨hP, hD0, va_S.rf⟩
  have hA : ∀ q : Nat, s.heap.size ≤ q → Nf sz q := fun q h => by rw [hsz] at h; exact h
  have hl := lv_entry ([.long v, .int (nI n)]) (n := 6) (Nat.le_of_ble_eq_true rfl)
  rw [lg_entry_eq]
  generalize (lg_sl ([.long v, .int (nI n)]) ++ List.replicate (6 - (lg_sl ([.long v, .int (nI n)])).length) Slot.unset).toArray = ls at hl ⊢
  have hl : lv_has ls 6 [(0, .long v), (2, .int (nI n))] := hl
  refine lv_lconst (v := 1) hx hb dX12_power_0 (by decide) ?_
  refine lv_lstore_n (lv' := [(3, .long 1), (0, .long v), (2, .int (nI n))]) hx hb dX12_power_1 rfl hl (by decide) rfl (fun ls hl => ?_)
  refine lv_iconst (v := 0) hx hb dX12_power_2 (by decide) ?_
  refine lv_istore (lv' := [(5, .int 0), (3, .long 1), (0, .long v), (2, .int (nI n))]) hx hb dX12_power_3 hl (by decide) rfl (fun ls hl => ?_)
  have loop_1566 : ∀ (fu j1566 : Nat) (pw1566 : Int64)  (ls : Array Slot) (H : Heap) (locs : List Loc), 0 ≤ j1566 → j1566 ≤ n → n < j1566 + fu →   lv_has ls 6 [(5, .int (nI j1566)), (3, .long pw1566), (0, .long v), (2, .int (nI n))] → Hp D (Nf sz) (fun _ => True) s.heap H locs cs ad en → W p l e (headSpec (Cond.code yX12_power cX12_power 6 (some .long) :: TB) (rmN 0)).room s m ([.long v, .int (nI n)] : List Value).toArray below meth c H locs 0 0 (MQ below (va_Ql (S := Unit) (fun _ _ => True) (fun _ _ => True) (Nf sz)) ([.long v, .int (nI n)] : List Value).toArray s 0 0 (Nf sz)) (F0 m 5 ls []) := by
    intro fu
    induction fu with
    | zero => intro j1566 pw1566 ls H locs h0 h1 h2; exact absurd h2 (by omega)
    | succ fu ih_1566 =>
      intro j1566 pw1566 ls H locs hj0_1566 hj_1566 hfu_1566  hl hh
      refine lv_iload hx hb dX12_power_5 (lv_at hl 0 rfl) ?_
      refine lv_iload_n hx hb dX12_power_7 rfl (lv_at hl 3 rfl) ?_
      refine lv_icmp_ge (tgt := 21) hx hb dX12_power_8 (by decide) (fun c_1567 => ?_) (fun c_1567 => ?_)
      · have n_1567 : n ≤ j1566 := n_le (a := n) (b := j1566) c_1567 (by omega) (by omega)
        refine lv_lload_n hx hb dX12_power_21 rfl (lv_at hl 1 rfl) ?_
        exact hp_lretR hx hb hr hlocks hsz hh (trivial) dX12_power_22
      · have n_1567 : j1566 < n := n_nle (a := n) (b := j1566) c_1567 (by omega) (by omega)
        refine lv_lload_n hx hb dX12_power_11 rfl (lv_at hl 1 rfl) ?_
        refine lv_lload_n hx hb dX12_power_12 rfl (lv_at hl 2 rfl) ?_
        refine lv_lmul hx hb dX12_power_13 ?_
        refine lv_lstore_n (lv' := [(3, .long (pw1566 * v)), (5, .int (nI j1566)), (0, .long v), (2, .int (nI n))]) hx hb dX12_power_14 rfl hl (by decide) rfl (fun ls hl => ?_)
        refine lv_iinc (v := (nI (j1566 + 1))) (lv' := [(5, .int (nI (j1566 + 1))), (3, .long (pw1566 * v)), (0, .long v), (2, .int (nI n))]) hx hb dX12_power_15 hl (k := 1) rfl (nI_1 _) (by decide) rfl (fun ls hl => ?_)
        refine lv_goto (tgt := 5) hx hb dX12_power_18 (by decide) ?_
        exact ih_1566 ((j1566 + 1)) (pw1566 * v) ls H locs (by omega) (by omega) (by omega)  (lv_sub hl [0, 1, 2, 3] rfl) hh
  exact loop_1566 (n + 1) 0 1 ls _ _ (Nat.le_refl _) (by omega) (by omega)  (lv_sub hl [0, 1, 2, 3] rfl) hh
theorem kw_X12_power {R : Room} {s : State} {args : Array Value} {idx : Nat} (hts : ∀ w ∈ TB, w.before args s = true) (hl : Cond.methodLink RX12 idx yX12_power ∈ TB) (hR : 0 + 1 ≤ R.frames ∧ 8 + (6 + 11) + 40 * 0 ≤ R.locals) : CallB R s args RX12 idx yX12_power cX12_power 6 (some .long) (Cond.code yX12_power cX12_power 6 (some .long) :: TB) (rmN 0) 0 0 2 ∧ (Cond.static yX12_power).before args s = true := cwS 2 hts (TB_S hl tw_1111 tw_9 tw_1112) rfl rfl rfl (by decide +kernel) hR
set_option maxHeartbeats 4000000 in
set_option maxRecDepth 100000 in
/-- growth -/
theorem c_X12_growth (l : Launch) (D : va_G) (cy : Nat → ClassId) (sz : Nat) (cs : List Nat) (ad : Nat → Nat) (en : Nat → va_E) (hI : RX cy cs ad en) (a9 b9 n9 : Int32)   : Met l yX12_growth (Cond.code yX12_growth cX12_growth 7 (some .int) :: TB) (rmN 4) (va_Pc [.ref (ad 0), .int a9, .int b9, .int n9] (Pre D cy cs ad en sz)) (va_Qi (S := Nat → va_E) (fun r en1 => RX cy cs ad en1 ∧ (∀ c, (c ≠ 0 ∧ c ≠ 6 ∧ c ≠ 7 ∧ c ≠ 8 ∧ c ≠ 9) → en1 c = en c) ∧ KP en en1) (PostM D cs ad) (Af cs ad sz)) 0 0 (Af cs ad sz) := by
  refine Met.ofW (cc := cX12_growth) (maxL := 7) (ret := (some .int)) (by decide) rfl ?_
  intro p e s m args below meth c s₁ B hml hv
  obtain ⟨rfl, hsz, hP, hK, hD0⟩ := hv
  have hx := B.exec
  have hb := B.bytes
  have hr := B.returns
  have hts : ∀ w ∈ TB, w.before _ s = true := fun w h => atoms_spec (ws := _ :: TB) B.pre w (List.mem_cons_of_mem _ h)
  have hown : s.vm.findClass RX12 = some m.cls := findClass_of_methodNamed B.named
  have hlocks := B.notSynchronized
  have hh : Hp D (Af cs ad sz) (Af cs ad sz) s.heap s.heap [] cs ad en := ⟨hP, Af_self hD0, va_S.rf⟩
  have hA : ∀ q : Nat, s.heap.size ≤ q → Af cs ad sz q := fun q h => Or.inr (by rw [hsz] at h; exact h)
  have hl := lv_entry ([.ref (ad 0), .int a9, .int b9, .int n9]) (n := 7) (Nat.le_of_ble_eq_true rfl)
  rw [lg_entry_eq]
  generalize (lg_sl ([.ref (ad 0), .int a9, .int b9, .int n9]) ++ List.replicate (7 - (lg_sl ([.ref (ad 0), .int a9, .int b9, .int n9])).length) Slot.unset).toArray = ls at hl ⊢
  have hl : lv_has ls 7 [(0, .ref (ad 0)), (1, .int a9), (2, .int b9), (3, .int n9)] := hl
  have hf0 : ∀ c, (c ≠ 0 ∧ c ≠ 6 ∧ c ≠ 7 ∧ c ≠ 8 ∧ c ≠ 9) → en c = en c := fun _ _ => rfl
  obtain ⟨fa, hi, wd, mo, tb, dp, many, grt, lst, nou, rm, rb, pr, wo, es1568, hwd2, hwd3, hmo, htb, hwo⟩ := getr_M hI
  refine lv_iload_n hx hb dX12_growth_0 rfl (lv_at hl 1 rfl) ?_
  refine lv_i2l hx hb dX12_growth_1 rfl ?_
  refine lv_lconst (v := 1) hx hb dX12_growth_2 (by decide) ?_
  refine lv_ldc2 hx hb hown (hts _ tw_1002) dX12_growth_3 ?_
  refine hp_callRi (va_runS (As := [.long a9.toInt64, .long 1, .long 9]) (rest := []) ⟨hx, hb, hml, hown, hts⟩ (c_X12_within l D cy _ cs ad en a9.toInt64 1 9) (kw_X12_within hts tw_985 ⟨by decide, by decide⟩) (preS_of hh hK) rfl rfl hl.1 rfl (lv_room (Nat.le_of_ble_eq_true rfl)) dX12_growth_6 ⟨Nat.le_of_ble_eq_true rfl, Nat.le_of_ble_eq_true rfl⟩) hh hA (fun r_1569 H locs hw_1569 hh => ?_)
  rcases Decidable.em (wi a9 1 9) with hp_1569 | hp_1569
  · obtain rfl : r_1569 = 1 := Eq.trans hw_1569 (if_pos ((wj_32 (by decide) (by decide)).mpr hp_1569))
    obtain ⟨N_1569, rfl, hA_1569, hB_1569⟩ := wi_natB hp_1569 1 9 (by decide) (by decide)
    refine lv_if_eq (tgt := 36) hx hb dX12_growth_9 (by decide) (fun c_0 => absurd c_0 (by decide)) (fun _ => ?_)
    refine lv_iload_n hx hb dX12_growth_12 rfl (lv_at hl 2 rfl) ?_
    refine lv_i2l hx hb dX12_growth_13 rfl ?_
    refine lv_lconst (v := 1) hx hb dX12_growth_14 (by decide) ?_
    refine lv_ldc2 hx hb hown (hts _ tw_1002) dX12_growth_15 ?_
    refine hp_callRi (va_runS (As := [.long b9.toInt64, .long 1, .long 9]) (rest := []) ⟨hx, hb, hml, hown, hts⟩ (c_X12_within l D cy _ cs ad en b9.toInt64 1 9) (kw_X12_within hts tw_985 ⟨by decide, by decide⟩) (preS_of hh hK) rfl rfl hl.1 rfl (lv_room (Nat.le_of_ble_eq_true rfl)) dX12_growth_18 ⟨Nat.le_of_ble_eq_true rfl, Nat.le_of_ble_eq_true rfl⟩) hh hA (fun r_1570 H locs hw_1570 hh => ?_)
    rcases Decidable.em (wi b9 1 9) with hp_1570 | hp_1570
    · obtain rfl : r_1570 = 1 := Eq.trans hw_1570 (if_pos ((wj_32 (by decide) (by decide)).mpr hp_1570))
      obtain ⟨N_1570, rfl, hA_1570, hB_1570⟩ := wi_natB hp_1570 1 9 (by decide) (by decide)
      refine lv_if_eq (tgt := 36) hx hb dX12_growth_21 (by decide) (fun c_0 => absurd c_0 (by decide)) (fun _ => ?_)
      refine lv_iload_n hx hb dX12_growth_24 rfl (lv_at hl 3 rfl) ?_
      refine lv_i2l hx hb dX12_growth_25 rfl ?_
      refine lv_lconst (v := 1) hx hb dX12_growth_26 (by decide) ?_
      refine lv_ldc2 hx hb hown (hts _ tw_1109) dX12_growth_27 ?_
      refine hp_callRi (va_runS (As := [.long n9.toInt64, .long 1, .long 7]) (rest := []) ⟨hx, hb, hml, hown, hts⟩ (c_X12_within l D cy _ cs ad en n9.toInt64 1 7) (kw_X12_within hts tw_985 ⟨by decide, by decide⟩) (preS_of hh hK) rfl rfl hl.1 rfl (lv_room (Nat.le_of_ble_eq_true rfl)) dX12_growth_30 ⟨Nat.le_of_ble_eq_true rfl, Nat.le_of_ble_eq_true rfl⟩) hh hA (fun r_1571 H locs hw_1571 hh => ?_)
      rcases Decidable.em (wi n9 1 7) with hp_1571 | hp_1571
      · obtain rfl : r_1571 = 1 := Eq.trans hw_1571 (if_pos ((wj_32 (by decide) (by decide)).mpr hp_1571))
        obtain ⟨N_1571, rfl, hA_1571, hB_1571⟩ := wi_natB hp_1571 1 7 (by decide) (by decide)
        refine lv_if_ne (tgt := 39) hx hb dX12_growth_33 (by decide) (fun _ => ?_) (fun c_0 => absurd c_0 (by decide))
        refine lv_aload_n hx hb dX12_growth_39 rfl (lv_at hl 0 rfl) ?_
        refine hp_get hx hb hts ix12 hown hK hh (q := 0) rfl (hI.1 _ (by decide)) es1568 rfl 3 (by decide) (hts _ tw_882) (fun _ h9 => h9) rfl dX12_growth_40 ?_
        refine lv_if_gt (tgt := 53) hx hb dX12_growth_43 (by decide) (fun c_1572 => ?_) (fun c_1572 => ?_)
        · have n_1572 : 0 < mo := n_lt (a := 0) (b := mo) c_1572 (by decide) (by omega)
          refine lv_bipush (v := (-3)) hx hb dX12_growth_53 (by decide) ?_
          exact hp_iretM hx hb hr rfl hlocks hh (⟨hI, hf0, (KP_rf en)⟩) dX12_growth_55
        · have n_1572 : mo ≤ 0 := n_nlt (a := 0) (b := mo) c_1572 (by decide) (by omega)
          refine lv_aload_n hx hb dX12_growth_46 rfl (lv_at hl 0 rfl) ?_
          refine hp_get hx hb hts ix12 hown hK hh (q := 0) rfl (hI.1 _ (by decide)) es1568 rfl 4 (by decide) (hts _ tw_883) (fun _ h9 => h9) rfl dX12_growth_47 ?_
          refine lv_if_ne (tgt := 56) hx hb dX12_growth_50 (by decide) (fun c_1573 => ?_) (fun c_1573 => ?_)
          · have n_1573 : tb ≠ 0 := n_neq (a := tb) (b := 0) c_1573 (by omega) (by decide)
            refine lv_iconst (v := 1) hx hb dX12_growth_56 (by decide) ?_
            refine lv_istore (lv' := [(4, .int 1), (0, .ref (ad 0)), (1, .int (nI N_1569)), (2, .int (nI N_1570)), (3, .int (nI N_1571))]) hx hb dX12_growth_57 hl (by decide) rfl (fun ls hl => ?_)
            have loop_1574 : ∀ (fu j1574 : Nat)  (en_1574 : Nat → va_E) (ls : Array Slot) (H : Heap) (locs : List Loc), 1 ≤ j1574 → j1574 ≤ (N_1571 + 1) → (N_1571 + 1) < j1574 + fu → RX cy cs ad en_1574 → (∀ c, (c ≠ 0 ∧ c ≠ 6 ∧ c ≠ 7 ∧ c ≠ 8 ∧ c ≠ 9) → en_1574 c = en c) → (KP en en_1574) → lv_has ls 7 [(4, .int (nI j1574)), (0, .ref (ad 0)), (1, .int (nI N_1569)), (2, .int (nI N_1570)), (3, .int (nI N_1571))] → Hp D (Af cs ad sz) (Af cs ad sz) s.heap H locs cs ad en_1574 → W p l e (headSpec (Cond.code yX12_growth cX12_growth 7 (some .int) :: TB) (rmN 4)).room s m ([.ref (ad 0), .int (nI N_1569), .int (nI N_1570), .int (nI N_1571)] : List Value).toArray below meth c H locs 0 0 (MQ below (va_Qi (S := Nat → va_E) (fun r en1 => RX cy cs ad en1 ∧ (∀ c, (c ≠ 0 ∧ c ≠ 6 ∧ c ≠ 7 ∧ c ≠ 8 ∧ c ≠ 9) → en1 c = en c) ∧ KP en en1) (PostM D cs ad) (Af cs ad sz)) ([.ref (ad 0), .int (nI N_1569), .int (nI N_1570), .int (nI N_1571)] : List Value).toArray s 0 0 (Af cs ad sz)) (F0 m 59 ls []) := by
              intro fu
              induction fu with
              | zero => intro j1574  en_1574 ls H locs h0 h1 h2; exact absurd h2 (by omega)
              | succ fu ih_1574 =>
                intro j1574  en_1574 ls H locs hj0_1574 hj_1574 hfu_1574 hI_1574 hf_1574 i0_1574 hl hh
                refine lv_iload hx hb dX12_growth_59 (lv_at hl 0 rfl) ?_
                refine lv_iload_n hx hb dX12_growth_61 rfl (lv_at hl 4 rfl) ?_
                refine lv_icmp_gt (tgt := 83) hx hb dX12_growth_62 (by decide) (fun c_1575 => ?_) (fun c_1575 => ?_)
                · have n_1575 : N_1571 < j1574 := n_lt (a := N_1571) (b := j1574) c_1575 (by omega) (by omega)
                  refine lv_iconst (v := 0) hx hb dX12_growth_83 (by decide) ?_
                  refine lv_istore (lv' := [(4, .int 0), (0, .ref (ad 0)), (1, .int (nI N_1569)), (2, .int (nI N_1570)), (3, .int (nI N_1571))]) hx hb dX12_growth_84 hl (by decide) rfl (fun ls hl => ?_)
                  refine lv_iconst (v := 1) hx hb dX12_growth_86 (by decide) ?_
                  refine lv_istore (lv' := [(5, .int 1), (4, .int 0), (0, .ref (ad 0)), (1, .int (nI N_1569)), (2, .int (nI N_1570)), (3, .int (nI N_1571))]) hx hb dX12_growth_87 hl (by decide) rfl (fun ls hl => ?_)
                  have loop_1576 : ∀ (fu j1576 : Nat) (be1576 : Int32) (en_1576 : Nat → va_E) (ls : Array Slot) (H : Heap) (locs : List Loc), 1 ≤ j1576 → j1576 ≤ (N_1571 + 1) → (N_1571 + 1) < j1576 + fu → RX cy cs ad en_1576 → (∀ c, (c ≠ 0 ∧ c ≠ 6 ∧ c ≠ 7 ∧ c ≠ 8 ∧ c ≠ 9) → en_1576 c = en c) → (KP en en_1576) → lv_has ls 7 [(5, .int (nI j1576)), (4, .int be1576), (0, .ref (ad 0)), (1, .int (nI N_1569)), (2, .int (nI N_1570)), (3, .int (nI N_1571))] → Hp D (Af cs ad sz) (Af cs ad sz) s.heap H locs cs ad en_1576 → W p l e (headSpec (Cond.code yX12_growth cX12_growth 7 (some .int) :: TB) (rmN 4)).room s m ([.ref (ad 0), .int (nI N_1569), .int (nI N_1570), .int (nI N_1571)] : List Value).toArray below meth c H locs 0 0 (MQ below (va_Qi (S := Nat → va_E) (fun r en1 => RX cy cs ad en1 ∧ (∀ c, (c ≠ 0 ∧ c ≠ 6 ∧ c ≠ 7 ∧ c ≠ 8 ∧ c ≠ 9) → en1 c = en c) ∧ KP en en1) (PostM D cs ad) (Af cs ad sz)) ([.ref (ad 0), .int (nI N_1569), .int (nI N_1570), .int (nI N_1571)] : List Value).toArray s 0 0 (Af cs ad sz)) (F0 m 89 ls []) := by
                    intro fu
                    induction fu with
                    | zero => intro j1576 be1576 en_1576 ls H locs h0 h1 h2; exact absurd h2 (by omega)
                    | succ fu ih_1576 =>
                      intro j1576 be1576 en_1576 ls H locs hj0_1576 hj_1576 hfu_1576 hI_1576 hf_1576 i0_1576 hl hh
                      refine lv_iload hx hb dX12_growth_89 (lv_at hl 0 rfl) ?_
                      refine lv_iload_n hx hb dX12_growth_91 rfl (lv_at hl 5 rfl) ?_
                      refine lv_icmp_gt (tgt := 220) hx hb dX12_growth_92 (by decide) (fun c_1577 => ?_) (fun c_1577 => ?_)
                      · have n_1577 : N_1571 < j1576 := n_lt (a := N_1571) (b := j1576) c_1577 (by omega) (by omega)
                        refine lv_iload hx hb dX12_growth_220 (lv_at hl 1 rfl) ?_
                        refine lv_if_eq (tgt := 229) hx hb dX12_growth_222 (by decide) (fun c_1578 => ?_) (fun c_1578 => ?_)
                        · refine lv_iconst (v := 0) hx hb dX12_growth_229 (by decide) ?_
                          exact hp_iretM hx hb hr rfl hlocks hh (⟨hI_1576, hf_1576, i0_1576⟩) dX12_growth_230
                        · refine lv_iconst (v := (-1)) hx hb dX12_growth_225 (by decide) ?_
                          refine lv_goto (tgt := 230) hx hb dX12_growth_226 (by decide) ?_
                          exact hp_iretM hx hb hr rfl hlocks hh (⟨hI_1576, hf_1576, i0_1576⟩) dX12_growth_230
                      · have n_1577 : j1576 ≤ N_1571 := n_nlt (a := N_1571) (b := j1576) c_1577 (by omega) (by omega)
                        refine lv_iconst (v := 1) hx hb dX12_growth_95 (by decide) ?_
                        refine lv_istore (lv' := [(6, .int 1), (5, .int (nI j1576)), (4, .int be1576), (0, .ref (ad 0)), (1, .int (nI N_1569)), (2, .int (nI N_1570)), (3, .int (nI N_1571))]) hx hb dX12_growth_96 hl (by decide) rfl (fun ls hl => ?_)
                        refine lv_aload_n hx hb dX12_growth_98 rfl (lv_at hl 3 rfl) ?_
                        obtain ⟨fa_1579, hi_1579, wd_1579, mo_1579, tb_1579, dp_1579, many_1579, grt_1579, lst_1579, nou_1579, rm_1579, rb_1579, pr_1579, wo_1579, es1579, p0_1579, p1_1579, p2_1579, p3_1579, p4_1579⟩ := getr_M hI_1576
                        have hq2_1580 : wd_1579 = wd := n_eq ((show nI wd_1579 = rdI (en_1576 0) 2 from by rw [es1579]; rfl).trans (i0_1576.2.1.trans (show rdI (en 0) 2 = nI wd from by rw [es1568]; rfl))) (by omega) (by omega)
                        have hq3_1580 : mo_1579 = mo := n_eq ((show nI mo_1579 = rdI (en_1576 0) 3 from by rw [es1579]; rfl).trans (i0_1576.2.2.1.trans (show rdI (en 0) 3 = nI mo from by rw [es1568]; rfl))) (by omega) (by omega)
                        have hq4_1580 : tb_1579 = tb := n_eq ((show nI tb_1579 = rdI (en_1576 0) 4 from by rw [es1579]; rfl).trans (i0_1576.2.2.2.1.trans (show rdI (en 0) 4 = nI tb from by rw [es1568]; rfl))) (by omega) (by omega)
                        have hq30_1580 : wo_1579 = wo := n_eq ((show nI wo_1579 = rdI (en_1576 0) 30 from by rw [es1579]; rfl).trans (i0_1576.2.2.2.2.2.trans (show rdI (en 0) 30 = nI wo from by rw [es1568]; rfl))) (by omega) (by omega)
                        rw [hq2_1580, hq3_1580, hq4_1580, hq30_1580] at es1579
                        refine hp_callMv (va_runV (As := []) (rest := []) ⟨hx, hb, hml, hown, hts⟩ (c_X12_beginWords l D cy _ cs ad en_1576 hI_1576  ) (kw_X12_beginWords hts tw_1038 ⟨by decide, by decide⟩) (preV_of hh hK (hI.1 _ (by decide)) es1579 rfl) rfl rfl hl.1 rfl (lv_room (Nat.le_of_ble_eq_true rfl)) dX12_growth_99 ⟨Nat.le_of_ble_eq_true rfl, Nat.le_of_ble_eq_true rfl⟩) hh hA (fun H locs en_1581 hw_1581 hh => ?_)
                        obtain ⟨hI_1581, hu_1581, hd0_1581, hg0_1581, hx_1581⟩ := hw_1581
                        have hND_1581 : ND en_1581 j1576 0 0 := ⟨by omega, Or.inl hd0_1581, fun i h => absurd h (Nat.not_lt_zero i), by rw [hg0_1581]; decide, by omega⟩
                        have hf_1581 : ∀ c, (c ≠ 0 ∧ c ≠ 6 ∧ c ≠ 7 ∧ c ≠ 8 ∧ c ≠ 9) → en_1581 c = en c := fun c hc => (hu_1581 c (by omega)).trans (hf_1576 c hc)
                        have hkp_1581 : KP en en_1581 := KP_tr i0_1576 hx_1581
                        have loop_1582 : ∀ (fu mm1582 : Nat) (al1582 : Int32) (d1582 : Nat) (u1582 : Nat) (en_1582 : Nat → va_E) (ls : Array Slot) (H : Heap) (locs : List Loc), mm1582 < fu → RX cy cs ad en_1582 → (∀ c, (c ≠ 0 ∧ c ≠ 6 ∧ c ≠ 7 ∧ c ≠ 8 ∧ c ≠ 9) → en_1582 c = en c) → (ND en_1582 j1576 d1582 u1582) → (134217728 ≤ nmv (rdF (en_1582 7)) d1582 u1582 + mm1582) → (KP en en_1582) → lv_has ls 7 [(6, .int al1582), (5, .int (nI j1576)), (4, .int be1576), (0, .ref (ad 0)), (1, .int (nI N_1569)), (2, .int (nI N_1570)), (3, .int (nI N_1571))] → Hp D (Af cs ad sz) (Af cs ad sz) s.heap H locs cs ad en_1582 → W p l e (headSpec (Cond.code yX12_growth cX12_growth 7 (some .int) :: TB) (rmN 4)).room s m ([.ref (ad 0), .int (nI N_1569), .int (nI N_1570), .int (nI N_1571)] : List Value).toArray below meth c H locs 0 0 (MQ below (va_Qi (S := Nat → va_E) (fun r en1 => RX cy cs ad en1 ∧ (∀ c, (c ≠ 0 ∧ c ≠ 6 ∧ c ≠ 7 ∧ c ≠ 8 ∧ c ≠ 9) → en1 c = en c) ∧ KP en en1) (PostM D cs ad) (Af cs ad sz)) ([.ref (ad 0), .int (nI N_1569), .int (nI N_1570), .int (nI N_1571)] : List Value).toArray s 0 0 (Af cs ad sz)) (F0 m 102 ls []) := by
                          intro fu
                          induction fu with
                          | zero => intro mm1582 al1582 d1582 u1582 en_1582 ls H locs h2; exact absurd h2 (by omega)
                          | succ fu ih_1582 =>
                            intro mm1582 al1582 d1582 u1582 en_1582 ls H locs hmm_1582 hI_1582 hf_1582 i0_1582 i1_1582 i2_1582 hl hh
                            have hlt_1582 := nmv_lt i0_1582.2.2 (by have h9 := i0_1582.1; omega)
                            have hwd_1582 := i0_1582.1
                            refine lv_aload_n hx hb dX12_growth_102 rfl (lv_at hl 3 rfl) ?_
                            refine lv_iload hx hb dX12_growth_103 (lv_at hl 1 rfl) ?_
                            obtain ⟨fa_1583, hi_1583, wd_1583, mo_1583, tb_1583, dp_1583, many_1583, grt_1583, lst_1583, nou_1583, rm_1583, rb_1583, pr_1583, wo_1583, es1583, p0_1583, p1_1583, p2_1583, p3_1583, p4_1583⟩ := getr_M hI_1582
                            have hq2_1584 : wd_1583 = wd := n_eq ((show nI wd_1583 = rdI (en_1582 0) 2 from by rw [es1583]; rfl).trans (i2_1582.2.1.trans (show rdI (en 0) 2 = nI wd from by rw [es1568]; rfl))) (by omega) (by omega)
                            have hq3_1584 : mo_1583 = mo := n_eq ((show nI mo_1583 = rdI (en_1582 0) 3 from by rw [es1583]; rfl).trans (i2_1582.2.2.1.trans (show rdI (en 0) 3 = nI mo from by rw [es1568]; rfl))) (by omega) (by omega)
                            have hq4_1584 : tb_1583 = tb := n_eq ((show nI tb_1583 = rdI (en_1582 0) 4 from by rw [es1583]; rfl).trans (i2_1582.2.2.2.1.trans (show rdI (en 0) 4 = nI tb from by rw [es1568]; rfl))) (by omega) (by omega)
                            have hq30_1584 : wo_1583 = wo := n_eq ((show nI wo_1583 = rdI (en_1582 0) 30 from by rw [es1583]; rfl).trans (i2_1582.2.2.2.2.2.trans (show rdI (en 0) 30 = nI wo from by rw [es1568]; rfl))) (by omega) (by omega)
                            rw [hq2_1584, hq3_1584, hq4_1584, hq30_1584] at es1583
                            refine hp_callMi (va_runV (As := [.int (nI j1576)]) (rest := []) ⟨hx, hb, hml, hown, hts⟩ (c_X12_next l D cy _ cs ad en_1582 hI_1582 j1576 (by omega) (by omega) d1582 u1582 i0_1582) (kw_X12_next hts tw_1046 ⟨by decide, by decide⟩) (preV_of hh hK (hI.1 _ (by decide)) es1583 rfl) rfl rfl hl.1 rfl (lv_room (Nat.le_of_ble_eq_true rfl)) dX12_growth_105 ⟨Nat.le_of_ble_eq_true rfl, Nat.le_of_ble_eq_true rfl⟩) hh hA (fun r_1585 H locs en_1585 hw_1585 hh => ?_)
                            obtain ⟨hI_1585, hu_1585, hx_1585, hkq_1585⟩ := hw_1585
                            have hf_1585 : ∀ c, (c ≠ 0 ∧ c ≠ 6 ∧ c ≠ 7 ∧ c ≠ 8 ∧ c ≠ 9) → en_1585 c = en c := fun c hc => (hu_1585 c (by omega)).trans (hf_1582 c hc)
                            have hkp_1585 : KP en en_1585 := KP_tr i2_1582 hkq_1585
                            rcases hx_1585 with hr_1585 | ⟨hr_1585, u1_1585, hND_1585, hu1_1585, hnm_1585⟩
                            · rw [hr_1585]
                              refine lv_if_eq (tgt := 207) hx hb dX12_growth_108 (by decide) (fun _ => ?_) (fun c_0 => absurd c_0 (by decide))
                              refine lv_iload hx hb dX12_growth_207 (lv_at hl 2 rfl) ?_
                              refine lv_iload hx hb dX12_growth_209 (lv_at hl 0 rfl) ?_
                              refine lv_ior hx hb dX12_growth_211 ?_
                              refine lv_istore (lv' := [(4, .int (be1576 ||| al1582)), (6, .int al1582), (5, .int (nI j1576)), (0, .ref (ad 0)), (1, .int (nI N_1569)), (2, .int (nI N_1570)), (3, .int (nI N_1571))]) hx hb dX12_growth_212 hl (by decide) rfl (fun ls hl => ?_)
                              refine lv_iinc (v := (nI (j1576 + 1))) (lv' := [(5, .int (nI (j1576 + 1))), (4, .int (be1576 ||| al1582)), (6, .int al1582), (0, .ref (ad 0)), (1, .int (nI N_1569)), (2, .int (nI N_1570)), (3, .int (nI N_1571))]) hx hb dX12_growth_214 hl (k := 2) rfl (nI_1 _) (by decide) rfl (fun ls hl => ?_)
                              refine lv_goto (tgt := 89) hx hb dX12_growth_217 (by decide) ?_
                              exact ih_1576 ((j1576 + 1)) (be1576 ||| al1582) en_1585 ls H locs (by omega) (by omega) (by omega) hI_1585 hf_1585 (hkp_1585) (lv_sub hl [0, 1, 3, 4, 5, 6] rfl) hh
                            · rw [hr_1585]
                              have hall_1585 := NW_all hND_1585.2.2 (by omega) hu1_1585
                              refine lv_if_eq (tgt := 207) hx hb dX12_growth_108 (by decide) (fun c_0 => absurd c_0 (by decide)) (fun _ => ?_)
                              have join_1586 : ∀  (en_1586 : Nat → va_E) (ls : Array Slot) (H : Heap) (locs : List Loc), RX cy cs ad en_1586 → (∀ c, (c ≠ 0 ∧ c ≠ 6 ∧ c ≠ 7 ∧ c ≠ 8 ∧ c ≠ 9) → en_1586 c = en c) → KP en en_1586 → SD en_1585 en_1586 → lv_has ls 7 [(6, .int al1582), (5, .int (nI j1576)), (4, .int be1576), (0, .ref (ad 0)), (1, .int (nI N_1569)), (2, .int (nI N_1570)), (3, .int (nI N_1571))] → Hp D (Af cs ad sz) (Af cs ad sz) s.heap H locs cs ad en_1586 → W p l e (headSpec (Cond.code yX12_growth cX12_growth 7 (some .int) :: TB) (rmN 4)).room s m ([.ref (ad 0), .int (nI N_1569), .int (nI N_1570), .int (nI N_1571)] : List Value).toArray below meth c H locs 0 0 (MQ below (va_Qi (S := Nat → va_E) (fun r en1 => RX cy cs ad en1 ∧ (∀ c, (c ≠ 0 ∧ c ≠ 6 ∧ c ≠ 7 ∧ c ≠ 8 ∧ c ≠ 9) → en1 c = en c) ∧ KP en en1) (PostM D cs ad) (Af cs ad sz)) ([.ref (ad 0), .int (nI N_1569), .int (nI N_1570), .int (nI N_1571)] : List Value).toArray s 0 0 (Af cs ad sz)) (F0 m 169 ls []) := by
                                intro  en_1586 ls H locs hI_1586 hf_1586 hkp_1586 hsd_1586  hl hh
                                refine lv_iload hx hb dX12_growth_169 (lv_at hl 0 rfl) ?_
                                refine lv_aload_n hx hb dX12_growth_171 rfl (lv_at hl 3 rfl) ?_
                                refine lv_iload hx hb dX12_growth_172 (lv_at hl 1 rfl) ?_
                                obtain ⟨fa_1587, hi_1587, wd_1587, mo_1587, tb_1587, dp_1587, many_1587, grt_1587, lst_1587, nou_1587, rm_1587, rb_1587, pr_1587, wo_1587, es1587, p0_1587, p1_1587, p2_1587, p3_1587, p4_1587⟩ := getr_M hI_1586
                                have hq2_1588 : wd_1587 = wd := n_eq ((show nI wd_1587 = rdI (en_1586 0) 2 from by rw [es1587]; rfl).trans (hkp_1586.2.1.trans (show rdI (en 0) 2 = nI wd from by rw [es1568]; rfl))) (by omega) (by omega)
                                have hq3_1588 : mo_1587 = mo := n_eq ((show nI mo_1587 = rdI (en_1586 0) 3 from by rw [es1587]; rfl).trans (hkp_1586.2.2.1.trans (show rdI (en 0) 3 = nI mo from by rw [es1568]; rfl))) (by omega) (by omega)
                                have hq4_1588 : tb_1587 = tb := n_eq ((show nI tb_1587 = rdI (en_1586 0) 4 from by rw [es1587]; rfl).trans (hkp_1586.2.2.2.1.trans (show rdI (en 0) 4 = nI tb from by rw [es1568]; rfl))) (by omega) (by omega)
                                have hq30_1588 : wo_1587 = wo := n_eq ((show nI wo_1587 = rdI (en_1586 0) 30 from by rw [es1587]; rfl).trans (hkp_1586.2.2.2.2.2.trans (show rdI (en 0) 30 = nI wo from by rw [es1568]; rfl))) (by omega) (by omega)
                                rw [hq2_1588, hq3_1588, hq4_1588, hq30_1588] at es1587
                                refine hp_callRl (va_runV (As := [.int (nI j1576)]) (rest := [.int al1582]) ⟨hx, hb, hml, hown, hts⟩ (c_X12_normAt l D cy _ cs ad en_1586 hI_1586 j1576 (by omega)) (kw_X12_normAt hts tw_1058 ⟨by decide, by decide⟩) (preV_of hh hK (hI.1 _ (by decide)) es1587 rfl) rfl rfl hl.1 rfl (lv_room (Nat.le_of_ble_eq_true rfl)) dX12_growth_174 ⟨Nat.le_of_ble_eq_true rfl, Nat.le_of_ble_eq_true rfl⟩) hh hA (fun r_1589 H locs hw_1589 hh => ?_)
                                refine lv_iload_n hx hb dX12_growth_177 rfl (lv_at hl 5 rfl) ?_
                                refine lv_i2l hx hb dX12_growth_178 rfl ?_
                                refine lv_iload hx hb dX12_growth_179 (lv_at hl 1 rfl) ?_
                                refine hp_callRl (va_runS (As := [.long ((nI N_1570).toInt64), .int (nI j1576)]) (rest := [.long r_1589, .int al1582]) ⟨hx, hb, hml, hown, hts⟩ (c_X12_power l D cy _ cs ad en_1586 hI_1586 ((nI N_1570).toInt64) j1576 (by omega)) (kw_X12_power hts tw_1110 ⟨by decide, by decide⟩) (preS_of hh hK) rfl rfl hl.1 rfl (lv_room (Nat.le_of_ble_eq_true rfl)) dX12_growth_181 ⟨Nat.le_of_ble_eq_true rfl, Nat.le_of_ble_eq_true rfl⟩) hh hA (fun r_1590 H locs hw_1590 hh => ?_)
                                refine lv_lmul hx hb dX12_growth_184 ?_
                                refine lv_iload_n hx hb dX12_growth_185 rfl (lv_at hl 4 rfl) ?_
                                refine lv_i2l hx hb dX12_growth_186 rfl ?_
                                refine lv_iload hx hb dX12_growth_187 (lv_at hl 1 rfl) ?_
                                refine hp_callRl (va_runS (As := [.long ((nI N_1569).toInt64), .int (nI j1576)]) (rest := [.long (r_1589 * r_1590), .int al1582]) ⟨hx, hb, hml, hown, hts⟩ (c_X12_power l D cy _ cs ad en_1586 hI_1586 ((nI N_1569).toInt64) j1576 (by omega)) (kw_X12_power hts tw_1110 ⟨by decide, by decide⟩) (preS_of hh hK) rfl rfl hl.1 rfl (lv_room (Nat.le_of_ble_eq_true rfl)) dX12_growth_189 ⟨Nat.le_of_ble_eq_true rfl, Nat.le_of_ble_eq_true rfl⟩) hh hA (fun r_1591 H locs hw_1591 hh => ?_)
                                refine W.lcmp hx hb dX12_growth_192 ?_
                                refine lv_if_ge (tgt := 200) hx hb dX12_growth_193 (by decide) (fun c_1592 => ?_) (fun c_1592 => ?_)
                                · refine lv_iconst (v := 0) hx hb dX12_growth_200 (by decide) ?_
                                  refine lv_iand hx hb dX12_growth_201 ?_
                                  refine lv_istore (lv' := [(6, .int (al1582 &&& 0)), (5, .int (nI j1576)), (4, .int be1576), (0, .ref (ad 0)), (1, .int (nI N_1569)), (2, .int (nI N_1570)), (3, .int (nI N_1571))]) hx hb dX12_growth_202 hl (by decide) rfl (fun ls hl => ?_)
                                  refine lv_goto (tgt := 102) hx hb dX12_growth_204 (by decide) ?_
                                  exact ih_1582 (mm1582 - 1) (al1582 &&& 0) (j1576 - 1) u1_1585 en_1586 ls H locs (by omega) hI_1586 hf_1586 (ND_sd hND_1585 hsd_1586) (by rw [hsd_1586.2]; have h1 := hnm_1585; have h2 := i1_1582; omega) (hkp_1586) (lv_sub hl [0, 1, 2, 3, 4, 5, 6] rfl) hh
                                · refine lv_iconst (v := 1) hx hb dX12_growth_196 (by decide) ?_
                                  refine lv_goto (tgt := 201) hx hb dX12_growth_197 (by decide) ?_
                                  refine lv_iand hx hb dX12_growth_201 ?_
                                  refine lv_istore (lv' := [(6, .int (al1582 &&& 1)), (5, .int (nI j1576)), (4, .int be1576), (0, .ref (ad 0)), (1, .int (nI N_1569)), (2, .int (nI N_1570)), (3, .int (nI N_1571))]) hx hb dX12_growth_202 hl (by decide) rfl (fun ls hl => ?_)
                                  refine lv_goto (tgt := 102) hx hb dX12_growth_204 (by decide) ?_
                                  exact ih_1582 (mm1582 - 1) (al1582 &&& 1) (j1576 - 1) u1_1585 en_1586 ls H locs (by omega) hI_1586 hf_1586 (ND_sd hND_1585 hsd_1586) (by rw [hsd_1586.2]; have h1 := hnm_1585; have h2 := i1_1582; omega) (hkp_1586) (lv_sub hl [0, 1, 2, 3, 4, 5, 6] rfl) hh
                              refine lv_aload_n hx hb dX12_growth_111 rfl (lv_at hl 3 rfl) ?_
                              refine lv_aload_n hx hb dX12_growth_112 rfl (lv_at hl 3 rfl) ?_
                              obtain ⟨fa_1593, hi_1593, wd_1593, mo_1593, tb_1593, dp_1593, many_1593, grt_1593, lst_1593, nou_1593, rm_1593, rb_1593, pr_1593, wo_1593, es1593, p0_1593, p1_1593, p2_1593, p3_1593, p4_1593⟩ := getr_M hI_1585
                              have hq2_1594 : wd_1593 = wd := n_eq ((show nI wd_1593 = rdI (en_1585 0) 2 from by rw [es1593]; rfl).trans (hkp_1585.2.1.trans (show rdI (en 0) 2 = nI wd from by rw [es1568]; rfl))) (by omega) (by omega)
                              have hq3_1594 : mo_1593 = mo := n_eq ((show nI mo_1593 = rdI (en_1585 0) 3 from by rw [es1593]; rfl).trans (hkp_1585.2.2.1.trans (show rdI (en 0) 3 = nI mo from by rw [es1568]; rfl))) (by omega) (by omega)
                              have hq4_1594 : tb_1593 = tb := n_eq ((show nI tb_1593 = rdI (en_1585 0) 4 from by rw [es1593]; rfl).trans (hkp_1585.2.2.2.1.trans (show rdI (en 0) 4 = nI tb from by rw [es1568]; rfl))) (by omega) (by omega)
                              have hq30_1594 : wo_1593 = wo := n_eq ((show nI wo_1593 = rdI (en_1585 0) 30 from by rw [es1593]; rfl).trans (hkp_1585.2.2.2.2.2.trans (show rdI (en 0) 30 = nI wo from by rw [es1568]; rfl))) (by omega) (by omega)
                              rw [hq2_1594, hq3_1594, hq4_1594, hq30_1594] at es1593
                              refine hp_get hx hb hts ix12 hown hK hh (q := 0) rfl (hI.1 _ (by decide)) es1593 rfl 11 (by decide) (hts _ tw_890) (fun _ h9 => h9) rfl dX12_growth_113 ?_
                              refine lv_iload hx hb dX12_growth_116 (lv_at hl 1 rfl) ?_
                              refine lv_iconst (v := 1) hx hb dX12_growth_118 (by decide) ?_
                              refine lv_isub hx hb dX12_growth_119 ?_
                              rw [show (1 : Int32) = nI 1 from rfl, pk_sub (a := j1576) (b := 1) (by omega)]
                              obtain ⟨f_1595, es1595⟩ := getr_nw hI_1585
                              refine hp_iald hx hb hK hh (q := 7) rfl (hI.1 _ (by decide)) es1595 (vp_in_nI (n := (j1576 - 1)) (by omega) (by decide)) dX12_growth_120 ?_
                              rw [nI_clamp (n := (j1576 - 1)) (by omega)]
                              obtain ⟨v_1596, hv_1596, hve_1596⟩ := hall_1585 (j1576 - 1) (by omega)
                              rw [show f_1595 (j1576 - 1) = nI v_1596 from (show f_1595 (j1576 - 1) = rdF (en_1585 7) (j1576 - 1) from by rw [← (SD_rf en_1585).2, es1595]; rfl).trans hve_1596]
                              refine lv_aload_n hx hb dX12_growth_121 rfl (lv_at hl 3 rfl) ?_
                              refine hp_get hx hb hts ix12 hown hK hh (q := 0) rfl (hI.1 _ (by decide)) es1593 rfl 11 (by decide) (hts _ tw_890) (fun _ h9 => h9) rfl dX12_growth_122 ?_
                              refine lv_iconst (v := 0) hx hb dX12_growth_125 (by decide) ?_
                              rw [show (0 : Int32) = nI 0 from rfl]
                              refine hp_iald hx hb hK hh (q := 7) rfl (hI.1 _ (by decide)) es1595 (vp_in_nI (n := 0) (by omega) (by decide)) dX12_growth_126 ?_
                              rw [nI_clamp (n := 0) (by omega)]
                              obtain ⟨v_1597, hv_1597, hve_1597⟩ := hall_1585 0 (by omega)
                              rw [show f_1595 0 = nI v_1597 from (show f_1595 0 = rdF (en_1585 7) 0 from by rw [← (SD_rf en_1585).2, es1595]; rfl).trans hve_1597]
                              refine hp_callRi (va_runV (As := [.int (nI v_1596), .int (nI v_1597)]) (rest := []) ⟨hx, hb, hml, hown, hts⟩ (c_X12_mayFollow l D cy _ cs ad en_1585 hI_1585 v_1596 v_1597 (by omega) (by omega)) (kw_X12_mayFollow hts tw_1029 ⟨by decide, by decide⟩) (preV_of hh hK (hI.1 _ (by decide)) es1593 rfl) rfl rfl hl.1 rfl (lv_room (Nat.le_of_ble_eq_true rfl)) dX12_growth_127 ⟨Nat.le_of_ble_eq_true rfl, Nat.le_of_ble_eq_true rfl⟩) hh hA (fun r_1598 H locs hw_1598 hh => ?_)
                              rcases Decidable.em (rdF (en_1585 2) (6 * v_1596 + v_1597) = 0) with hp_1598 | hp_1598
                              · obtain rfl : r_1598 = 1 := Eq.trans hw_1598 (if_pos hp_1598)
                                refine lv_if_eq (tgt := 169) hx hb dX12_growth_130 (by decide) (fun c_0 => absurd c_0 (by decide)) (fun _ => ?_)
                                refine lv_aload_n hx hb dX12_growth_133 rfl (lv_at hl 3 rfl) ?_
                                refine lv_iload hx hb dX12_growth_134 (lv_at hl 1 rfl) ?_
                                refine hp_callRl (va_runV (As := [.int (nI j1576)]) (rest := []) ⟨hx, hb, hml, hown, hts⟩ (c_X12_trackAt l D cy _ cs ad en_1585 hI_1585 j1576 (by omega)) (kw_X12_trackAt hts tw_1093 ⟨by decide, by decide⟩) (preV_of hh hK (hI.1 _ (by decide)) es1593 rfl) rfl rfl hl.1 rfl (lv_room (Nat.le_of_ble_eq_true rfl)) dX12_growth_136 ⟨Nat.le_of_ble_eq_true rfl, Nat.le_of_ble_eq_true rfl⟩) hh hA (fun r_1599 H locs hw_1599 hh => ?_)
                                refine hp_callRl (va_runS (As := [.long r_1599]) (rest := []) ⟨hx, hb, hml, hown, hts⟩ (c_X12_sizeOf l D cy _ cs ad en_1585 hI_1585 r_1599 ) (kw_X12_sizeOf hts tw_1062 ⟨by decide, by decide⟩) (preS_of hh hK) rfl rfl hl.1 rfl (lv_room (Nat.le_of_ble_eq_true rfl)) dX12_growth_139 ⟨Nat.le_of_ble_eq_true rfl, Nat.le_of_ble_eq_true rfl⟩) hh hA (fun r_1600 H locs hw_1600 hh => ?_)
                                obtain rfl : r_1600 = absR r_1599 := hw_1600
                                refine lv_iload_n hx hb dX12_growth_142 rfl (lv_at hl 5 rfl) ?_
                                refine lv_i2l hx hb dX12_growth_143 rfl ?_
                                refine lv_iload hx hb dX12_growth_144 (lv_at hl 1 rfl) ?_
                                refine hp_callRl (va_runS (As := [.long ((nI N_1570).toInt64), .int (nI j1576)]) (rest := [.long (absR r_1599)]) ⟨hx, hb, hml, hown, hts⟩ (c_X12_power l D cy _ cs ad en_1585 hI_1585 ((nI N_1570).toInt64) j1576 (by omega)) (kw_X12_power hts tw_1110 ⟨by decide, by decide⟩) (preS_of hh hK) rfl rfl hl.1 rfl (lv_room (Nat.le_of_ble_eq_true rfl)) dX12_growth_146 ⟨Nat.le_of_ble_eq_true rfl, Nat.le_of_ble_eq_true rfl⟩) hh hA (fun r_1601 H locs hw_1601 hh => ?_)
                                refine lv_lmul hx hb dX12_growth_149 ?_
                                refine lv_aload_n hx hb dX12_growth_150 rfl (lv_at hl 3 rfl) ?_
                                refine hp_get hx hb hts ix12 hown hK hh (q := 0) rfl (hI.1 _ (by decide)) es1593 rfl 2 (by decide) (hts _ tw_881) (fun _ h9 => h9) rfl dX12_growth_151 ?_
                                refine lv_i2l hx hb dX12_growth_154 rfl ?_
                                refine lv_iload_n hx hb dX12_growth_155 rfl (lv_at hl 4 rfl) ?_
                                refine lv_i2l hx hb dX12_growth_156 rfl ?_
                                refine lv_iload hx hb dX12_growth_157 (lv_at hl 1 rfl) ?_
                                refine hp_callRl (va_runS (As := [.long ((nI N_1569).toInt64), .int (nI j1576)]) (rest := [.long ((nI wd).toInt64), .long ((absR r_1599) * r_1601)]) ⟨hx, hb, hml, hown, hts⟩ (c_X12_power l D cy _ cs ad en_1585 hI_1585 ((nI N_1569).toInt64) j1576 (by omega)) (kw_X12_power hts tw_1110 ⟨by decide, by decide⟩) (preS_of hh hK) rfl rfl hl.1 rfl (lv_room (Nat.le_of_ble_eq_true rfl)) dX12_growth_159 ⟨Nat.le_of_ble_eq_true rfl, Nat.le_of_ble_eq_true rfl⟩) hh hA (fun r_1602 H locs hw_1602 hh => ?_)
                                refine lv_lmul hx hb dX12_growth_162 ?_
                                refine W.lcmp hx hb dX12_growth_163 ?_
                                refine lv_if_le (tgt := 169) hx hb dX12_growth_164 (by decide) (fun c_1603 => ?_) (fun c_1603 => ?_)
                                · exact join_1586  en_1585 ls _ _ hI_1585 hf_1585 hkp_1585 (SD_rf en_1585) (lv_sub hl [0, 1, 2, 3, 4, 5, 6] rfl) hh
                                · refine lv_iconst (v := 1) hx hb dX12_growth_167 (by decide) ?_
                                  exact hp_iretM hx hb hr rfl hlocks hh (⟨hI_1585, hf_1585, hkp_1585⟩) dX12_growth_168
                              · obtain rfl : r_1598 = 0 := Eq.trans hw_1598 (if_neg hp_1598)
                                refine lv_if_eq (tgt := 169) hx hb dX12_growth_130 (by decide) (fun _ => ?_) (fun c_0 => absurd c_0 (by decide))
                                exact join_1586  en_1585 ls _ _ hI_1585 hf_1585 hkp_1585 (SD_rf en_1585) (lv_sub hl [0, 1, 2, 3, 4, 5, 6] rfl) hh
                        exact loop_1582 (134217728 + 1) 134217728 1 0 0 en_1581 ls _ _ (by omega) hI_1581 hf_1581 (hND_1581) (by omega) (hkp_1581) (lv_sub hl [0, 1, 2, 3, 4, 5, 6] rfl) hh
                  exact loop_1576 ((N_1571 + 1) + 1) 1 0 en_1574 ls _ _ (Nat.le_refl _) (by omega) (by omega) hI_1574 hf_1574 (i0_1574) (lv_sub hl [0, 1, 2, 3, 4, 5] rfl) hh
                · have n_1575 : j1574 ≤ N_1571 := n_nlt (a := N_1571) (b := j1574) c_1575 (by omega) (by omega)
                  refine lv_aload_n hx hb dX12_growth_65 rfl (lv_at hl 1 rfl) ?_
                  refine lv_iload hx hb dX12_growth_66 (lv_at hl 0 rfl) ?_
                  obtain ⟨fa_1604, hi_1604, wd_1604, mo_1604, tb_1604, dp_1604, many_1604, grt_1604, lst_1604, nou_1604, rm_1604, rb_1604, pr_1604, wo_1604, es1604, p0_1604, p1_1604, p2_1604, p3_1604, p4_1604⟩ := getr_M hI_1574
                  have hq2_1605 : wd_1604 = wd := n_eq ((show nI wd_1604 = rdI (en_1574 0) 2 from by rw [es1604]; rfl).trans (i0_1574.2.1.trans (show rdI (en 0) 2 = nI wd from by rw [es1568]; rfl))) (by omega) (by omega)
                  have hq3_1605 : mo_1604 = mo := n_eq ((show nI mo_1604 = rdI (en_1574 0) 3 from by rw [es1604]; rfl).trans (i0_1574.2.2.1.trans (show rdI (en 0) 3 = nI mo from by rw [es1568]; rfl))) (by omega) (by omega)
                  have hq4_1605 : tb_1604 = tb := n_eq ((show nI tb_1604 = rdI (en_1574 0) 4 from by rw [es1604]; rfl).trans (i0_1574.2.2.2.1.trans (show rdI (en 0) 4 = nI tb from by rw [es1568]; rfl))) (by omega) (by omega)
                  have hq30_1605 : wo_1604 = wo := n_eq ((show nI wo_1604 = rdI (en_1574 0) 30 from by rw [es1604]; rfl).trans (i0_1574.2.2.2.2.2.trans (show rdI (en 0) 30 = nI wo from by rw [es1568]; rfl))) (by omega) (by omega)
                  rw [hq2_1605, hq3_1605, hq4_1605, hq30_1605] at es1604
                  refine hp_callMi (va_runV (As := [.int (nI j1574)]) (rest := []) ⟨hx, hb, hml, hown, hts⟩ (c_X12_isSpent l D cy _ cs ad en_1574 hI_1574 j1574 (by omega)) (kw_X12_isSpent hts tw_1025 ⟨by decide, by decide⟩) (preV_of hh hK (hI.1 _ (by decide)) es1604 rfl) rfl rfl hl.1 rfl (lv_room (Nat.le_of_ble_eq_true rfl)) dX12_growth_68 ⟨Nat.le_of_ble_eq_true rfl, Nat.le_of_ble_eq_true rfl⟩) hh hA (fun r_1606 H locs en_1606 hw_1606 hh => ?_)
                  obtain ⟨hI_1606, hu_1606, hx_1606⟩ := hw_1606
                  have es1604_1606 : en_1606 0 = .inr (11, [.int fa_1604, .int hi_1604, .int (nI wd), .int (nI mo), .int (nI tb), .ref (ad 1), .ref (ad 2), .ref (ad 3), .ref (ad 4), .ref (ad 5), .ref (ad 6), .ref (ad 7), .ref (ad 8), .ref (ad 9), .int dp_1604, .long many_1604, .long grt_1604, .long lst_1604, .long nou_1604, .ref (ad 10), .ref (ad 11), .ref (ad 12), .int rm_1604, .long rb_1604, .ref (ad 13), .int pr_1604, .ref (ad 14), .ref (ad 15), .ref (ad 16), .ref (ad 17), .int (nI wo), .ref (ad 18), .ref (ad 19)]) := (hu_1606 0 (by omega)).trans es1604
                  have hf_1606 : ∀ c, (c ≠ 0 ∧ c ≠ 6 ∧ c ≠ 7 ∧ c ≠ 8 ∧ c ≠ 9) → en_1606 c = en c := fun c hc => (hu_1606 c (by omega)).trans (hf_1574 c hc)
                  have hkp_1606 : KP en en_1606 := KP_same i0_1574 (hu_1606 0 (by omega))
                  have hw_1606 := hx_1606
                  rcases hw_1606 with hb_1606 | hb_1606
                  · obtain rfl : r_1606 = 0 := hb_1606
                    refine lv_if_eq (tgt := 77) hx hb dX12_growth_71 (by decide) (fun _ => ?_) (fun c_0 => absurd c_0 (by decide))
                    refine lv_iinc (v := (nI (j1574 + 1))) (lv' := [(4, .int (nI (j1574 + 1))), (0, .ref (ad 0)), (1, .int (nI N_1569)), (2, .int (nI N_1570)), (3, .int (nI N_1571))]) hx hb dX12_growth_77 hl (k := 0) rfl (nI_1 _) (by decide) rfl (fun ls hl => ?_)
                    refine lv_goto (tgt := 59) hx hb dX12_growth_80 (by decide) ?_
                    exact ih_1574 ((j1574 + 1))  en_1606 ls H locs (by omega) (by omega) (by omega) hI_1606 hf_1606 (hkp_1606) (lv_sub hl [0, 1, 2, 3, 4] rfl) hh
                  · obtain rfl : r_1606 = 1 := hb_1606
                    refine lv_if_eq (tgt := 77) hx hb dX12_growth_71 (by decide) (fun c_0 => absurd c_0 (by decide)) (fun _ => ?_)
                    refine lv_bipush (v := (-6)) hx hb dX12_growth_74 (by decide) ?_
                    exact hp_iretM hx hb hr rfl hlocks hh (⟨hI_1606, hf_1606, hkp_1606⟩) dX12_growth_76
            exact loop_1574 ((N_1571 + 1) + 1) 1  en ls _ _ (Nat.le_refl _) (by omega) (by omega) hI hf0 ((KP_rf en)) (lv_sub hl [0, 1, 2, 3, 4] rfl) hh
          · have n_1573 : tb = 0 := n_eq (a := tb) (b := 0) c_1573 (by omega) (by decide)
            refine lv_bipush (v := (-3)) hx hb dX12_growth_53 (by decide) ?_
            exact hp_iretM hx hb hr rfl hlocks hh (⟨hI, hf0, (KP_rf en)⟩) dX12_growth_55
      · obtain rfl : r_1571 = 0 := Eq.trans hw_1571 (if_neg (fun q => hp_1571 ((wj_32 (by decide) (by decide)).mp q)))
        refine lv_if_ne (tgt := 39) hx hb dX12_growth_33 (by decide) (fun c_0 => absurd c_0 (by decide)) (fun _ => ?_)
        refine lv_bipush (v := (-2)) hx hb dX12_growth_36 (by decide) ?_
        exact hp_iretM hx hb hr rfl hlocks hh (⟨hI, hf0, (KP_rf en)⟩) dX12_growth_38
    · obtain rfl : r_1570 = 0 := Eq.trans hw_1570 (if_neg (fun q => hp_1570 ((wj_32 (by decide) (by decide)).mp q)))
      refine lv_if_eq (tgt := 36) hx hb dX12_growth_21 (by decide) (fun _ => ?_) (fun c_0 => absurd c_0 (by decide))
      refine lv_bipush (v := (-2)) hx hb dX12_growth_36 (by decide) ?_
      exact hp_iretM hx hb hr rfl hlocks hh (⟨hI, hf0, (KP_rf en)⟩) dX12_growth_38
  · obtain rfl : r_1569 = 0 := Eq.trans hw_1569 (if_neg (fun q => hp_1569 ((wj_32 (by decide) (by decide)).mp q)))
    refine lv_if_eq (tgt := 36) hx hb dX12_growth_9 (by decide) (fun _ => ?_) (fun c_0 => absurd c_0 (by decide))
    refine lv_bipush (v := (-2)) hx hb dX12_growth_36 (by decide) ?_
    exact hp_iretM hx hb hr rfl hlocks hh (⟨hI, hf0, (KP_rf en)⟩) dX12_growth_38
theorem kw_X12_growth {R : Room} {s : State} {args : Array Value} {own : String} {idx : Nat} (hts : ∀ w ∈ TB, w.before args s = true) (hl : Cond.methodLink own idx yX12_growth ∈ TB) (hR : 4 + 1 ≤ R.frames ∧ 8 + (7 + 11) + 40 * 4 ≤ R.locals) : CallW R s args own RX12 idx yX12_growth cX12_growth 7 (some .int) (Cond.code yX12_growth cX12_growth 7 (some .int) :: TB) (rmN 4) 0 0 3 := cwV 3 hts (TB_V hl tw_1106 tw_1107 tw_9 tw_1108) rfl rfl rfl (by decide +kernel) hR
