set_option maxHeartbeats 4000000 in
set_option maxRecDepth 100000 in
/-- goThrough -/
theorem c_X12_goThrough (l : Launch) (D : va_G) (cy : Nat → ClassId) (sz : Nat) (cs : List Nat) (ad : Nat → Nat) (en : Nat → va_E) (hI : RX cy cs ad en) (n : Nat) (hn1 : 1 ≤ n) (hn8 : n ≤ 8)   : Met l yX12_goThrough (Cond.code yX12_goThrough cX12_goThrough 5 none :: TB) (rmN 3) (va_Pc [.ref (ad 0), .int (nI n)] (Pre D cy cs ad en sz)) (va_Qv (S := Nat → va_E) (fun en1 => RX cy cs ad en1 ∧ (∀ c, (c ≠ 0 ∧ c ≠ 6 ∧ c ≠ 7 ∧ c ≠ 10 ∧ c ≠ 11) → en1 c = en c) ∧ KP en en1) (PostM D cs ad) (Af cs ad sz)) 0 0 (Af cs ad sz) := by
  refine Met.ofW (cc := cX12_goThrough) (maxL := 5) (ret := none) (by decide) rfl ?_
  intro p e s m args below meth c s₁ B hml hv
  obtain ⟨rfl, hsz, hP, hK, hD0⟩ := hv
  have hx := B.exec
  have hb := B.bytes
  have hr := B.returns
  have hts : ∀ w ∈ TB, w.before _ s = true := fun w h => atoms_spec (ws := _ :: TB) B.pre w (List.mem_cons_of_mem _ h)
  have hown : s.vm.findClass RX12 = some m.cls := findClass_of_methodNamed B.named
  have hlocks := B.notSynchronized
  have hh : Hp D (Af cs ad sz) (Af cs ad sz) s.heap s.heap [] cs ad en := ⟨hP, Af_self hD0, va_S.rf⟩
  have hA : ∀ q : Nat, s.heap.size ≤ q → Af cs ad sz q := fun q h => Or.inr (by rw [hsz] at h; exact h)
  have hl := lv_entry ([.ref (ad 0), .int (nI n)]) (n := 5) (Nat.le_of_ble_eq_true rfl)
  rw [lg_entry_eq]
  generalize (lg_sl ([.ref (ad 0), .int (nI n)]) ++ List.replicate (5 - (lg_sl ([.ref (ad 0), .int (nI n)])).length) Slot.unset).toArray = ls at hl ⊢
  have hl : lv_has ls 5 [(0, .ref (ad 0)), (1, .int (nI n))] := hl
  have hf0 : ∀ c, (c ≠ 0 ∧ c ≠ 6 ∧ c ≠ 7 ∧ c ≠ 10 ∧ c ≠ 11) → en c = en c := fun _ _ => rfl
  obtain ⟨fa, hi, wd, mo, tb, dp, many, grt, lst, nou, rm, rb, pr, wo, es1393, hwd2, hwd3, hmo, htb, hwo⟩ := getr_M hI
  refine lv_aload_n hx hb dX12_goThrough_0 rfl (lv_at hl 0 rfl) ?_
  refine lv_lconst (v := 0) hx hb dX12_goThrough_1 (by decide) ?_
  refine hp_put hx hb hts ix12 tyX12 tyX12_ok nmX12 hown hK hh (q := 0) rfl (hI.1 _ (by decide)) es1393 rfl 15 (by decide) (hts _ tw_894) (fun _ h9 => h9) rfl (ty := .long) (by decide +kernel) rfl rfl (Nat.le_of_ble_eq_true rfl) dX12_goThrough_2 (fun H locs en_1394 hen_1394 hh => ?_)
  have es1393_1394 : en_1394 0 = .inr (11, [.int fa, .int hi, .int (nI wd), .int (nI mo), .int (nI tb), .ref (ad 1), .ref (ad 2), .ref (ad 3), .ref (ad 4), .ref (ad 5), .ref (ad 6), .ref (ad 7), .ref (ad 8), .ref (ad 9), .int dp, .long 0, .long grt, .long lst, .long nou, .ref (ad 10), .ref (ad 11), .ref (ad 12), .int rm, .long rb, .ref (ad 13), .int pr, .ref (ad 14), .ref (ad 15), .ref (ad 16), .ref (ad 17), .int (nI wo), .ref (ad 18), .ref (ad 19)]) := by rw [hen_1394]; exact va_up_self _ _ _
  have hI_1394 : RX cy cs ad en_1394 := by rw [hen_1394]; exact upr_M hI ⟨fa, hi, wd, mo, tb, dp, 0, grt, lst, nou, rm, rb, pr, wo, rfl, hwd2, hwd3, hmo, htb, hwo⟩
  have hf_1394 : ∀ c, (c ≠ 0 ∧ c ≠ 6 ∧ c ≠ 7 ∧ c ≠ 10 ∧ c ≠ 11) → en_1394 c = en c := fun c hc => Eq.trans (show en_1394 c = en c from by rw [hen_1394, va_up_ne _ _ (by omega)]) (hf0 c hc)
  have hkp_1394 : KP en en_1394 := KP_fv (KP_rf en) es1393 es1393_1394 hi (nI wd) (nI mo) (nI tb) pr (nI wo) rfl rfl rfl rfl rfl rfl rfl rfl rfl rfl rfl rfl
  refine lv_aload_n hx hb dX12_goThrough_5 rfl (lv_at hl 0 rfl) ?_
  refine lv_ldc2 hx hb hown (hts _ tw_1015) dX12_goThrough_6 ?_
  refine hp_put hx hb hts ix12 tyX12 tyX12_ok nmX12 hown hK hh (q := 0) rfl (hI.1 _ (by decide)) es1393_1394 rfl 16 (by decide) (hts _ tw_895) (fun _ h9 => h9) rfl (ty := .long) (by decide +kernel) rfl rfl (Nat.le_of_ble_eq_true rfl) dX12_goThrough_9 (fun H locs en_1395 hen_1395 hh => ?_)
  have es1393_1395 : en_1395 0 = .inr (11, [.int fa, .int hi, .int (nI wd), .int (nI mo), .int (nI tb), .ref (ad 1), .ref (ad 2), .ref (ad 3), .ref (ad 4), .ref (ad 5), .ref (ad 6), .ref (ad 7), .ref (ad 8), .ref (ad 9), .int dp, .long 0, .long (-9223372036854775808), .long lst, .long nou, .ref (ad 10), .ref (ad 11), .ref (ad 12), .int rm, .long rb, .ref (ad 13), .int pr, .ref (ad 14), .ref (ad 15), .ref (ad 16), .ref (ad 17), .int (nI wo), .ref (ad 18), .ref (ad 19)]) := by rw [hen_1395]; exact va_up_self _ _ _
  have hI_1395 : RX cy cs ad en_1395 := by rw [hen_1395]; exact upr_M hI_1394 ⟨fa, hi, wd, mo, tb, dp, 0, (-9223372036854775808), lst, nou, rm, rb, pr, wo, rfl, hwd2, hwd3, hmo, htb, hwo⟩
  have hf_1395 : ∀ c, (c ≠ 0 ∧ c ≠ 6 ∧ c ≠ 7 ∧ c ≠ 10 ∧ c ≠ 11) → en_1395 c = en c := fun c hc => Eq.trans (show en_1395 c = en_1394 c from by rw [hen_1395, va_up_ne _ _ (by omega)]) (hf_1394 c hc)
  have hkp_1395 : KP en en_1395 := KP_fv hkp_1394 es1393_1394 es1393_1395 hi (nI wd) (nI mo) (nI tb) pr (nI wo) rfl rfl rfl rfl rfl rfl rfl rfl rfl rfl rfl rfl
  refine lv_aload_n hx hb dX12_goThrough_12 rfl (lv_at hl 0 rfl) ?_
  refine lv_ldc2 hx hb hown (hts _ tw_1015) dX12_goThrough_13 ?_
  refine hp_put hx hb hts ix12 tyX12 tyX12_ok nmX12 hown hK hh (q := 0) rfl (hI.1 _ (by decide)) es1393_1395 rfl 17 (by decide) (hts _ tw_896) (fun _ h9 => h9) rfl (ty := .long) (by decide +kernel) rfl rfl (Nat.le_of_ble_eq_true rfl) dX12_goThrough_16 (fun H locs en_1396 hen_1396 hh => ?_)
  have es1393_1396 : en_1396 0 = .inr (11, [.int fa, .int hi, .int (nI wd), .int (nI mo), .int (nI tb), .ref (ad 1), .ref (ad 2), .ref (ad 3), .ref (ad 4), .ref (ad 5), .ref (ad 6), .ref (ad 7), .ref (ad 8), .ref (ad 9), .int dp, .long 0, .long (-9223372036854775808), .long (-9223372036854775808), .long nou, .ref (ad 10), .ref (ad 11), .ref (ad 12), .int rm, .long rb, .ref (ad 13), .int pr, .ref (ad 14), .ref (ad 15), .ref (ad 16), .ref (ad 17), .int (nI wo), .ref (ad 18), .ref (ad 19)]) := by rw [hen_1396]; exact va_up_self _ _ _
  have hI_1396 : RX cy cs ad en_1396 := by rw [hen_1396]; exact upr_M hI_1395 ⟨fa, hi, wd, mo, tb, dp, 0, (-9223372036854775808), (-9223372036854775808), nou, rm, rb, pr, wo, rfl, hwd2, hwd3, hmo, htb, hwo⟩
  have hf_1396 : ∀ c, (c ≠ 0 ∧ c ≠ 6 ∧ c ≠ 7 ∧ c ≠ 10 ∧ c ≠ 11) → en_1396 c = en c := fun c hc => Eq.trans (show en_1396 c = en_1395 c from by rw [hen_1396, va_up_ne _ _ (by omega)]) (hf_1395 c hc)
  have hkp_1396 : KP en en_1396 := KP_fv hkp_1395 es1393_1395 es1393_1396 hi (nI wd) (nI mo) (nI tb) pr (nI wo) rfl rfl rfl rfl rfl rfl rfl rfl rfl rfl rfl rfl
  refine lv_aload_n hx hb dX12_goThrough_19 rfl (lv_at hl 0 rfl) ?_
  refine lv_lconst (v := 0) hx hb dX12_goThrough_20 (by decide) ?_
  refine hp_put hx hb hts ix12 tyX12 tyX12_ok nmX12 hown hK hh (q := 0) rfl (hI.1 _ (by decide)) es1393_1396 rfl 18 (by decide) (hts _ tw_897) (fun _ h9 => h9) rfl (ty := .long) (by decide +kernel) rfl rfl (Nat.le_of_ble_eq_true rfl) dX12_goThrough_21 (fun H locs en_1397 hen_1397 hh => ?_)
  have es1393_1397 : en_1397 0 = .inr (11, [.int fa, .int hi, .int (nI wd), .int (nI mo), .int (nI tb), .ref (ad 1), .ref (ad 2), .ref (ad 3), .ref (ad 4), .ref (ad 5), .ref (ad 6), .ref (ad 7), .ref (ad 8), .ref (ad 9), .int dp, .long 0, .long (-9223372036854775808), .long (-9223372036854775808), .long 0, .ref (ad 10), .ref (ad 11), .ref (ad 12), .int rm, .long rb, .ref (ad 13), .int pr, .ref (ad 14), .ref (ad 15), .ref (ad 16), .ref (ad 17), .int (nI wo), .ref (ad 18), .ref (ad 19)]) := by rw [hen_1397]; exact va_up_self _ _ _
  have hI_1397 : RX cy cs ad en_1397 := by rw [hen_1397]; exact upr_M hI_1396 ⟨fa, hi, wd, mo, tb, dp, 0, (-9223372036854775808), (-9223372036854775808), 0, rm, rb, pr, wo, rfl, hwd2, hwd3, hmo, htb, hwo⟩
  have hf_1397 : ∀ c, (c ≠ 0 ∧ c ≠ 6 ∧ c ≠ 7 ∧ c ≠ 10 ∧ c ≠ 11) → en_1397 c = en c := fun c hc => Eq.trans (show en_1397 c = en_1396 c from by rw [hen_1397, va_up_ne _ _ (by omega)]) (hf_1396 c hc)
  have hkp_1397 : KP en en_1397 := KP_fv hkp_1396 es1393_1396 es1393_1397 hi (nI wd) (nI mo) (nI tb) pr (nI wo) rfl rfl rfl rfl rfl rfl rfl rfl rfl rfl rfl rfl
  refine lv_aload_n hx hb dX12_goThrough_24 rfl (lv_at hl 0 rfl) ?_
  refine hp_callMv (va_runV (As := []) (rest := []) ⟨hx, hb, hml, hown, hts⟩ (c_X12_beginWords l D cy _ cs ad en_1397 hI_1397  ) (kw_X12_beginWords hts tw_1038 ⟨by decide, by decide⟩) (preV_of hh hK (hI.1 _ (by decide)) es1393_1397 rfl) rfl rfl hl.1 rfl (lv_room (Nat.le_of_ble_eq_true rfl)) dX12_goThrough_25 ⟨Nat.le_of_ble_eq_true rfl, Nat.le_of_ble_eq_true rfl⟩) hh hA (fun H locs en_1398 hw_1398 hh => ?_)
  obtain ⟨hI_1398, hu_1398, hd0_1398, hg0_1398, hx_1398⟩ := hw_1398
  have hND_1398 : ND en_1398 n 0 0 := ⟨by omega, Or.inl hd0_1398, fun i h => absurd h (Nat.not_lt_zero i), by rw [hg0_1398]; decide, by omega⟩
  have hf_1398 : ∀ c, (c ≠ 0 ∧ c ≠ 6 ∧ c ≠ 7 ∧ c ≠ 10 ∧ c ≠ 11) → en_1398 c = en c := fun c hc => (hu_1398 c (by omega)).trans (hf_1397 c hc)
  have hkp_1398 : KP en en_1398 := KP_tr hkp_1397 hx_1398
  have loop_1399 : ∀ (fu mm1399 : Nat)  (d1399 : Nat) (u1399 : Nat) (en_1399 : Nat → va_E) (ls : Array Slot) (H : Heap) (locs : List Loc), mm1399 < fu → RX cy cs ad en_1399 → (∀ c, (c ≠ 0 ∧ c ≠ 6 ∧ c ≠ 7 ∧ c ≠ 10 ∧ c ≠ 11) → en_1399 c = en c) → (ND en_1399 n d1399 u1399) → (134217728 ≤ nmv (rdF (en_1399 7)) d1399 u1399 + mm1399) → (KP en en_1399) → lv_has ls 5 [(0, .ref (ad 0)), (1, .int (nI n))] → Hp D (Af cs ad sz) (Af cs ad sz) s.heap H locs cs ad en_1399 → W p l e (headSpec (Cond.code yX12_goThrough cX12_goThrough 5 none :: TB) (rmN 3)).room s m ([.ref (ad 0), .int (nI n)] : List Value).toArray below meth c H locs 0 0 (MQ below (va_Qv (S := Nat → va_E) (fun en1 => RX cy cs ad en1 ∧ (∀ c, (c ≠ 0 ∧ c ≠ 6 ∧ c ≠ 7 ∧ c ≠ 10 ∧ c ≠ 11) → en1 c = en c) ∧ KP en en1) (PostM D cs ad) (Af cs ad sz)) ([.ref (ad 0), .int (nI n)] : List Value).toArray s 0 0 (Af cs ad sz)) (F0 m 28 ls []) := by
    intro fu
    induction fu with
    | zero => intro mm1399 d1399 u1399 en_1399 ls H locs h2; exact absurd h2 (by omega)
    | succ fu ih_1399 =>
      intro mm1399 d1399 u1399 en_1399 ls H locs hmm_1399 hI_1399 hf_1399 i0_1399 i1_1399 i2_1399 hl hh
      have hlt_1399 := nmv_lt i0_1399.2.2 (by have h9 := i0_1399.1; omega)
      have hwd_1399 := i0_1399.1
      refine lv_aload_n hx hb dX12_goThrough_28 rfl (lv_at hl 0 rfl) ?_
      refine lv_iload_n hx hb dX12_goThrough_29 rfl (lv_at hl 1 rfl) ?_
      obtain ⟨fa_1400, hi_1400, wd_1400, mo_1400, tb_1400, dp_1400, many_1400, grt_1400, lst_1400, nou_1400, rm_1400, rb_1400, pr_1400, wo_1400, es1400, p0_1400, p1_1400, p2_1400, p3_1400, p4_1400⟩ := getr_M hI_1399
      have hq2_1401 : wd_1400 = wd := n_eq ((show nI wd_1400 = rdI (en_1399 0) 2 from by rw [es1400]; rfl).trans (i2_1399.2.1.trans (show rdI (en 0) 2 = nI wd from by rw [es1393]; rfl))) (by omega) (by omega)
      have hq3_1401 : mo_1400 = mo := n_eq ((show nI mo_1400 = rdI (en_1399 0) 3 from by rw [es1400]; rfl).trans (i2_1399.2.2.1.trans (show rdI (en 0) 3 = nI mo from by rw [es1393]; rfl))) (by omega) (by omega)
      have hq4_1401 : tb_1400 = tb := n_eq ((show nI tb_1400 = rdI (en_1399 0) 4 from by rw [es1400]; rfl).trans (i2_1399.2.2.2.1.trans (show rdI (en 0) 4 = nI tb from by rw [es1393]; rfl))) (by omega) (by omega)
      have hq30_1401 : wo_1400 = wo := n_eq ((show nI wo_1400 = rdI (en_1399 0) 30 from by rw [es1400]; rfl).trans (i2_1399.2.2.2.2.2.trans (show rdI (en 0) 30 = nI wo from by rw [es1393]; rfl))) (by omega) (by omega)
      rw [hq2_1401, hq3_1401, hq4_1401, hq30_1401] at es1400
      refine hp_callMi (va_runV (As := [.int (nI n)]) (rest := []) ⟨hx, hb, hml, hown, hts⟩ (c_X12_next l D cy _ cs ad en_1399 hI_1399 n (by omega) (by omega) d1399 u1399 i0_1399) (kw_X12_next hts tw_1046 ⟨by decide, by decide⟩) (preV_of hh hK (hI.1 _ (by decide)) es1400 rfl) rfl rfl hl.1 rfl (lv_room (Nat.le_of_ble_eq_true rfl)) dX12_goThrough_30 ⟨Nat.le_of_ble_eq_true rfl, Nat.le_of_ble_eq_true rfl⟩) hh hA (fun r_1402 H locs en_1402 hw_1402 hh => ?_)
      obtain ⟨hI_1402, hu_1402, hx_1402, hkq_1402⟩ := hw_1402
      have hf_1402 : ∀ c, (c ≠ 0 ∧ c ≠ 6 ∧ c ≠ 7 ∧ c ≠ 10 ∧ c ≠ 11) → en_1402 c = en c := fun c hc => (hu_1402 c (by omega)).trans (hf_1399 c hc)
      have hkp_1402 : KP en en_1402 := KP_tr i2_1399 hkq_1402
      rcases hx_1402 with hr_1402 | ⟨hr_1402, u1_1402, hND_1402, hu1_1402, hnm_1402⟩
      · rw [hr_1402]
        refine lv_if_eq (tgt := 179) hx hb dX12_goThrough_33 (by decide) (fun _ => ?_) (fun c_0 => absurd c_0 (by decide))
        exact hp_vretM hx hb hr hlocks hh (⟨hI_1402, hf_1402, hkp_1402⟩) dX12_goThrough_179
      · rw [hr_1402]
        have hall_1402 := NW_all hND_1402.2.2 (by omega) hu1_1402
        refine lv_if_eq (tgt := 179) hx hb dX12_goThrough_33 (by decide) (fun c_0 => absurd c_0 (by decide)) (fun _ => ?_)
        refine lv_aload_n hx hb dX12_goThrough_36 rfl (lv_at hl 0 rfl) ?_
        refine lv_iload_n hx hb dX12_goThrough_37 rfl (lv_at hl 1 rfl) ?_
        obtain ⟨fa_1403, hi_1403, wd_1403, mo_1403, tb_1403, dp_1403, many_1403, grt_1403, lst_1403, nou_1403, rm_1403, rb_1403, pr_1403, wo_1403, es1403, p0_1403, p1_1403, p2_1403, p3_1403, p4_1403⟩ := getr_M hI_1402
        have hq2_1404 : wd_1403 = wd := n_eq ((show nI wd_1403 = rdI (en_1402 0) 2 from by rw [es1403]; rfl).trans (hkp_1402.2.1.trans (show rdI (en 0) 2 = nI wd from by rw [es1393]; rfl))) (by omega) (by omega)
        have hq3_1404 : mo_1403 = mo := n_eq ((show nI mo_1403 = rdI (en_1402 0) 3 from by rw [es1403]; rfl).trans (hkp_1402.2.2.1.trans (show rdI (en 0) 3 = nI mo from by rw [es1393]; rfl))) (by omega) (by omega)
        have hq4_1404 : tb_1403 = tb := n_eq ((show nI tb_1403 = rdI (en_1402 0) 4 from by rw [es1403]; rfl).trans (hkp_1402.2.2.2.1.trans (show rdI (en 0) 4 = nI tb from by rw [es1393]; rfl))) (by omega) (by omega)
        have hq30_1404 : wo_1403 = wo := n_eq ((show nI wo_1403 = rdI (en_1402 0) 30 from by rw [es1403]; rfl).trans (hkp_1402.2.2.2.2.2.trans (show rdI (en 0) 30 = nI wo from by rw [es1393]; rfl))) (by omega) (by omega)
        rw [hq2_1404, hq3_1404, hq4_1404, hq30_1404] at es1403
        refine hp_callRl (va_runV (As := [.int (nI n)]) (rest := []) ⟨hx, hb, hml, hown, hts⟩ (c_X12_normAt l D cy _ cs ad en_1402 hI_1402 n (by omega)) (kw_X12_normAt hts tw_1058 ⟨by decide, by decide⟩) (preV_of hh hK (hI.1 _ (by decide)) es1403 rfl) rfl rfl hl.1 rfl (lv_room (Nat.le_of_ble_eq_true rfl)) dX12_goThrough_38 ⟨Nat.le_of_ble_eq_true rfl, Nat.le_of_ble_eq_true rfl⟩) hh hA (fun r_1405 H locs hw_1405 hh => ?_)
        refine lv_lstore_n (lv' := [(2, .long r_1405), (0, .ref (ad 0)), (1, .int (nI n))]) hx hb dX12_goThrough_41 rfl hl (by decide) rfl (fun ls hl => ?_)
        have join_1406 : ∀  (en_1406 : Nat → va_E) (ls : Array Slot) (H : Heap) (locs : List Loc), RX cy cs ad en_1406 → (∀ c, (c ≠ 0 ∧ c ≠ 6 ∧ c ≠ 7 ∧ c ≠ 10 ∧ c ≠ 11) → en_1406 c = en c) → KP en en_1406 → SD en_1402 en_1406 → lv_has ls 5 [(2, .long r_1405), (0, .ref (ad 0)), (1, .int (nI n))] → Hp D (Af cs ad sz) (Af cs ad sz) s.heap H locs cs ad en_1406 → W p l e (headSpec (Cond.code yX12_goThrough cX12_goThrough 5 none :: TB) (rmN 3)).room s m ([.ref (ad 0), .int (nI n)] : List Value).toArray below meth c H locs 0 0 (MQ below (va_Qv (S := Nat → va_E) (fun en1 => RX cy cs ad en1 ∧ (∀ c, (c ≠ 0 ∧ c ≠ 6 ∧ c ≠ 7 ∧ c ≠ 10 ∧ c ≠ 11) → en1 c = en c) ∧ KP en en1) (PostM D cs ad) (Af cs ad sz)) ([.ref (ad 0), .int (nI n)] : List Value).toArray s 0 0 (Af cs ad sz)) (F0 m 94 ls []) := by
          intro  en_1406 ls H locs hI_1406 hf_1406 hkp_1406 hsd_1406  hl hh
          have join_1407 : ∀  (en_1407 : Nat → va_E) (ls : Array Slot) (H : Heap) (locs : List Loc), RX cy cs ad en_1407 → (∀ c, (c ≠ 0 ∧ c ≠ 6 ∧ c ≠ 7 ∧ c ≠ 10 ∧ c ≠ 11) → en_1407 c = en c) → KP en en_1407 → SD en_1402 en_1407 → lv_has ls 5 [(2, .long r_1405), (0, .ref (ad 0)), (1, .int (nI n))] → Hp D (Af cs ad sz) (Af cs ad sz) s.heap H locs cs ad en_1407 → W p l e (headSpec (Cond.code yX12_goThrough cX12_goThrough 5 none :: TB) (rmN 3)).room s m ([.ref (ad 0), .int (nI n)] : List Value).toArray below meth c H locs 0 0 (MQ below (va_Qv (S := Nat → va_E) (fun en1 => RX cy cs ad en1 ∧ (∀ c, (c ≠ 0 ∧ c ≠ 6 ∧ c ≠ 7 ∧ c ≠ 10 ∧ c ≠ 11) → en1 c = en c) ∧ KP en en1) (PostM D cs ad) (Af cs ad sz)) ([.ref (ad 0), .int (nI n)] : List Value).toArray s 0 0 (Af cs ad sz)) (F0 m 146 ls []) := by
            intro  en_1407 ls H locs hI_1407 hf_1407 hkp_1407 hsd_1407  hl hh
            refine lv_aload_n hx hb dX12_goThrough_146 rfl (lv_at hl 1 rfl) ?_
            refine lv_dup hx hb dX12_goThrough_147 rfl ?_
            obtain ⟨fa_1408, hi_1408, wd_1408, mo_1408, tb_1408, dp_1408, many_1408, grt_1408, lst_1408, nou_1408, rm_1408, rb_1408, pr_1408, wo_1408, es1408, p0_1408, p1_1408, p2_1408, p3_1408, p4_1408⟩ := getr_M hI_1407
            have hq2_1409 : wd_1408 = wd := n_eq ((show nI wd_1408 = rdI (en_1407 0) 2 from by rw [es1408]; rfl).trans (hkp_1407.2.1.trans (show rdI (en 0) 2 = nI wd from by rw [es1393]; rfl))) (by omega) (by omega)
            have hq3_1409 : mo_1408 = mo := n_eq ((show nI mo_1408 = rdI (en_1407 0) 3 from by rw [es1408]; rfl).trans (hkp_1407.2.2.1.trans (show rdI (en 0) 3 = nI mo from by rw [es1393]; rfl))) (by omega) (by omega)
            have hq4_1409 : tb_1408 = tb := n_eq ((show nI tb_1408 = rdI (en_1407 0) 4 from by rw [es1408]; rfl).trans (hkp_1407.2.2.2.1.trans (show rdI (en 0) 4 = nI tb from by rw [es1393]; rfl))) (by omega) (by omega)
            have hq30_1409 : wo_1408 = wo := n_eq ((show nI wo_1408 = rdI (en_1407 0) 30 from by rw [es1408]; rfl).trans (hkp_1407.2.2.2.2.2.trans (show rdI (en 0) 30 = nI wo from by rw [es1393]; rfl))) (by omega) (by omega)
            rw [hq2_1409, hq3_1409, hq4_1409, hq30_1409] at es1408
            refine hp_get hx hb hts ix12 hown hK hh (q := 0) rfl (hI.1 _ (by decide)) es1408 rfl 18 (by decide) (hts _ tw_897) (fun _ h9 => h9) rfl dX12_goThrough_148 ?_
            refine lv_lload_n hx hb dX12_goThrough_151 rfl (lv_at hl 0 rfl) ?_
            refine lv_lconst (v := 0) hx hb dX12_goThrough_152 (by decide) ?_
            refine W.lcmp hx hb dX12_goThrough_153 ?_
            refine lv_if_ne (tgt := 161) hx hb dX12_goThrough_154 (by decide) (fun c_1410 => ?_) (fun c_1410 => ?_)
            · refine lv_lconst (v := 0) hx hb dX12_goThrough_161 (by decide) ?_
              refine lv_ladd hx hb dX12_goThrough_162 ?_
              refine hp_put hx hb hts ix12 tyX12 tyX12_ok nmX12 hown hK hh (q := 0) rfl (hI.1 _ (by decide)) es1408 rfl 18 (by decide) (hts _ tw_897) (fun _ h9 => h9) rfl (ty := .long) (by decide +kernel) rfl rfl (Nat.le_of_ble_eq_true rfl) dX12_goThrough_163 (fun H locs en_1411 hen_1411 hh => ?_)
              have es1408_1411 : en_1411 0 = .inr (11, [.int fa_1408, .int hi_1408, .int (nI wd), .int (nI mo), .int (nI tb), .ref (ad 1), .ref (ad 2), .ref (ad 3), .ref (ad 4), .ref (ad 5), .ref (ad 6), .ref (ad 7), .ref (ad 8), .ref (ad 9), .int dp_1408, .long many_1408, .long grt_1408, .long lst_1408, .long (nou_1408 + 0), .ref (ad 10), .ref (ad 11), .ref (ad 12), .int rm_1408, .long rb_1408, .ref (ad 13), .int pr_1408, .ref (ad 14), .ref (ad 15), .ref (ad 16), .ref (ad 17), .int (nI wo), .ref (ad 18), .ref (ad 19)]) := by rw [hen_1411]; exact va_up_self _ _ _
              have hI_1411 : RX cy cs ad en_1411 := by rw [hen_1411]; exact upr_M hI_1407 ⟨fa_1408, hi_1408, wd, mo, tb, dp_1408, many_1408, grt_1408, lst_1408, (nou_1408 + 0), rm_1408, rb_1408, pr_1408, wo, rfl, hwd2, hwd3, hmo, htb, hwo⟩
              have hf_1411 : ∀ c, (c ≠ 0 ∧ c ≠ 6 ∧ c ≠ 7 ∧ c ≠ 10 ∧ c ≠ 11) → en_1411 c = en c := fun c hc => Eq.trans (show en_1411 c = en_1407 c from by rw [hen_1411, va_up_ne _ _ (by omega)]) (hf_1407 c hc)
              have hkp_1411 : KP en en_1411 := KP_fv hkp_1407 es1408 es1408_1411 hi_1408 (nI wd) (nI mo) (nI tb) pr_1408 (nI wo) rfl rfl rfl rfl rfl rfl rfl rfl rfl rfl rfl rfl
              have hsd_1411 : SD en_1402 en_1411 := SD_fv hsd_1407 es1408 es1408_1411 (show en_1411 7 = en_1407 7 from by rw [hen_1411, va_up_ne _ _ (by decide)]) dp_1408 rfl rfl
              refine lv_aload_n hx hb dX12_goThrough_166 rfl (lv_at hl 1 rfl) ?_
              refine lv_dup hx hb dX12_goThrough_167 rfl ?_
              refine hp_get hx hb hts ix12 hown hK hh (q := 0) rfl (hI.1 _ (by decide)) es1408_1411 rfl 15 (by decide) (hts _ tw_894) (fun _ h9 => h9) rfl dX12_goThrough_168 ?_
              refine lv_lconst (v := 1) hx hb dX12_goThrough_171 (by decide) ?_
              refine lv_ladd hx hb dX12_goThrough_172 ?_
              refine hp_put hx hb hts ix12 tyX12 tyX12_ok nmX12 hown hK hh (q := 0) rfl (hI.1 _ (by decide)) es1408_1411 rfl 15 (by decide) (hts _ tw_894) (fun _ h9 => h9) rfl (ty := .long) (by decide +kernel) rfl rfl (Nat.le_of_ble_eq_true rfl) dX12_goThrough_173 (fun H locs en_1412 hen_1412 hh => ?_)
              have es1408_1412 : en_1412 0 = .inr (11, [.int fa_1408, .int hi_1408, .int (nI wd), .int (nI mo), .int (nI tb), .ref (ad 1), .ref (ad 2), .ref (ad 3), .ref (ad 4), .ref (ad 5), .ref (ad 6), .ref (ad 7), .ref (ad 8), .ref (ad 9), .int dp_1408, .long (many_1408 + 1), .long grt_1408, .long lst_1408, .long (nou_1408 + 0), .ref (ad 10), .ref (ad 11), .ref (ad 12), .int rm_1408, .long rb_1408, .ref (ad 13), .int pr_1408, .ref (ad 14), .ref (ad 15), .ref (ad 16), .ref (ad 17), .int (nI wo), .ref (ad 18), .ref (ad 19)]) := by rw [hen_1412]; exact va_up_self _ _ _
              have hI_1412 : RX cy cs ad en_1412 := by rw [hen_1412]; exact upr_M hI_1411 ⟨fa_1408, hi_1408, wd, mo, tb, dp_1408, (many_1408 + 1), grt_1408, lst_1408, (nou_1408 + 0), rm_1408, rb_1408, pr_1408, wo, rfl, hwd2, hwd3, hmo, htb, hwo⟩
              have hf_1412 : ∀ c, (c ≠ 0 ∧ c ≠ 6 ∧ c ≠ 7 ∧ c ≠ 10 ∧ c ≠ 11) → en_1412 c = en c := fun c hc => Eq.trans (show en_1412 c = en_1411 c from by rw [hen_1412, va_up_ne _ _ (by omega)]) (hf_1411 c hc)
              have hkp_1412 : KP en en_1412 := KP_fv hkp_1411 es1408_1411 es1408_1412 hi_1408 (nI wd) (nI mo) (nI tb) pr_1408 (nI wo) rfl rfl rfl rfl rfl rfl rfl rfl rfl rfl rfl rfl
              have hsd_1412 : SD en_1402 en_1412 := SD_fv hsd_1411 es1408_1411 es1408_1412 (show en_1412 7 = en_1411 7 from by rw [hen_1412, va_up_ne _ _ (by decide)]) dp_1408 rfl rfl
              refine lv_goto (tgt := 28) hx hb dX12_goThrough_176 (by decide) ?_
              exact ih_1399 (mm1399 - 1) (n - 1) u1_1402 en_1412 ls H locs (by omega) hI_1412 hf_1412 (ND_sd hND_1402 hsd_1412) (by rw [hsd_1412.2]; have h1 := hnm_1402; have h2 := i1_1399; omega) (hkp_1412) (lv_sub hl [1, 2] rfl) hh
            · refine lv_lconst (v := 1) hx hb dX12_goThrough_157 (by decide) ?_
              refine lv_goto (tgt := 162) hx hb dX12_goThrough_158 (by decide) ?_
              refine lv_ladd hx hb dX12_goThrough_162 ?_
              refine hp_put hx hb hts ix12 tyX12 tyX12_ok nmX12 hown hK hh (q := 0) rfl (hI.1 _ (by decide)) es1408 rfl 18 (by decide) (hts _ tw_897) (fun _ h9 => h9) rfl (ty := .long) (by decide +kernel) rfl rfl (Nat.le_of_ble_eq_true rfl) dX12_goThrough_163 (fun H locs en_1413 hen_1413 hh => ?_)
              have es1408_1413 : en_1413 0 = .inr (11, [.int fa_1408, .int hi_1408, .int (nI wd), .int (nI mo), .int (nI tb), .ref (ad 1), .ref (ad 2), .ref (ad 3), .ref (ad 4), .ref (ad 5), .ref (ad 6), .ref (ad 7), .ref (ad 8), .ref (ad 9), .int dp_1408, .long many_1408, .long grt_1408, .long lst_1408, .long (nou_1408 + 1), .ref (ad 10), .ref (ad 11), .ref (ad 12), .int rm_1408, .long rb_1408, .ref (ad 13), .int pr_1408, .ref (ad 14), .ref (ad 15), .ref (ad 16), .ref (ad 17), .int (nI wo), .ref (ad 18), .ref (ad 19)]) := by rw [hen_1413]; exact va_up_self _ _ _
              have hI_1413 : RX cy cs ad en_1413 := by rw [hen_1413]; exact upr_M hI_1407 ⟨fa_1408, hi_1408, wd, mo, tb, dp_1408, many_1408, grt_1408, lst_1408, (nou_1408 + 1), rm_1408, rb_1408, pr_1408, wo, rfl, hwd2, hwd3, hmo, htb, hwo⟩
              have hf_1413 : ∀ c, (c ≠ 0 ∧ c ≠ 6 ∧ c ≠ 7 ∧ c ≠ 10 ∧ c ≠ 11) → en_1413 c = en c := fun c hc => Eq.trans (show en_1413 c = en_1407 c from by rw [hen_1413, va_up_ne _ _ (by omega)]) (hf_1407 c hc)
              have hkp_1413 : KP en en_1413 := KP_fv hkp_1407 es1408 es1408_1413 hi_1408 (nI wd) (nI mo) (nI tb) pr_1408 (nI wo) rfl rfl rfl rfl rfl rfl rfl rfl rfl rfl rfl rfl
              have hsd_1413 : SD en_1402 en_1413 := SD_fv hsd_1407 es1408 es1408_1413 (show en_1413 7 = en_1407 7 from by rw [hen_1413, va_up_ne _ _ (by decide)]) dp_1408 rfl rfl
              refine lv_aload_n hx hb dX12_goThrough_166 rfl (lv_at hl 1 rfl) ?_
              refine lv_dup hx hb dX12_goThrough_167 rfl ?_
              refine hp_get hx hb hts ix12 hown hK hh (q := 0) rfl (hI.1 _ (by decide)) es1408_1413 rfl 15 (by decide) (hts _ tw_894) (fun _ h9 => h9) rfl dX12_goThrough_168 ?_
              refine lv_lconst (v := 1) hx hb dX12_goThrough_171 (by decide) ?_
              refine lv_ladd hx hb dX12_goThrough_172 ?_
              refine hp_put hx hb hts ix12 tyX12 tyX12_ok nmX12 hown hK hh (q := 0) rfl (hI.1 _ (by decide)) es1408_1413 rfl 15 (by decide) (hts _ tw_894) (fun _ h9 => h9) rfl (ty := .long) (by decide +kernel) rfl rfl (Nat.le_of_ble_eq_true rfl) dX12_goThrough_173 (fun H locs en_1414 hen_1414 hh => ?_)
              have es1408_1414 : en_1414 0 = .inr (11, [.int fa_1408, .int hi_1408, .int (nI wd), .int (nI mo), .int (nI tb), .ref (ad 1), .ref (ad 2), .ref (ad 3), .ref (ad 4), .ref (ad 5), .ref (ad 6), .ref (ad 7), .ref (ad 8), .ref (ad 9), .int dp_1408, .long (many_1408 + 1), .long grt_1408, .long lst_1408, .long (nou_1408 + 1), .ref (ad 10), .ref (ad 11), .ref (ad 12), .int rm_1408, .long rb_1408, .ref (ad 13), .int pr_1408, .ref (ad 14), .ref (ad 15), .ref (ad 16), .ref (ad 17), .int (nI wo), .ref (ad 18), .ref (ad 19)]) := by rw [hen_1414]; exact va_up_self _ _ _
              have hI_1414 : RX cy cs ad en_1414 := by rw [hen_1414]; exact upr_M hI_1413 ⟨fa_1408, hi_1408, wd, mo, tb, dp_1408, (many_1408 + 1), grt_1408, lst_1408, (nou_1408 + 1), rm_1408, rb_1408, pr_1408, wo, rfl, hwd2, hwd3, hmo, htb, hwo⟩
              have hf_1414 : ∀ c, (c ≠ 0 ∧ c ≠ 6 ∧ c ≠ 7 ∧ c ≠ 10 ∧ c ≠ 11) → en_1414 c = en c := fun c hc => Eq.trans (show en_1414 c = en_1413 c from by rw [hen_1414, va_up_ne _ _ (by omega)]) (hf_1413 c hc)
              have hkp_1414 : KP en en_1414 := KP_fv hkp_1413 es1408_1413 es1408_1414 hi_1408 (nI wd) (nI mo) (nI tb) pr_1408 (nI wo) rfl rfl rfl rfl rfl rfl rfl rfl rfl rfl rfl rfl
              have hsd_1414 : SD en_1402 en_1414 := SD_fv hsd_1413 es1408_1413 es1408_1414 (show en_1414 7 = en_1413 7 from by rw [hen_1414, va_up_ne _ _ (by decide)]) dp_1408 rfl rfl
              refine lv_goto (tgt := 28) hx hb dX12_goThrough_176 (by decide) ?_
              exact ih_1399 (mm1399 - 1) (n - 1) u1_1402 en_1414 ls H locs (by omega) hI_1414 hf_1414 (ND_sd hND_1402 hsd_1414) (by rw [hsd_1414.2]; have h1 := hnm_1402; have h2 := i1_1399; omega) (hkp_1414) (lv_sub hl [1, 2] rfl) hh
          refine lv_aload_n hx hb dX12_goThrough_94 rfl (lv_at hl 1 rfl) ?_
          obtain ⟨fa_1415, hi_1415, wd_1415, mo_1415, tb_1415, dp_1415, many_1415, grt_1415, lst_1415, nou_1415, rm_1415, rb_1415, pr_1415, wo_1415, es1415, p0_1415, p1_1415, p2_1415, p3_1415, p4_1415⟩ := getr_M hI_1406
          have hq2_1416 : wd_1415 = wd := n_eq ((show nI wd_1415 = rdI (en_1406 0) 2 from by rw [es1415]; rfl).trans (hkp_1406.2.1.trans (show rdI (en 0) 2 = nI wd from by rw [es1393]; rfl))) (by omega) (by omega)
          have hq3_1416 : mo_1415 = mo := n_eq ((show nI mo_1415 = rdI (en_1406 0) 3 from by rw [es1415]; rfl).trans (hkp_1406.2.2.1.trans (show rdI (en 0) 3 = nI mo from by rw [es1393]; rfl))) (by omega) (by omega)
          have hq4_1416 : tb_1415 = tb := n_eq ((show nI tb_1415 = rdI (en_1406 0) 4 from by rw [es1415]; rfl).trans (hkp_1406.2.2.2.1.trans (show rdI (en 0) 4 = nI tb from by rw [es1393]; rfl))) (by omega) (by omega)
          have hq30_1416 : wo_1415 = wo := n_eq ((show nI wo_1415 = rdI (en_1406 0) 30 from by rw [es1415]; rfl).trans (hkp_1406.2.2.2.2.2.trans (show rdI (en 0) 30 = nI wo from by rw [es1393]; rfl))) (by omega) (by omega)
          rw [hq2_1416, hq3_1416, hq4_1416, hq30_1416] at es1415
          refine hp_get hx hb hts ix12 hown hK hh (q := 0) rfl (hI.1 _ (by decide)) es1415 rfl 15 (by decide) (hts _ tw_894) (fun _ h9 => h9) rfl dX12_goThrough_95 ?_
          refine lv_lconst (v := 0) hx hb dX12_goThrough_98 (by decide) ?_
          refine W.lcmp hx hb dX12_goThrough_99 ?_
          refine lv_if_eq (tgt := 112) hx hb dX12_goThrough_100 (by decide) (fun c_1417 => ?_) (fun c_1417 => ?_)
          · refine lv_aload_n hx hb dX12_goThrough_112 rfl (lv_at hl 1 rfl) ?_
            refine lv_lload_n hx hb dX12_goThrough_113 rfl (lv_at hl 0 rfl) ?_
            refine hp_put hx hb hts ix12 tyX12 tyX12_ok nmX12 hown hK hh (q := 0) rfl (hI.1 _ (by decide)) es1415 rfl 17 (by decide) (hts _ tw_896) (fun _ h9 => h9) rfl (ty := .long) (by decide +kernel) rfl rfl (Nat.le_of_ble_eq_true rfl) dX12_goThrough_114 (fun H locs en_1418 hen_1418 hh => ?_)
            have es1415_1418 : en_1418 0 = .inr (11, [.int fa_1415, .int hi_1415, .int (nI wd), .int (nI mo), .int (nI tb), .ref (ad 1), .ref (ad 2), .ref (ad 3), .ref (ad 4), .ref (ad 5), .ref (ad 6), .ref (ad 7), .ref (ad 8), .ref (ad 9), .int dp_1415, .long many_1415, .long grt_1415, .long r_1405, .long nou_1415, .ref (ad 10), .ref (ad 11), .ref (ad 12), .int rm_1415, .long rb_1415, .ref (ad 13), .int pr_1415, .ref (ad 14), .ref (ad 15), .ref (ad 16), .ref (ad 17), .int (nI wo), .ref (ad 18), .ref (ad 19)]) := by rw [hen_1418]; exact va_up_self _ _ _
            have hI_1418 : RX cy cs ad en_1418 := by rw [hen_1418]; exact upr_M hI_1406 ⟨fa_1415, hi_1415, wd, mo, tb, dp_1415, many_1415, grt_1415, r_1405, nou_1415, rm_1415, rb_1415, pr_1415, wo, rfl, hwd2, hwd3, hmo, htb, hwo⟩
            have hf_1418 : ∀ c, (c ≠ 0 ∧ c ≠ 6 ∧ c ≠ 7 ∧ c ≠ 10 ∧ c ≠ 11) → en_1418 c = en c := fun c hc => Eq.trans (show en_1418 c = en_1406 c from by rw [hen_1418, va_up_ne _ _ (by omega)]) (hf_1406 c hc)
            have hkp_1418 : KP en en_1418 := KP_fv hkp_1406 es1415 es1415_1418 hi_1415 (nI wd) (nI mo) (nI tb) pr_1415 (nI wo) rfl rfl rfl rfl rfl rfl rfl rfl rfl rfl rfl rfl
            have hsd_1418 : SD en_1402 en_1418 := SD_fv hsd_1406 es1415 es1415_1418 (show en_1418 7 = en_1406 7 from by rw [hen_1418, va_up_ne _ _ (by decide)]) dp_1415 rfl rfl
            refine lv_iconst (v := 0) hx hb dX12_goThrough_117 (by decide) ?_
            refine lv_istore (lv' := [(4, .int 0), (2, .long r_1405), (0, .ref (ad 0)), (1, .int (nI n))]) hx hb dX12_goThrough_118 hl (by decide) rfl (fun ls hl => ?_)
            have loop_1419 : ∀ (fu j1419 : Nat)  (en_1419 : Nat → va_E) (ls : Array Slot) (H : Heap) (locs : List Loc), 0 ≤ j1419 → j1419 ≤ n → n < j1419 + fu → RX cy cs ad en_1419 → (∀ c, (c ≠ 0 ∧ c ≠ 6 ∧ c ≠ 7 ∧ c ≠ 10 ∧ c ≠ 11) → en_1419 c = en c) → (KP en en_1419) → (SD en_1402 en_1419) → lv_has ls 5 [(4, .int (nI j1419)), (2, .long r_1405), (0, .ref (ad 0)), (1, .int (nI n))] → Hp D (Af cs ad sz) (Af cs ad sz) s.heap H locs cs ad en_1419 → W p l e (headSpec (Cond.code yX12_goThrough cX12_goThrough 5 none :: TB) (rmN 3)).room s m ([.ref (ad 0), .int (nI n)] : List Value).toArray below meth c H locs 0 0 (MQ below (va_Qv (S := Nat → va_E) (fun en1 => RX cy cs ad en1 ∧ (∀ c, (c ≠ 0 ∧ c ≠ 6 ∧ c ≠ 7 ∧ c ≠ 10 ∧ c ≠ 11) → en1 c = en c) ∧ KP en en1) (PostM D cs ad) (Af cs ad sz)) ([.ref (ad 0), .int (nI n)] : List Value).toArray s 0 0 (Af cs ad sz)) (F0 m 120 ls []) := by
              intro fu
              induction fu with
              | zero => intro j1419  en_1419 ls H locs h0 h1 h2; exact absurd h2 (by omega)
              | succ fu ih_1419 =>
                intro j1419  en_1419 ls H locs hj0_1419 hj_1419 hfu_1419 hI_1419 hf_1419 i0_1419 i1_1419 hl hh
                refine lv_iload hx hb dX12_goThrough_120 (lv_at hl 0 rfl) ?_
                refine lv_iload_n hx hb dX12_goThrough_122 rfl (lv_at hl 3 rfl) ?_
                refine lv_icmp_ge (tgt := 146) hx hb dX12_goThrough_123 (by decide) (fun c_1420 => ?_) (fun c_1420 => ?_)
                · have n_1420 : n ≤ j1419 := n_le (a := n) (b := j1419) c_1420 (by omega) (by omega)
                  exact join_1407  en_1419 ls _ _ hI_1419 hf_1419 i0_1419 i1_1419 (lv_sub hl [1, 2, 3] rfl) hh
                · have n_1420 : j1419 < n := n_nle (a := n) (b := j1419) c_1420 (by omega) (by omega)
                  refine lv_aload_n hx hb dX12_goThrough_126 rfl (lv_at hl 2 rfl) ?_
                  obtain ⟨fa_1421, hi_1421, wd_1421, mo_1421, tb_1421, dp_1421, many_1421, grt_1421, lst_1421, nou_1421, rm_1421, rb_1421, pr_1421, wo_1421, es1421, p0_1421, p1_1421, p2_1421, p3_1421, p4_1421⟩ := getr_M hI_1419
                  have hq2_1422 : wd_1421 = wd := n_eq ((show nI wd_1421 = rdI (en_1419 0) 2 from by rw [es1421]; rfl).trans (i0_1419.2.1.trans (show rdI (en 0) 2 = nI wd from by rw [es1393]; rfl))) (by omega) (by omega)
                  have hq3_1422 : mo_1421 = mo := n_eq ((show nI mo_1421 = rdI (en_1419 0) 3 from by rw [es1421]; rfl).trans (i0_1419.2.2.1.trans (show rdI (en 0) 3 = nI mo from by rw [es1393]; rfl))) (by omega) (by omega)
                  have hq4_1422 : tb_1421 = tb := n_eq ((show nI tb_1421 = rdI (en_1419 0) 4 from by rw [es1421]; rfl).trans (i0_1419.2.2.2.1.trans (show rdI (en 0) 4 = nI tb from by rw [es1393]; rfl))) (by omega) (by omega)
                  have hq30_1422 : wo_1421 = wo := n_eq ((show nI wo_1421 = rdI (en_1419 0) 30 from by rw [es1421]; rfl).trans (i0_1419.2.2.2.2.2.trans (show rdI (en 0) 30 = nI wo from by rw [es1393]; rfl))) (by omega) (by omega)
                  rw [hq2_1422, hq3_1422, hq4_1422, hq30_1422] at es1421
                  refine hp_get hx hb hts ix12 hown hK hh (q := 0) rfl (hI.1 _ (by decide)) es1421 rfl 20 (by decide) (hts _ tw_899) (fun _ h9 => h9) rfl dX12_goThrough_127 ?_
                  refine lv_iload hx hb dX12_goThrough_130 (lv_at hl 0 rfl) ?_
                  refine lv_aload_n hx hb dX12_goThrough_132 rfl (lv_at hl 2 rfl) ?_
                  refine hp_get hx hb hts ix12 hown hK hh (q := 0) rfl (hI.1 _ (by decide)) es1421 rfl 11 (by decide) (hts _ tw_890) (fun _ h9 => h9) rfl dX12_goThrough_133 ?_
                  refine lv_iload hx hb dX12_goThrough_136 (lv_at hl 0 rfl) ?_
                  obtain ⟨f_1423, es1423⟩ := getr_nw hI_1419
                  refine hp_iald hx hb hK hh (q := 7) rfl (hI.1 _ (by decide)) es1423 (vp_in_nI (n := j1419) (by omega) (by decide)) dX12_goThrough_138 ?_
                  rw [nI_clamp (n := j1419) (by omega)]
                  obtain ⟨v_1424, hv_1424, hve_1424⟩ := hall_1402 j1419 (by omega)
                  rw [show f_1423 j1419 = nI v_1424 from (show f_1423 j1419 = rdF (en_1402 7) j1419 from by rw [← i1_1419.2, es1423]; rfl).trans hve_1424]
                  obtain ⟨f_1425, es1425⟩ := getr_sm hI_1419
                  refine hp_iast hx hb hK hh (q := 11) rfl (hI.1 _ (by decide)) es1425 (vp_in_nI (n := j1419) (by omega) (by decide)) dX12_goThrough_139 (fun H locs en_1426 hen_1426 hh => ?_)
                  rw [nI_clamp (n := j1419) (by omega)] at hen_1426
                  have es1421_1426 : en_1426 0 = .inr (11, [.int fa_1421, .int hi_1421, .int (nI wd), .int (nI mo), .int (nI tb), .ref (ad 1), .ref (ad 2), .ref (ad 3), .ref (ad 4), .ref (ad 5), .ref (ad 6), .ref (ad 7), .ref (ad 8), .ref (ad 9), .int dp_1421, .long many_1421, .long grt_1421, .long lst_1421, .long nou_1421, .ref (ad 10), .ref (ad 11), .ref (ad 12), .int rm_1421, .long rb_1421, .ref (ad 13), .int pr_1421, .ref (ad 14), .ref (ad 15), .ref (ad 16), .ref (ad 17), .int (nI wo), .ref (ad 18), .ref (ad 19)]) := by rw [hen_1426, va_up_ne _ _ (by decide)]; exact es1421
                  have es1423_1426 : en_1426 7 = .inl (cy 0, 13, .inl f_1423) := by rw [hen_1426, va_up_ne _ _ (by decide)]; exact es1423
                  have es1425_1426 : en_1426 11 = .inl (cy 0, 12, .inl (upd f_1425 j1419 (nI v_1424))) := by rw [hen_1426]; exact va_up_self _ _ _
                  have hI_1426 : RX cy cs ad en_1426 := by rw [hen_1426]; exact upr_sm hI_1419 ⟨(upd f_1425 j1419 (nI v_1424)), rfl⟩
                  have hf_1426 : ∀ c, (c ≠ 0 ∧ c ≠ 6 ∧ c ≠ 7 ∧ c ≠ 10 ∧ c ≠ 11) → en_1426 c = en c := fun c hc => Eq.trans (show en_1426 c = en_1419 c from by rw [hen_1426, va_up_ne _ _ (by omega)]) (hf_1419 c hc)
                  have hkp_1426 : KP en en_1426 := KP_same i0_1419 (show en_1426 0 = en_1419 0 from by rw [hen_1426, va_up_ne _ _ (by decide)])
                  have hsd_1426 : SD en_1402 en_1426 := SD_same i1_1419 (show en_1426 0 = en_1419 0 from by rw [hen_1426, va_up_ne _ _ (by decide)]) (show en_1426 7 = en_1419 7 from by rw [hen_1426, va_up_ne _ _ (by decide)])
                  refine lv_iinc (v := (nI (j1419 + 1))) (lv' := [(4, .int (nI (j1419 + 1))), (2, .long r_1405), (0, .ref (ad 0)), (1, .int (nI n))]) hx hb dX12_goThrough_140 hl (k := 0) rfl (nI_1 _) (by decide) rfl (fun ls hl => ?_)
                  refine lv_goto (tgt := 120) hx hb dX12_goThrough_143 (by decide) ?_
                  exact ih_1419 ((j1419 + 1))  en_1426 ls H locs (by omega) (by omega) (by omega) hI_1426 hf_1426 (hkp_1426) (hsd_1426) (lv_sub hl [0, 1, 2, 3] rfl) hh
            exact loop_1419 (n + 1) 0  en_1418 ls _ _ (Nat.le_refl _) (by omega) (by omega) hI_1418 hf_1418 (hkp_1418) (hsd_1418) (lv_sub hl [0, 1, 2, 3] rfl) hh
          · refine lv_lload_n hx hb dX12_goThrough_103 rfl (lv_at hl 0 rfl) ?_
            refine lv_aload_n hx hb dX12_goThrough_104 rfl (lv_at hl 1 rfl) ?_
            refine hp_get hx hb hts ix12 hown hK hh (q := 0) rfl (hI.1 _ (by decide)) es1415 rfl 17 (by decide) (hts _ tw_896) (fun _ h9 => h9) rfl dX12_goThrough_105 ?_
            refine W.lcmp hx hb dX12_goThrough_108 ?_
            refine lv_if_ge (tgt := 146) hx hb dX12_goThrough_109 (by decide) (fun c_1427 => ?_) (fun c_1427 => ?_)
            · exact join_1407  en_1406 ls _ _ hI_1406 hf_1406 hkp_1406 hsd_1406 (lv_sub hl [0, 1, 2] rfl) hh
            · refine lv_aload_n hx hb dX12_goThrough_112 rfl (lv_at hl 1 rfl) ?_
              refine lv_lload_n hx hb dX12_goThrough_113 rfl (lv_at hl 0 rfl) ?_
              refine hp_put hx hb hts ix12 tyX12 tyX12_ok nmX12 hown hK hh (q := 0) rfl (hI.1 _ (by decide)) es1415 rfl 17 (by decide) (hts _ tw_896) (fun _ h9 => h9) rfl (ty := .long) (by decide +kernel) rfl rfl (Nat.le_of_ble_eq_true rfl) dX12_goThrough_114 (fun H locs en_1428 hen_1428 hh => ?_)
              have es1415_1428 : en_1428 0 = .inr (11, [.int fa_1415, .int hi_1415, .int (nI wd), .int (nI mo), .int (nI tb), .ref (ad 1), .ref (ad 2), .ref (ad 3), .ref (ad 4), .ref (ad 5), .ref (ad 6), .ref (ad 7), .ref (ad 8), .ref (ad 9), .int dp_1415, .long many_1415, .long grt_1415, .long r_1405, .long nou_1415, .ref (ad 10), .ref (ad 11), .ref (ad 12), .int rm_1415, .long rb_1415, .ref (ad 13), .int pr_1415, .ref (ad 14), .ref (ad 15), .ref (ad 16), .ref (ad 17), .int (nI wo), .ref (ad 18), .ref (ad 19)]) := by rw [hen_1428]; exact va_up_self _ _ _
              have hI_1428 : RX cy cs ad en_1428 := by rw [hen_1428]; exact upr_M hI_1406 ⟨fa_1415, hi_1415, wd, mo, tb, dp_1415, many_1415, grt_1415, r_1405, nou_1415, rm_1415, rb_1415, pr_1415, wo, rfl, hwd2, hwd3, hmo, htb, hwo⟩
              have hf_1428 : ∀ c, (c ≠ 0 ∧ c ≠ 6 ∧ c ≠ 7 ∧ c ≠ 10 ∧ c ≠ 11) → en_1428 c = en c := fun c hc => Eq.trans (show en_1428 c = en_1406 c from by rw [hen_1428, va_up_ne _ _ (by omega)]) (hf_1406 c hc)
              have hkp_1428 : KP en en_1428 := KP_fv hkp_1406 es1415 es1415_1428 hi_1415 (nI wd) (nI mo) (nI tb) pr_1415 (nI wo) rfl rfl rfl rfl rfl rfl rfl rfl rfl rfl rfl rfl
              have hsd_1428 : SD en_1402 en_1428 := SD_fv hsd_1406 es1415 es1415_1428 (show en_1428 7 = en_1406 7 from by rw [hen_1428, va_up_ne _ _ (by decide)]) dp_1415 rfl rfl
              refine lv_iconst (v := 0) hx hb dX12_goThrough_117 (by decide) ?_
              refine lv_istore (lv' := [(4, .int 0), (2, .long r_1405), (0, .ref (ad 0)), (1, .int (nI n))]) hx hb dX12_goThrough_118 hl (by decide) rfl (fun ls hl => ?_)
              have loop_1429 : ∀ (fu j1429 : Nat)  (en_1429 : Nat → va_E) (ls : Array Slot) (H : Heap) (locs : List Loc), 0 ≤ j1429 → j1429 ≤ n → n < j1429 + fu → RX cy cs ad en_1429 → (∀ c, (c ≠ 0 ∧ c ≠ 6 ∧ c ≠ 7 ∧ c ≠ 10 ∧ c ≠ 11) → en_1429 c = en c) → (KP en en_1429) → (SD en_1402 en_1429) → lv_has ls 5 [(4, .int (nI j1429)), (2, .long r_1405), (0, .ref (ad 0)), (1, .int (nI n))] → Hp D (Af cs ad sz) (Af cs ad sz) s.heap H locs cs ad en_1429 → W p l e (headSpec (Cond.code yX12_goThrough cX12_goThrough 5 none :: TB) (rmN 3)).room s m ([.ref (ad 0), .int (nI n)] : List Value).toArray below meth c H locs 0 0 (MQ below (va_Qv (S := Nat → va_E) (fun en1 => RX cy cs ad en1 ∧ (∀ c, (c ≠ 0 ∧ c ≠ 6 ∧ c ≠ 7 ∧ c ≠ 10 ∧ c ≠ 11) → en1 c = en c) ∧ KP en en1) (PostM D cs ad) (Af cs ad sz)) ([.ref (ad 0), .int (nI n)] : List Value).toArray s 0 0 (Af cs ad sz)) (F0 m 120 ls []) := by
                intro fu
                induction fu with
                | zero => intro j1429  en_1429 ls H locs h0 h1 h2; exact absurd h2 (by omega)
                | succ fu ih_1429 =>
                  intro j1429  en_1429 ls H locs hj0_1429 hj_1429 hfu_1429 hI_1429 hf_1429 i0_1429 i1_1429 hl hh
                  refine lv_iload hx hb dX12_goThrough_120 (lv_at hl 0 rfl) ?_
                  refine lv_iload_n hx hb dX12_goThrough_122 rfl (lv_at hl 3 rfl) ?_
                  refine lv_icmp_ge (tgt := 146) hx hb dX12_goThrough_123 (by decide) (fun c_1430 => ?_) (fun c_1430 => ?_)
                  · have n_1430 : n ≤ j1429 := n_le (a := n) (b := j1429) c_1430 (by omega) (by omega)
                    exact join_1407  en_1429 ls _ _ hI_1429 hf_1429 i0_1429 i1_1429 (lv_sub hl [1, 2, 3] rfl) hh
                  · have n_1430 : j1429 < n := n_nle (a := n) (b := j1429) c_1430 (by omega) (by omega)
                    refine lv_aload_n hx hb dX12_goThrough_126 rfl (lv_at hl 2 rfl) ?_
                    obtain ⟨fa_1431, hi_1431, wd_1431, mo_1431, tb_1431, dp_1431, many_1431, grt_1431, lst_1431, nou_1431, rm_1431, rb_1431, pr_1431, wo_1431, es1431, p0_1431, p1_1431, p2_1431, p3_1431, p4_1431⟩ := getr_M hI_1429
                    have hq2_1432 : wd_1431 = wd := n_eq ((show nI wd_1431 = rdI (en_1429 0) 2 from by rw [es1431]; rfl).trans (i0_1429.2.1.trans (show rdI (en 0) 2 = nI wd from by rw [es1393]; rfl))) (by omega) (by omega)
                    have hq3_1432 : mo_1431 = mo := n_eq ((show nI mo_1431 = rdI (en_1429 0) 3 from by rw [es1431]; rfl).trans (i0_1429.2.2.1.trans (show rdI (en 0) 3 = nI mo from by rw [es1393]; rfl))) (by omega) (by omega)
                    have hq4_1432 : tb_1431 = tb := n_eq ((show nI tb_1431 = rdI (en_1429 0) 4 from by rw [es1431]; rfl).trans (i0_1429.2.2.2.1.trans (show rdI (en 0) 4 = nI tb from by rw [es1393]; rfl))) (by omega) (by omega)
                    have hq30_1432 : wo_1431 = wo := n_eq ((show nI wo_1431 = rdI (en_1429 0) 30 from by rw [es1431]; rfl).trans (i0_1429.2.2.2.2.2.trans (show rdI (en 0) 30 = nI wo from by rw [es1393]; rfl))) (by omega) (by omega)
                    rw [hq2_1432, hq3_1432, hq4_1432, hq30_1432] at es1431
                    refine hp_get hx hb hts ix12 hown hK hh (q := 0) rfl (hI.1 _ (by decide)) es1431 rfl 20 (by decide) (hts _ tw_899) (fun _ h9 => h9) rfl dX12_goThrough_127 ?_
                    refine lv_iload hx hb dX12_goThrough_130 (lv_at hl 0 rfl) ?_
                    refine lv_aload_n hx hb dX12_goThrough_132 rfl (lv_at hl 2 rfl) ?_
                    refine hp_get hx hb hts ix12 hown hK hh (q := 0) rfl (hI.1 _ (by decide)) es1431 rfl 11 (by decide) (hts _ tw_890) (fun _ h9 => h9) rfl dX12_goThrough_133 ?_
                    refine lv_iload hx hb dX12_goThrough_136 (lv_at hl 0 rfl) ?_
                    obtain ⟨f_1433, es1433⟩ := getr_nw hI_1429
                    refine hp_iald hx hb hK hh (q := 7) rfl (hI.1 _ (by decide)) es1433 (vp_in_nI (n := j1429) (by omega) (by decide)) dX12_goThrough_138 ?_
                    rw [nI_clamp (n := j1429) (by omega)]
                    obtain ⟨v_1434, hv_1434, hve_1434⟩ := hall_1402 j1429 (by omega)
                    rw [show f_1433 j1429 = nI v_1434 from (show f_1433 j1429 = rdF (en_1402 7) j1429 from by rw [← i1_1429.2, es1433]; rfl).trans hve_1434]
                    obtain ⟨f_1435, es1435⟩ := getr_sm hI_1429
                    refine hp_iast hx hb hK hh (q := 11) rfl (hI.1 _ (by decide)) es1435 (vp_in_nI (n := j1429) (by omega) (by decide)) dX12_goThrough_139 (fun H locs en_1436 hen_1436 hh => ?_)
                    rw [nI_clamp (n := j1429) (by omega)] at hen_1436
                    have es1431_1436 : en_1436 0 = .inr (11, [.int fa_1431, .int hi_1431, .int (nI wd), .int (nI mo), .int (nI tb), .ref (ad 1), .ref (ad 2), .ref (ad 3), .ref (ad 4), .ref (ad 5), .ref (ad 6), .ref (ad 7), .ref (ad 8), .ref (ad 9), .int dp_1431, .long many_1431, .long grt_1431, .long lst_1431, .long nou_1431, .ref (ad 10), .ref (ad 11), .ref (ad 12), .int rm_1431, .long rb_1431, .ref (ad 13), .int pr_1431, .ref (ad 14), .ref (ad 15), .ref (ad 16), .ref (ad 17), .int (nI wo), .ref (ad 18), .ref (ad 19)]) := by rw [hen_1436, va_up_ne _ _ (by decide)]; exact es1431
                    have es1433_1436 : en_1436 7 = .inl (cy 0, 13, .inl f_1433) := by rw [hen_1436, va_up_ne _ _ (by decide)]; exact es1433
                    have es1435_1436 : en_1436 11 = .inl (cy 0, 12, .inl (upd f_1435 j1429 (nI v_1434))) := by rw [hen_1436]; exact va_up_self _ _ _
                    have hI_1436 : RX cy cs ad en_1436 := by rw [hen_1436]; exact upr_sm hI_1429 ⟨(upd f_1435 j1429 (nI v_1434)), rfl⟩
                    have hf_1436 : ∀ c, (c ≠ 0 ∧ c ≠ 6 ∧ c ≠ 7 ∧ c ≠ 10 ∧ c ≠ 11) → en_1436 c = en c := fun c hc => Eq.trans (show en_1436 c = en_1429 c from by rw [hen_1436, va_up_ne _ _ (by omega)]) (hf_1429 c hc)
                    have hkp_1436 : KP en en_1436 := KP_same i0_1429 (show en_1436 0 = en_1429 0 from by rw [hen_1436, va_up_ne _ _ (by decide)])
                    have hsd_1436 : SD en_1402 en_1436 := SD_same i1_1429 (show en_1436 0 = en_1429 0 from by rw [hen_1436, va_up_ne _ _ (by decide)]) (show en_1436 7 = en_1429 7 from by rw [hen_1436, va_up_ne _ _ (by decide)])
                    refine lv_iinc (v := (nI (j1429 + 1))) (lv' := [(4, .int (nI (j1429 + 1))), (2, .long r_1405), (0, .ref (ad 0)), (1, .int (nI n))]) hx hb dX12_goThrough_140 hl (k := 0) rfl (nI_1 _) (by decide) rfl (fun ls hl => ?_)
                    refine lv_goto (tgt := 120) hx hb dX12_goThrough_143 (by decide) ?_
                    exact ih_1429 ((j1429 + 1))  en_1436 ls H locs (by omega) (by omega) (by omega) hI_1436 hf_1436 (hkp_1436) (hsd_1436) (lv_sub hl [0, 1, 2, 3] rfl) hh
              exact loop_1429 (n + 1) 0  en_1428 ls _ _ (Nat.le_refl _) (by omega) (by omega) hI_1428 hf_1428 (hkp_1428) (hsd_1428) (lv_sub hl [0, 1, 2, 3] rfl) hh
        refine lv_aload_n hx hb dX12_goThrough_42 rfl (lv_at hl 1 rfl) ?_
        refine hp_get hx hb hts ix12 hown hK hh (q := 0) rfl (hI.1 _ (by decide)) es1403 rfl 15 (by decide) (hts _ tw_894) (fun _ h9 => h9) rfl dX12_goThrough_43 ?_
        refine lv_lconst (v := 0) hx hb dX12_goThrough_46 (by decide) ?_
        refine W.lcmp hx hb dX12_goThrough_47 ?_
        refine lv_if_eq (tgt := 60) hx hb dX12_goThrough_48 (by decide) (fun c_1437 => ?_) (fun c_1437 => ?_)
        · refine lv_aload_n hx hb dX12_goThrough_60 rfl (lv_at hl 1 rfl) ?_
          refine lv_lload_n hx hb dX12_goThrough_61 rfl (lv_at hl 0 rfl) ?_
          refine hp_put hx hb hts ix12 tyX12 tyX12_ok nmX12 hown hK hh (q := 0) rfl (hI.1 _ (by decide)) es1403 rfl 16 (by decide) (hts _ tw_895) (fun _ h9 => h9) rfl (ty := .long) (by decide +kernel) rfl rfl (Nat.le_of_ble_eq_true rfl) dX12_goThrough_62 (fun H locs en_1438 hen_1438 hh => ?_)
          have es1403_1438 : en_1438 0 = .inr (11, [.int fa_1403, .int hi_1403, .int (nI wd), .int (nI mo), .int (nI tb), .ref (ad 1), .ref (ad 2), .ref (ad 3), .ref (ad 4), .ref (ad 5), .ref (ad 6), .ref (ad 7), .ref (ad 8), .ref (ad 9), .int dp_1403, .long many_1403, .long r_1405, .long lst_1403, .long nou_1403, .ref (ad 10), .ref (ad 11), .ref (ad 12), .int rm_1403, .long rb_1403, .ref (ad 13), .int pr_1403, .ref (ad 14), .ref (ad 15), .ref (ad 16), .ref (ad 17), .int (nI wo), .ref (ad 18), .ref (ad 19)]) := by rw [hen_1438]; exact va_up_self _ _ _
          have hI_1438 : RX cy cs ad en_1438 := by rw [hen_1438]; exact upr_M hI_1402 ⟨fa_1403, hi_1403, wd, mo, tb, dp_1403, many_1403, r_1405, lst_1403, nou_1403, rm_1403, rb_1403, pr_1403, wo, rfl, hwd2, hwd3, hmo, htb, hwo⟩
          have hf_1438 : ∀ c, (c ≠ 0 ∧ c ≠ 6 ∧ c ≠ 7 ∧ c ≠ 10 ∧ c ≠ 11) → en_1438 c = en c := fun c hc => Eq.trans (show en_1438 c = en_1402 c from by rw [hen_1438, va_up_ne _ _ (by omega)]) (hf_1402 c hc)
          have hkp_1438 : KP en en_1438 := KP_fv hkp_1402 es1403 es1403_1438 hi_1403 (nI wd) (nI mo) (nI tb) pr_1403 (nI wo) rfl rfl rfl rfl rfl rfl rfl rfl rfl rfl rfl rfl
          have hsd_1438 : SD en_1402 en_1438 := SD_fv (SD_rf en_1402) es1403 es1403_1438 (show en_1438 7 = en_1402 7 from by rw [hen_1438, va_up_ne _ _ (by decide)]) dp_1403 rfl rfl
          refine lv_iconst (v := 0) hx hb dX12_goThrough_65 (by decide) ?_
          refine lv_istore (lv' := [(4, .int 0), (2, .long r_1405), (0, .ref (ad 0)), (1, .int (nI n))]) hx hb dX12_goThrough_66 hl (by decide) rfl (fun ls hl => ?_)
          have loop_1439 : ∀ (fu j1439 : Nat)  (en_1439 : Nat → va_E) (ls : Array Slot) (H : Heap) (locs : List Loc), 0 ≤ j1439 → j1439 ≤ n → n < j1439 + fu → RX cy cs ad en_1439 → (∀ c, (c ≠ 0 ∧ c ≠ 6 ∧ c ≠ 7 ∧ c ≠ 10 ∧ c ≠ 11) → en_1439 c = en c) → (KP en en_1439) → (SD en_1402 en_1439) → lv_has ls 5 [(4, .int (nI j1439)), (2, .long r_1405), (0, .ref (ad 0)), (1, .int (nI n))] → Hp D (Af cs ad sz) (Af cs ad sz) s.heap H locs cs ad en_1439 → W p l e (headSpec (Cond.code yX12_goThrough cX12_goThrough 5 none :: TB) (rmN 3)).room s m ([.ref (ad 0), .int (nI n)] : List Value).toArray below meth c H locs 0 0 (MQ below (va_Qv (S := Nat → va_E) (fun en1 => RX cy cs ad en1 ∧ (∀ c, (c ≠ 0 ∧ c ≠ 6 ∧ c ≠ 7 ∧ c ≠ 10 ∧ c ≠ 11) → en1 c = en c) ∧ KP en en1) (PostM D cs ad) (Af cs ad sz)) ([.ref (ad 0), .int (nI n)] : List Value).toArray s 0 0 (Af cs ad sz)) (F0 m 68 ls []) := by
            intro fu
            induction fu with
            | zero => intro j1439  en_1439 ls H locs h0 h1 h2; exact absurd h2 (by omega)
            | succ fu ih_1439 =>
              intro j1439  en_1439 ls H locs hj0_1439 hj_1439 hfu_1439 hI_1439 hf_1439 i0_1439 i1_1439 hl hh
              refine lv_iload hx hb dX12_goThrough_68 (lv_at hl 0 rfl) ?_
              refine lv_iload_n hx hb dX12_goThrough_70 rfl (lv_at hl 3 rfl) ?_
              refine lv_icmp_ge (tgt := 94) hx hb dX12_goThrough_71 (by decide) (fun c_1440 => ?_) (fun c_1440 => ?_)
              · have n_1440 : n ≤ j1439 := n_le (a := n) (b := j1439) c_1440 (by omega) (by omega)
                exact join_1406  en_1439 ls _ _ hI_1439 hf_1439 i0_1439 i1_1439 (lv_sub hl [1, 2, 3] rfl) hh
              · have n_1440 : j1439 < n := n_nle (a := n) (b := j1439) c_1440 (by omega) (by omega)
                refine lv_aload_n hx hb dX12_goThrough_74 rfl (lv_at hl 2 rfl) ?_
                obtain ⟨fa_1441, hi_1441, wd_1441, mo_1441, tb_1441, dp_1441, many_1441, grt_1441, lst_1441, nou_1441, rm_1441, rb_1441, pr_1441, wo_1441, es1441, p0_1441, p1_1441, p2_1441, p3_1441, p4_1441⟩ := getr_M hI_1439
                have hq2_1442 : wd_1441 = wd := n_eq ((show nI wd_1441 = rdI (en_1439 0) 2 from by rw [es1441]; rfl).trans (i0_1439.2.1.trans (show rdI (en 0) 2 = nI wd from by rw [es1393]; rfl))) (by omega) (by omega)
                have hq3_1442 : mo_1441 = mo := n_eq ((show nI mo_1441 = rdI (en_1439 0) 3 from by rw [es1441]; rfl).trans (i0_1439.2.2.1.trans (show rdI (en 0) 3 = nI mo from by rw [es1393]; rfl))) (by omega) (by omega)
                have hq4_1442 : tb_1441 = tb := n_eq ((show nI tb_1441 = rdI (en_1439 0) 4 from by rw [es1441]; rfl).trans (i0_1439.2.2.2.1.trans (show rdI (en 0) 4 = nI tb from by rw [es1393]; rfl))) (by omega) (by omega)
                have hq30_1442 : wo_1441 = wo := n_eq ((show nI wo_1441 = rdI (en_1439 0) 30 from by rw [es1441]; rfl).trans (i0_1439.2.2.2.2.2.trans (show rdI (en 0) 30 = nI wo from by rw [es1393]; rfl))) (by omega) (by omega)
                rw [hq2_1442, hq3_1442, hq4_1442, hq30_1442] at es1441
                refine hp_get hx hb hts ix12 hown hK hh (q := 0) rfl (hI.1 _ (by decide)) es1441 rfl 19 (by decide) (hts _ tw_898) (fun _ h9 => h9) rfl dX12_goThrough_75 ?_
                refine lv_iload hx hb dX12_goThrough_78 (lv_at hl 0 rfl) ?_
                refine lv_aload_n hx hb dX12_goThrough_80 rfl (lv_at hl 2 rfl) ?_
                refine hp_get hx hb hts ix12 hown hK hh (q := 0) rfl (hI.1 _ (by decide)) es1441 rfl 11 (by decide) (hts _ tw_890) (fun _ h9 => h9) rfl dX12_goThrough_81 ?_
                refine lv_iload hx hb dX12_goThrough_84 (lv_at hl 0 rfl) ?_
                obtain ⟨f_1443, es1443⟩ := getr_nw hI_1439
                refine hp_iald hx hb hK hh (q := 7) rfl (hI.1 _ (by decide)) es1443 (vp_in_nI (n := j1439) (by omega) (by decide)) dX12_goThrough_86 ?_
                rw [nI_clamp (n := j1439) (by omega)]
                obtain ⟨v_1444, hv_1444, hve_1444⟩ := hall_1402 j1439 (by omega)
                rw [show f_1443 j1439 = nI v_1444 from (show f_1443 j1439 = rdF (en_1402 7) j1439 from by rw [← i1_1439.2, es1443]; rfl).trans hve_1444]
                obtain ⟨f_1445, es1445⟩ := getr_gt hI_1439
                refine hp_iast hx hb hK hh (q := 10) rfl (hI.1 _ (by decide)) es1445 (vp_in_nI (n := j1439) (by omega) (by decide)) dX12_goThrough_87 (fun H locs en_1446 hen_1446 hh => ?_)
                rw [nI_clamp (n := j1439) (by omega)] at hen_1446
                have es1441_1446 : en_1446 0 = .inr (11, [.int fa_1441, .int hi_1441, .int (nI wd), .int (nI mo), .int (nI tb), .ref (ad 1), .ref (ad 2), .ref (ad 3), .ref (ad 4), .ref (ad 5), .ref (ad 6), .ref (ad 7), .ref (ad 8), .ref (ad 9), .int dp_1441, .long many_1441, .long grt_1441, .long lst_1441, .long nou_1441, .ref (ad 10), .ref (ad 11), .ref (ad 12), .int rm_1441, .long rb_1441, .ref (ad 13), .int pr_1441, .ref (ad 14), .ref (ad 15), .ref (ad 16), .ref (ad 17), .int (nI wo), .ref (ad 18), .ref (ad 19)]) := by rw [hen_1446, va_up_ne _ _ (by decide)]; exact es1441
                have es1443_1446 : en_1446 7 = .inl (cy 0, 13, .inl f_1443) := by rw [hen_1446, va_up_ne _ _ (by decide)]; exact es1443
                have es1445_1446 : en_1446 10 = .inl (cy 0, 12, .inl (upd f_1445 j1439 (nI v_1444))) := by rw [hen_1446]; exact va_up_self _ _ _
                have hI_1446 : RX cy cs ad en_1446 := by rw [hen_1446]; exact upr_gt hI_1439 ⟨(upd f_1445 j1439 (nI v_1444)), rfl⟩
                have hf_1446 : ∀ c, (c ≠ 0 ∧ c ≠ 6 ∧ c ≠ 7 ∧ c ≠ 10 ∧ c ≠ 11) → en_1446 c = en c := fun c hc => Eq.trans (show en_1446 c = en_1439 c from by rw [hen_1446, va_up_ne _ _ (by omega)]) (hf_1439 c hc)
                have hkp_1446 : KP en en_1446 := KP_same i0_1439 (show en_1446 0 = en_1439 0 from by rw [hen_1446, va_up_ne _ _ (by decide)])
                have hsd_1446 : SD en_1402 en_1446 := SD_same i1_1439 (show en_1446 0 = en_1439 0 from by rw [hen_1446, va_up_ne _ _ (by decide)]) (show en_1446 7 = en_1439 7 from by rw [hen_1446, va_up_ne _ _ (by decide)])
                refine lv_iinc (v := (nI (j1439 + 1))) (lv' := [(4, .int (nI (j1439 + 1))), (2, .long r_1405), (0, .ref (ad 0)), (1, .int (nI n))]) hx hb dX12_goThrough_88 hl (k := 0) rfl (nI_1 _) (by decide) rfl (fun ls hl => ?_)
                refine lv_goto (tgt := 68) hx hb dX12_goThrough_91 (by decide) ?_
                exact ih_1439 ((j1439 + 1))  en_1446 ls H locs (by omega) (by omega) (by omega) hI_1446 hf_1446 (hkp_1446) (hsd_1446) (lv_sub hl [0, 1, 2, 3] rfl) hh
          exact loop_1439 (n + 1) 0  en_1438 ls _ _ (Nat.le_refl _) (by omega) (by omega) hI_1438 hf_1438 (hkp_1438) (hsd_1438) (lv_sub hl [0, 1, 2, 3] rfl) hh
        · refine lv_lload_n hx hb dX12_goThrough_51 rfl (lv_at hl 0 rfl) ?_
          refine lv_aload_n hx hb dX12_goThrough_52 rfl (lv_at hl 1 rfl) ?_
          refine hp_get hx hb hts ix12 hown hK hh (q := 0) rfl (hI.1 _ (by decide)) es1403 rfl 16 (by decide) (hts _ tw_895) (fun _ h9 => h9) rfl dX12_goThrough_53 ?_
          refine W.lcmp hx hb dX12_goThrough_56 ?_
          refine lv_if_le (tgt := 94) hx hb dX12_goThrough_57 (by decide) (fun c_1447 => ?_) (fun c_1447 => ?_)
          · exact join_1406  en_1402 ls _ _ hI_1402 hf_1402 hkp_1402 (SD_rf en_1402) (lv_sub hl [0, 1, 2] rfl) hh
          · refine lv_aload_n hx hb dX12_goThrough_60 rfl (lv_at hl 1 rfl) ?_
            refine lv_lload_n hx hb dX12_goThrough_61 rfl (lv_at hl 0 rfl) ?_
            refine hp_put hx hb hts ix12 tyX12 tyX12_ok nmX12 hown hK hh (q := 0) rfl (hI.1 _ (by decide)) es1403 rfl 16 (by decide) (hts _ tw_895) (fun _ h9 => h9) rfl (ty := .long) (by decide +kernel) rfl rfl (Nat.le_of_ble_eq_true rfl) dX12_goThrough_62 (fun H locs en_1448 hen_1448 hh => ?_)
            have es1403_1448 : en_1448 0 = .inr (11, [.int fa_1403, .int hi_1403, .int (nI wd), .int (nI mo), .int (nI tb), .ref (ad 1), .ref (ad 2), .ref (ad 3), .ref (ad 4), .ref (ad 5), .ref (ad 6), .ref (ad 7), .ref (ad 8), .ref (ad 9), .int dp_1403, .long many_1403, .long r_1405, .long lst_1403, .long nou_1403, .ref (ad 10), .ref (ad 11), .ref (ad 12), .int rm_1403, .long rb_1403, .ref (ad 13), .int pr_1403, .ref (ad 14), .ref (ad 15), .ref (ad 16), .ref (ad 17), .int (nI wo), .ref (ad 18), .ref (ad 19)]) := by rw [hen_1448]; exact va_up_self _ _ _
            have hI_1448 : RX cy cs ad en_1448 := by rw [hen_1448]; exact upr_M hI_1402 ⟨fa_1403, hi_1403, wd, mo, tb, dp_1403, many_1403, r_1405, lst_1403, nou_1403, rm_1403, rb_1403, pr_1403, wo, rfl, hwd2, hwd3, hmo, htb, hwo⟩
            have hf_1448 : ∀ c, (c ≠ 0 ∧ c ≠ 6 ∧ c ≠ 7 ∧ c ≠ 10 ∧ c ≠ 11) → en_1448 c = en c := fun c hc => Eq.trans (show en_1448 c = en_1402 c from by rw [hen_1448, va_up_ne _ _ (by omega)]) (hf_1402 c hc)
            have hkp_1448 : KP en en_1448 := KP_fv hkp_1402 es1403 es1403_1448 hi_1403 (nI wd) (nI mo) (nI tb) pr_1403 (nI wo) rfl rfl rfl rfl rfl rfl rfl rfl rfl rfl rfl rfl
            have hsd_1448 : SD en_1402 en_1448 := SD_fv (SD_rf en_1402) es1403 es1403_1448 (show en_1448 7 = en_1402 7 from by rw [hen_1448, va_up_ne _ _ (by decide)]) dp_1403 rfl rfl
            refine lv_iconst (v := 0) hx hb dX12_goThrough_65 (by decide) ?_
            refine lv_istore (lv' := [(4, .int 0), (2, .long r_1405), (0, .ref (ad 0)), (1, .int (nI n))]) hx hb dX12_goThrough_66 hl (by decide) rfl (fun ls hl => ?_)
            have loop_1449 : ∀ (fu j1449 : Nat)  (en_1449 : Nat → va_E) (ls : Array Slot) (H : Heap) (locs : List Loc), 0 ≤ j1449 → j1449 ≤ n → n < j1449 + fu → RX cy cs ad en_1449 → (∀ c, (c ≠ 0 ∧ c ≠ 6 ∧ c ≠ 7 ∧ c ≠ 10 ∧ c ≠ 11) → en_1449 c = en c) → (KP en en_1449) → (SD en_1402 en_1449) → lv_has ls 5 [(4, .int (nI j1449)), (2, .long r_1405), (0, .ref (ad 0)), (1, .int (nI n))] → Hp D (Af cs ad sz) (Af cs ad sz) s.heap H locs cs ad en_1449 → W p l e (headSpec (Cond.code yX12_goThrough cX12_goThrough 5 none :: TB) (rmN 3)).room s m ([.ref (ad 0), .int (nI n)] : List Value).toArray below meth c H locs 0 0 (MQ below (va_Qv (S := Nat → va_E) (fun en1 => RX cy cs ad en1 ∧ (∀ c, (c ≠ 0 ∧ c ≠ 6 ∧ c ≠ 7 ∧ c ≠ 10 ∧ c ≠ 11) → en1 c = en c) ∧ KP en en1) (PostM D cs ad) (Af cs ad sz)) ([.ref (ad 0), .int (nI n)] : List Value).toArray s 0 0 (Af cs ad sz)) (F0 m 68 ls []) := by
              intro fu
              induction fu with
              | zero => intro j1449  en_1449 ls H locs h0 h1 h2; exact absurd h2 (by omega)
              | succ fu ih_1449 =>
                intro j1449  en_1449 ls H locs hj0_1449 hj_1449 hfu_1449 hI_1449 hf_1449 i0_1449 i1_1449 hl hh
                refine lv_iload hx hb dX12_goThrough_68 (lv_at hl 0 rfl) ?_
                refine lv_iload_n hx hb dX12_goThrough_70 rfl (lv_at hl 3 rfl) ?_
                refine lv_icmp_ge (tgt := 94) hx hb dX12_goThrough_71 (by decide) (fun c_1450 => ?_) (fun c_1450 => ?_)
                · have n_1450 : n ≤ j1449 := n_le (a := n) (b := j1449) c_1450 (by omega) (by omega)
                  exact join_1406  en_1449 ls _ _ hI_1449 hf_1449 i0_1449 i1_1449 (lv_sub hl [1, 2, 3] rfl) hh
                · have n_1450 : j1449 < n := n_nle (a := n) (b := j1449) c_1450 (by omega) (by omega)
                  refine lv_aload_n hx hb dX12_goThrough_74 rfl (lv_at hl 2 rfl) ?_
                  obtain ⟨fa_1451, hi_1451, wd_1451, mo_1451, tb_1451, dp_1451, many_1451, grt_1451, lst_1451, nou_1451, rm_1451, rb_1451, pr_1451, wo_1451, es1451, p0_1451, p1_1451, p2_1451, p3_1451, p4_1451⟩ := getr_M hI_1449
                  have hq2_1452 : wd_1451 = wd := n_eq ((show nI wd_1451 = rdI (en_1449 0) 2 from by rw [es1451]; rfl).trans (i0_1449.2.1.trans (show rdI (en 0) 2 = nI wd from by rw [es1393]; rfl))) (by omega) (by omega)
                  have hq3_1452 : mo_1451 = mo := n_eq ((show nI mo_1451 = rdI (en_1449 0) 3 from by rw [es1451]; rfl).trans (i0_1449.2.2.1.trans (show rdI (en 0) 3 = nI mo from by rw [es1393]; rfl))) (by omega) (by omega)
                  have hq4_1452 : tb_1451 = tb := n_eq ((show nI tb_1451 = rdI (en_1449 0) 4 from by rw [es1451]; rfl).trans (i0_1449.2.2.2.1.trans (show rdI (en 0) 4 = nI tb from by rw [es1393]; rfl))) (by omega) (by omega)
                  have hq30_1452 : wo_1451 = wo := n_eq ((show nI wo_1451 = rdI (en_1449 0) 30 from by rw [es1451]; rfl).trans (i0_1449.2.2.2.2.2.trans (show rdI (en 0) 30 = nI wo from by rw [es1393]; rfl))) (by omega) (by omega)
                  rw [hq2_1452, hq3_1452, hq4_1452, hq30_1452] at es1451
                  refine hp_get hx hb hts ix12 hown hK hh (q := 0) rfl (hI.1 _ (by decide)) es1451 rfl 19 (by decide) (hts _ tw_898) (fun _ h9 => h9) rfl dX12_goThrough_75 ?_
                  refine lv_iload hx hb dX12_goThrough_78 (lv_at hl 0 rfl) ?_
                  refine lv_aload_n hx hb dX12_goThrough_80 rfl (lv_at hl 2 rfl) ?_
                  refine hp_get hx hb hts ix12 hown hK hh (q := 0) rfl (hI.1 _ (by decide)) es1451 rfl 11 (by decide) (hts _ tw_890) (fun _ h9 => h9) rfl dX12_goThrough_81 ?_
                  refine lv_iload hx hb dX12_goThrough_84 (lv_at hl 0 rfl) ?_
                  obtain ⟨f_1453, es1453⟩ := getr_nw hI_1449
                  refine hp_iald hx hb hK hh (q := 7) rfl (hI.1 _ (by decide)) es1453 (vp_in_nI (n := j1449) (by omega) (by decide)) dX12_goThrough_86 ?_
                  rw [nI_clamp (n := j1449) (by omega)]
                  obtain ⟨v_1454, hv_1454, hve_1454⟩ := hall_1402 j1449 (by omega)
                  rw [show f_1453 j1449 = nI v_1454 from (show f_1453 j1449 = rdF (en_1402 7) j1449 from by rw [← i1_1449.2, es1453]; rfl).trans hve_1454]
                  obtain ⟨f_1455, es1455⟩ := getr_gt hI_1449
                  refine hp_iast hx hb hK hh (q := 10) rfl (hI.1 _ (by decide)) es1455 (vp_in_nI (n := j1449) (by omega) (by decide)) dX12_goThrough_87 (fun H locs en_1456 hen_1456 hh => ?_)
                  rw [nI_clamp (n := j1449) (by omega)] at hen_1456
                  have es1451_1456 : en_1456 0 = .inr (11, [.int fa_1451, .int hi_1451, .int (nI wd), .int (nI mo), .int (nI tb), .ref (ad 1), .ref (ad 2), .ref (ad 3), .ref (ad 4), .ref (ad 5), .ref (ad 6), .ref (ad 7), .ref (ad 8), .ref (ad 9), .int dp_1451, .long many_1451, .long grt_1451, .long lst_1451, .long nou_1451, .ref (ad 10), .ref (ad 11), .ref (ad 12), .int rm_1451, .long rb_1451, .ref (ad 13), .int pr_1451, .ref (ad 14), .ref (ad 15), .ref (ad 16), .ref (ad 17), .int (nI wo), .ref (ad 18), .ref (ad 19)]) := by rw [hen_1456, va_up_ne _ _ (by decide)]; exact es1451
                  have es1453_1456 : en_1456 7 = .inl (cy 0, 13, .inl f_1453) := by rw [hen_1456, va_up_ne _ _ (by decide)]; exact es1453
                  have es1455_1456 : en_1456 10 = .inl (cy 0, 12, .inl (upd f_1455 j1449 (nI v_1454))) := by rw [hen_1456]; exact va_up_self _ _ _
                  have hI_1456 : RX cy cs ad en_1456 := by rw [hen_1456]; exact upr_gt hI_1449 ⟨(upd f_1455 j1449 (nI v_1454)), rfl⟩
                  have hf_1456 : ∀ c, (c ≠ 0 ∧ c ≠ 6 ∧ c ≠ 7 ∧ c ≠ 10 ∧ c ≠ 11) → en_1456 c = en c := fun c hc => Eq.trans (show en_1456 c = en_1449 c from by rw [hen_1456, va_up_ne _ _ (by omega)]) (hf_1449 c hc)
                  have hkp_1456 : KP en en_1456 := KP_same i0_1449 (show en_1456 0 = en_1449 0 from by rw [hen_1456, va_up_ne _ _ (by decide)])
                  have hsd_1456 : SD en_1402 en_1456 := SD_same i1_1449 (show en_1456 0 = en_1449 0 from by rw [hen_1456, va_up_ne _ _ (by decide)]) (show en_1456 7 = en_1449 7 from by rw [hen_1456, va_up_ne _ _ (by decide)])
                  refine lv_iinc (v := (nI (j1449 + 1))) (lv' := [(4, .int (nI (j1449 + 1))), (2, .long r_1405), (0, .ref (ad 0)), (1, .int (nI n))]) hx hb dX12_goThrough_88 hl (k := 0) rfl (nI_1 _) (by decide) rfl (fun ls hl => ?_)
                  refine lv_goto (tgt := 68) hx hb dX12_goThrough_91 (by decide) ?_
                  exact ih_1449 ((j1449 + 1))  en_1456 ls H locs (by omega) (by omega) (by omega) hI_1456 hf_1456 (hkp_1456) (hsd_1456) (lv_sub hl [0, 1, 2, 3] rfl) hh
            exact loop_1449 (n + 1) 0  en_1448 ls _ _ (Nat.le_refl _) (by omega) (by omega) hI_1448 hf_1448 (hkp_1448) (hsd_1448) (lv_sub hl [0, 1, 2, 3] rfl) hh
  exact loop_1399 (134217728 + 1) 134217728 0 0 en_1398 ls _ _ (by omega) hI_1398 hf_1398 (hND_1398) (by omega) (hkp_1398) (lv_sub hl [0, 1] rfl) hh
theorem kw_X12_goThrough {R : Room} {s : State} {args : Array Value} {own : String} {idx : Nat} (hts : ∀ w ∈ TB, w.before args s = true) (hl : Cond.methodLink own idx yX12_goThrough ∈ TB) (hR : 3 + 1 ≤ R.frames ∧ 8 + (5 + 11) + 40 * 3 ≤ R.locals) : CallW R s args own RX12 idx yX12_goThrough cX12_goThrough 5 none (Cond.code yX12_goThrough cX12_goThrough 5 none :: TB) (rmN 3) 0 0 1 := cwV 1 hts (TB_V hl tw_1036 ts_37 tw_9 tw_1037) rfl rfl rfl (by decide +kernel) hR
set_option maxHeartbeats 4000000 in
set_option maxRecDepth 100000 in
/-- X12_length -/
theorem c_X12_length (l : Launch) (D : va_G) (cy : Nat → ClassId) (sz : Nat) (cs : List Nat) (ad : Nat → Nat) (en : Nat → va_E) (hI : RX cy cs ad en) (n9 w9 : Int32)   : Met l yX12_length (Cond.code yX12_length cX12_length 3 (some .long) :: TB) (rmN 4) (va_Pc [.ref (ad 0), .int n9, .int w9] (Pre D cy cs ad en sz)) (va_Ql (S := Nat → va_E) (fun r en1 => RX cy cs ad en1 ∧ (∀ c, (c ≠ 0 ∧ c ≠ 6 ∧ c ≠ 7 ∧ c ≠ 8 ∧ c ≠ 9 ∧ c ≠ 10 ∧ c ≠ 11) → en1 c = en c) ∧ KP en en1) (PostM D cs ad) (Af cs ad sz)) 0 0 (Af cs ad sz) := by
  refine Met.ofW (cc := cX12_length) (maxL := 3) (ret := (some .long)) (by decide) rfl ?_
  intro p e s m args below meth c s₁ B hml hv
  obtain ⟨rfl, hsz, hP, hK, hD0⟩ := hv
  have hx := B.exec
  have hb := B.bytes
  have hr := B.returns
  have hts : ∀ w ∈ TB, w.before _ s = true := fun w h => atoms_spec (ws := _ :: TB) B.pre w (List.mem_cons_of_mem _ h)
  have hown : s.vm.findClass RX12 = some m.cls := findClass_of_methodNamed B.named
  have hlocks := B.notSynchronized
  have hh : Hp D (Af cs ad sz) (Af cs ad sz) s.heap s.heap [] cs ad en := ⟨hP, Af_self hD0, va_S.rf⟩
  have hA : ∀ q : Nat, s.heap.size ≤ q → Af cs ad sz q := fun q h => Or.inr (by rw [hsz] at h; exact h)
  have hl := lv_entry ([.ref (ad 0), .int n9, .int w9]) (n := 3) (Nat.le_of_ble_eq_true rfl)
  rw [lg_entry_eq]
  generalize (lg_sl ([.ref (ad 0), .int n9, .int w9]) ++ List.replicate (3 - (lg_sl ([.ref (ad 0), .int n9, .int w9])).length) Slot.unset).toArray = ls at hl ⊢
  have hl : lv_has ls 3 [(0, .ref (ad 0)), (1, .int n9), (2, .int w9)] := hl
  have hf0 : ∀ c, (c ≠ 0 ∧ c ≠ 6 ∧ c ≠ 7 ∧ c ≠ 8 ∧ c ≠ 9 ∧ c ≠ 10 ∧ c ≠ 11) → en c = en c := fun _ _ => rfl
  obtain ⟨fa, hi, wd, mo, tb, dp, many, grt, lst, nou, rm, rb, pr, wo, es1457, hwd2, hwd3, hmo, htb, hwo⟩ := getr_M hI
  refine lv_iload_n hx hb dX12_length_0 rfl (lv_at hl 1 rfl) ?_
  refine lv_i2l hx hb dX12_length_1 rfl ?_
  refine lv_lconst (v := 1) hx hb dX12_length_2 (by decide) ?_
  refine lv_ldc2 hx hb hown (hts _ tw_1024) dX12_length_3 ?_
  refine hp_callRi (va_runS (As := [.long n9.toInt64, .long 1, .long 8]) (rest := []) ⟨hx, hb, hml, hown, hts⟩ (c_X12_within l D cy _ cs ad en n9.toInt64 1 8) (kw_X12_within hts tw_985 ⟨by decide, by decide⟩) (preS_of hh hK) rfl rfl hl.1 rfl (lv_room (Nat.le_of_ble_eq_true rfl)) dX12_length_6 ⟨Nat.le_of_ble_eq_true rfl, Nat.le_of_ble_eq_true rfl⟩) hh hA (fun r_1458 H locs hw_1458 hh => ?_)
  rcases Decidable.em (wi n9 1 8) with hp_1458 | hp_1458
  · obtain rfl : r_1458 = 1 := Eq.trans hw_1458 (if_pos ((wj_32 (by decide) (by decide)).mpr hp_1458))
    obtain ⟨N_1458, rfl, hA_1458, hB_1458⟩ := wi_natB hp_1458 1 8 (by decide) (by decide)
    refine lv_if_eq (tgt := 32) hx hb dX12_length_9 (by decide) (fun c_0 => absurd c_0 (by decide)) (fun _ => ?_)
    refine lv_iload_n hx hb dX12_length_12 rfl (lv_at hl 2 rfl) ?_
    refine lv_i2l hx hb dX12_length_13 rfl ?_
    refine lv_lconst (v := 0) hx hb dX12_length_14 (by decide) ?_
    refine lv_ldc2 hx hb hown (hts _ tw_984) dX12_length_15 ?_
    refine hp_callRi (va_runS (As := [.long w9.toInt64, .long 0, .long 3]) (rest := []) ⟨hx, hb, hml, hown, hts⟩ (c_X12_within l D cy _ cs ad en w9.toInt64 0 3) (kw_X12_within hts tw_985 ⟨by decide, by decide⟩) (preS_of hh hK) rfl rfl hl.1 rfl (lv_room (Nat.le_of_ble_eq_true rfl)) dX12_length_18 ⟨Nat.le_of_ble_eq_true rfl, Nat.le_of_ble_eq_true rfl⟩) hh hA (fun r_1459 H locs hw_1459 hh => ?_)
    rcases Decidable.em (wi w9 0 3) with hp_1459 | hp_1459
    · obtain rfl : r_1459 = 1 := Eq.trans hw_1459 (if_pos ((wj_32 (by decide) (by decide)).mpr hp_1459))
      obtain ⟨N_1459, rfl, hA_1459, hB_1459⟩ := wi_natB hp_1459 0 3 (by decide) (by decide)
      refine lv_if_eq (tgt := 32) hx hb dX12_length_21 (by decide) (fun c_0 => absurd c_0 (by decide)) (fun _ => ?_)
      refine lv_aload_n hx hb dX12_length_24 rfl (lv_at hl 0 rfl) ?_
      refine lv_iload_n hx hb dX12_length_25 rfl (lv_at hl 1 rfl) ?_
      refine hp_callMi (va_runV (As := [.int (nI N_1458)]) (rest := []) ⟨hx, hb, hml, hown, hts⟩ (c_X12_isSpent l D cy _ cs ad en hI N_1458 (by omega)) (kw_X12_isSpent hts tw_1025 ⟨by decide, by decide⟩) (preV_of hh hK (hI.1 _ (by decide)) es1457 rfl) rfl rfl hl.1 rfl (lv_room (Nat.le_of_ble_eq_true rfl)) dX12_length_26 ⟨Nat.le_of_ble_eq_true rfl, Nat.le_of_ble_eq_true rfl⟩) hh hA (fun r_1460 H locs en_1460 hw_1460 hh => ?_)
      obtain ⟨hI_1460, hu_1460, hx_1460⟩ := hw_1460
      have es1457_1460 : en_1460 0 = .inr (11, [.int fa, .int hi, .int (nI wd), .int (nI mo), .int (nI tb), .ref (ad 1), .ref (ad 2), .ref (ad 3), .ref (ad 4), .ref (ad 5), .ref (ad 6), .ref (ad 7), .ref (ad 8), .ref (ad 9), .int dp, .long many, .long grt, .long lst, .long nou, .ref (ad 10), .ref (ad 11), .ref (ad 12), .int rm, .long rb, .ref (ad 13), .int pr, .ref (ad 14), .ref (ad 15), .ref (ad 16), .ref (ad 17), .int (nI wo), .ref (ad 18), .ref (ad 19)]) := (hu_1460 0 (by omega)).trans es1457
      have hf_1460 : ∀ c, (c ≠ 0 ∧ c ≠ 6 ∧ c ≠ 7 ∧ c ≠ 8 ∧ c ≠ 9 ∧ c ≠ 10 ∧ c ≠ 11) → en_1460 c = en c := fun c hc => (hu_1460 c (by omega)).trans (hf0 c hc)
      have hkp_1460 : KP en en_1460 := KP_same (KP_rf en) (hu_1460 0 (by omega))
      have hw_1460 := hx_1460
      rcases hw_1460 with hb_1460 | hb_1460
      · obtain rfl : r_1460 = 0 := hb_1460
        refine lv_if_eq (tgt := 36) hx hb dX12_length_29 (by decide) (fun _ => ?_) (fun c_0 => absurd c_0 (by decide))
        refine lv_aload_n hx hb dX12_length_36 rfl (lv_at hl 0 rfl) ?_
        refine lv_iload_n hx hb dX12_length_37 rfl (lv_at hl 1 rfl) ?_
        refine hp_callMv (va_runV (As := [.int (nI N_1458)]) (rest := []) ⟨hx, hb, hml, hown, hts⟩ (c_X12_goThrough l D cy _ cs ad en_1460 hI_1460 N_1458 (by omega) (by omega)) (kw_X12_goThrough hts tw_1034 ⟨by decide, by decide⟩) (preV_of hh hK (hI.1 _ (by decide)) es1457_1460 rfl) rfl rfl hl.1 rfl (lv_room (Nat.le_of_ble_eq_true rfl)) dX12_length_38 ⟨Nat.le_of_ble_eq_true rfl, Nat.le_of_ble_eq_true rfl⟩) hh hA (fun H locs en_1461 hw_1461 hh => ?_)
        obtain ⟨hI_1461, hu_1461, hx_1461⟩ := hw_1461
        have hf_1461 : ∀ c, (c ≠ 0 ∧ c ≠ 6 ∧ c ≠ 7 ∧ c ≠ 8 ∧ c ≠ 9 ∧ c ≠ 10 ∧ c ≠ 11) → en_1461 c = en c := fun c hc => (hu_1461 c (by omega)).trans (hf_1460 c hc)
        have hkp_1461 : KP en en_1461 := KP_tr hkp_1460 hx_1461
        refine lv_iload_n hx hb dX12_length_41 rfl (lv_at hl 2 rfl) ?_
        refine lv_if_ne (tgt := 52) hx hb dX12_length_42 (by decide) (fun c_1462 => ?_) (fun c_1462 => ?_)
        · have n_1462 : N_1459 ≠ 0 := n_neq (a := N_1459) (b := 0) c_1462 (by omega) (by decide)
          refine lv_iload_n hx hb dX12_length_52 rfl (lv_at hl 2 rfl) ?_
          refine lv_iconst (v := 1) hx hb dX12_length_53 (by decide) ?_
          refine lv_icmp_ne (tgt := 64) hx hb dX12_length_54 (by decide) (fun c_1463 => ?_) (fun c_1463 => ?_)
          · have n_1463 : N_1459 ≠ 1 := n_neq (a := N_1459) (b := 1) c_1463 (by omega) (by decide)
            refine lv_iload_n hx hb dX12_length_64 rfl (lv_at hl 2 rfl) ?_
            refine lv_iconst (v := 2) hx hb dX12_length_65 (by decide) ?_
            refine lv_icmp_ne (tgt := 76) hx hb dX12_length_66 (by decide) (fun c_1464 => ?_) (fun c_1464 => ?_)
            · have n_1464 : N_1459 ≠ 2 := n_neq (a := N_1459) (b := 2) c_1464 (by omega) (by decide)
              refine lv_aload_n hx hb dX12_length_76 rfl (lv_at hl 0 rfl) ?_
              obtain ⟨fa_1465, hi_1465, wd_1465, mo_1465, tb_1465, dp_1465, many_1465, grt_1465, lst_1465, nou_1465, rm_1465, rb_1465, pr_1465, wo_1465, es1465, p0_1465, p1_1465, p2_1465, p3_1465, p4_1465⟩ := getr_M hI_1461
              have hq2_1466 : wd_1465 = wd := n_eq ((show nI wd_1465 = rdI (en_1461 0) 2 from by rw [es1465]; rfl).trans (hkp_1461.2.1.trans (show rdI (en 0) 2 = nI wd from by rw [es1457]; rfl))) (by omega) (by omega)
              have hq3_1466 : mo_1465 = mo := n_eq ((show nI mo_1465 = rdI (en_1461 0) 3 from by rw [es1465]; rfl).trans (hkp_1461.2.2.1.trans (show rdI (en 0) 3 = nI mo from by rw [es1457]; rfl))) (by omega) (by omega)
              have hq4_1466 : tb_1465 = tb := n_eq ((show nI tb_1465 = rdI (en_1461 0) 4 from by rw [es1465]; rfl).trans (hkp_1461.2.2.2.1.trans (show rdI (en 0) 4 = nI tb from by rw [es1457]; rfl))) (by omega) (by omega)
              have hq30_1466 : wo_1465 = wo := n_eq ((show nI wo_1465 = rdI (en_1461 0) 30 from by rw [es1465]; rfl).trans (hkp_1461.2.2.2.2.2.trans (show rdI (en 0) 30 = nI wo from by rw [es1457]; rfl))) (by omega) (by omega)
              rw [hq2_1466, hq3_1466, hq4_1466, hq30_1466] at es1465
              refine hp_get hx hb hts ix12 hown hK hh (q := 0) rfl (hI.1 _ (by decide)) es1465 rfl 18 (by decide) (hts _ tw_897) (fun _ h9 => h9) rfl dX12_length_77 ?_
              exact hp_lretM hx hb hr hlocks hh (⟨hI_1461, hf_1461, hkp_1461⟩) dX12_length_80
            · have n_1464 : N_1459 = 2 := n_eq (a := N_1459) (b := 2) c_1464 (by omega) (by decide)
              refine lv_aload_n hx hb dX12_length_69 rfl (lv_at hl 0 rfl) ?_
              obtain ⟨fa_1467, hi_1467, wd_1467, mo_1467, tb_1467, dp_1467, many_1467, grt_1467, lst_1467, nou_1467, rm_1467, rb_1467, pr_1467, wo_1467, es1467, p0_1467, p1_1467, p2_1467, p3_1467, p4_1467⟩ := getr_M hI_1461
              have hq2_1468 : wd_1467 = wd := n_eq ((show nI wd_1467 = rdI (en_1461 0) 2 from by rw [es1467]; rfl).trans (hkp_1461.2.1.trans (show rdI (en 0) 2 = nI wd from by rw [es1457]; rfl))) (by omega) (by omega)
              have hq3_1468 : mo_1467 = mo := n_eq ((show nI mo_1467 = rdI (en_1461 0) 3 from by rw [es1467]; rfl).trans (hkp_1461.2.2.1.trans (show rdI (en 0) 3 = nI mo from by rw [es1457]; rfl))) (by omega) (by omega)
              have hq4_1468 : tb_1467 = tb := n_eq ((show nI tb_1467 = rdI (en_1461 0) 4 from by rw [es1467]; rfl).trans (hkp_1461.2.2.2.1.trans (show rdI (en 0) 4 = nI tb from by rw [es1457]; rfl))) (by omega) (by omega)
              have hq30_1468 : wo_1467 = wo := n_eq ((show nI wo_1467 = rdI (en_1461 0) 30 from by rw [es1467]; rfl).trans (hkp_1461.2.2.2.2.2.trans (show rdI (en 0) 30 = nI wo from by rw [es1457]; rfl))) (by omega) (by omega)
              rw [hq2_1468, hq3_1468, hq4_1468, hq30_1468] at es1467
              refine hp_get hx hb hts ix12 hown hK hh (q := 0) rfl (hI.1 _ (by decide)) es1467 rfl 17 (by decide) (hts _ tw_896) (fun _ h9 => h9) rfl dX12_length_70 ?_
              refine lv_goto (tgt := 80) hx hb dX12_length_73 (by decide) ?_
              exact hp_lretM hx hb hr hlocks hh (⟨hI_1461, hf_1461, hkp_1461⟩) dX12_length_80
          · have n_1463 : N_1459 = 1 := n_eq (a := N_1459) (b := 1) c_1463 (by omega) (by decide)
            refine lv_aload_n hx hb dX12_length_57 rfl (lv_at hl 0 rfl) ?_
            obtain ⟨fa_1469, hi_1469, wd_1469, mo_1469, tb_1469, dp_1469, many_1469, grt_1469, lst_1469, nou_1469, rm_1469, rb_1469, pr_1469, wo_1469, es1469, p0_1469, p1_1469, p2_1469, p3_1469, p4_1469⟩ := getr_M hI_1461
            have hq2_1470 : wd_1469 = wd := n_eq ((show nI wd_1469 = rdI (en_1461 0) 2 from by rw [es1469]; rfl).trans (hkp_1461.2.1.trans (show rdI (en 0) 2 = nI wd from by rw [es1457]; rfl))) (by omega) (by omega)
            have hq3_1470 : mo_1469 = mo := n_eq ((show nI mo_1469 = rdI (en_1461 0) 3 from by rw [es1469]; rfl).trans (hkp_1461.2.2.1.trans (show rdI (en 0) 3 = nI mo from by rw [es1457]; rfl))) (by omega) (by omega)
            have hq4_1470 : tb_1469 = tb := n_eq ((show nI tb_1469 = rdI (en_1461 0) 4 from by rw [es1469]; rfl).trans (hkp_1461.2.2.2.1.trans (show rdI (en 0) 4 = nI tb from by rw [es1457]; rfl))) (by omega) (by omega)
            have hq30_1470 : wo_1469 = wo := n_eq ((show nI wo_1469 = rdI (en_1461 0) 30 from by rw [es1469]; rfl).trans (hkp_1461.2.2.2.2.2.trans (show rdI (en 0) 30 = nI wo from by rw [es1457]; rfl))) (by omega) (by omega)
            rw [hq2_1470, hq3_1470, hq4_1470, hq30_1470] at es1469
            refine hp_get hx hb hts ix12 hown hK hh (q := 0) rfl (hI.1 _ (by decide)) es1469 rfl 16 (by decide) (hts _ tw_895) (fun _ h9 => h9) rfl dX12_length_58 ?_
            refine lv_goto (tgt := 80) hx hb dX12_length_61 (by decide) ?_
            exact hp_lretM hx hb hr hlocks hh (⟨hI_1461, hf_1461, hkp_1461⟩) dX12_length_80
        · have n_1462 : N_1459 = 0 := n_eq (a := N_1459) (b := 0) c_1462 (by omega) (by decide)
          refine lv_aload_n hx hb dX12_length_45 rfl (lv_at hl 0 rfl) ?_
          obtain ⟨fa_1471, hi_1471, wd_1471, mo_1471, tb_1471, dp_1471, many_1471, grt_1471, lst_1471, nou_1471, rm_1471, rb_1471, pr_1471, wo_1471, es1471, p0_1471, p1_1471, p2_1471, p3_1471, p4_1471⟩ := getr_M hI_1461
          have hq2_1472 : wd_1471 = wd := n_eq ((show nI wd_1471 = rdI (en_1461 0) 2 from by rw [es1471]; rfl).trans (hkp_1461.2.1.trans (show rdI (en 0) 2 = nI wd from by rw [es1457]; rfl))) (by omega) (by omega)
          have hq3_1472 : mo_1471 = mo := n_eq ((show nI mo_1471 = rdI (en_1461 0) 3 from by rw [es1471]; rfl).trans (hkp_1461.2.2.1.trans (show rdI (en 0) 3 = nI mo from by rw [es1457]; rfl))) (by omega) (by omega)
          have hq4_1472 : tb_1471 = tb := n_eq ((show nI tb_1471 = rdI (en_1461 0) 4 from by rw [es1471]; rfl).trans (hkp_1461.2.2.2.1.trans (show rdI (en 0) 4 = nI tb from by rw [es1457]; rfl))) (by omega) (by omega)
          have hq30_1472 : wo_1471 = wo := n_eq ((show nI wo_1471 = rdI (en_1461 0) 30 from by rw [es1471]; rfl).trans (hkp_1461.2.2.2.2.2.trans (show rdI (en 0) 30 = nI wo from by rw [es1457]; rfl))) (by omega) (by omega)
          rw [hq2_1472, hq3_1472, hq4_1472, hq30_1472] at es1471
          refine hp_get hx hb hts ix12 hown hK hh (q := 0) rfl (hI.1 _ (by decide)) es1471 rfl 15 (by decide) (hts _ tw_894) (fun _ h9 => h9) rfl dX12_length_46 ?_
          refine lv_goto (tgt := 80) hx hb dX12_length_49 (by decide) ?_
          exact hp_lretM hx hb hr hlocks hh (⟨hI_1461, hf_1461, hkp_1461⟩) dX12_length_80
      · obtain rfl : r_1460 = 1 := hb_1460
        refine lv_if_eq (tgt := 36) hx hb dX12_length_29 (by decide) (fun c_0 => absurd c_0 (by decide)) (fun _ => ?_)
        refine lv_ldc2 hx hb hown (hts _ tw_1015) dX12_length_32 ?_
        exact hp_lretM hx hb hr hlocks hh (⟨hI_1460, hf_1460, hkp_1460⟩) dX12_length_35
    · obtain rfl : r_1459 = 0 := Eq.trans hw_1459 (if_neg (fun q => hp_1459 ((wj_32 (by decide) (by decide)).mp q)))
      refine lv_if_eq (tgt := 32) hx hb dX12_length_21 (by decide) (fun _ => ?_) (fun c_0 => absurd c_0 (by decide))
      refine lv_ldc2 hx hb hown (hts _ tw_1015) dX12_length_32 ?_
      exact hp_lretM hx hb hr hlocks hh (⟨hI, hf0, (KP_rf en)⟩) dX12_length_35
  · obtain rfl : r_1458 = 0 := Eq.trans hw_1458 (if_neg (fun q => hp_1458 ((wj_32 (by decide) (by decide)).mp q)))
    refine lv_if_eq (tgt := 32) hx hb dX12_length_9 (by decide) (fun _ => ?_) (fun c_0 => absurd c_0 (by decide))
    refine lv_ldc2 hx hb hown (hts _ tw_1015) dX12_length_32 ?_
    exact hp_lretM hx hb hr hlocks hh (⟨hI, hf0, (KP_rf en)⟩) dX12_length_35
theorem kw_X12_length {R : Room} {s : State} {args : Array Value} {own : String} {idx : Nat} (hts : ∀ w ∈ TB, w.before args s = true) (hl : Cond.methodLink own idx yX12_length ∈ TB) (hR : 4 + 1 ≤ R.frames ∧ 8 + (3 + 11) + 40 * 4 ≤ R.locals) : CallW R s args own RX12 idx yX12_length cX12_length 3 (some .long) (Cond.code yX12_length cX12_length 3 (some .long) :: TB) (rmN 4) 0 0 2 := cwV 2 hts (TB_V hl tw_1021 tw_1022 tw_9 tw_1023) rfl rfl rfl (by decide +kernel) hR
set_option maxHeartbeats 4000000 in
set_option maxRecDepth 100000 in
/-- X12_extreme -/
theorem c_X12_extreme (l : Launch) (D : va_G) (cy : Nat → ClassId) (sz : Nat) (cs : List Nat) (ad : Nat → Nat) (en : Nat → va_E) (hI : RX cy cs ad en) (n9 z9 i9 : Int32)   : Met l yX12_extreme (Cond.code yX12_extreme cX12_extreme 4 (some .int) :: TB) (rmN 4) (va_Pc [.ref (ad 0), .int n9, .int z9, .int i9] (Pre D cy cs ad en sz)) (va_Qi (S := Nat → va_E) (fun r en1 => RX cy cs ad en1 ∧ (∀ c, (c ≠ 0 ∧ c ≠ 6 ∧ c ≠ 7 ∧ c ≠ 8 ∧ c ≠ 9 ∧ c ≠ 10 ∧ c ≠ 11) → en1 c = en c) ∧ KP en en1) (PostM D cs ad) (Af cs ad sz)) 0 0 (Af cs ad sz) := by
  refine Met.ofW (cc := cX12_extreme) (maxL := 4) (ret := (some .int)) (by decide) rfl ?_
  intro p e s m args below meth c s₁ B hml hv
  obtain ⟨rfl, hsz, hP, hK, hD0⟩ := hv
  have hx := B.exec
  have hb := B.bytes
  have hr := B.returns
  have hts : ∀ w ∈ TB, w.before _ s = true := fun w h => atoms_spec (ws := _ :: TB) B.pre w (List.mem_cons_of_mem _ h)
  have hown : s.vm.findClass RX12 = some m.cls := findClass_of_methodNamed B.named
  have hlocks := B.notSynchronized
  have hh : Hp D (Af cs ad sz) (Af cs ad sz) s.heap s.heap [] cs ad en := ⟨hP, Af_self hD0, va_S.rf⟩
  have hA : ∀ q : Nat, s.heap.size ≤ q → Af cs ad sz q := fun q h => Or.inr (by rw [hsz] at h; exact h)
  have hl := lv_entry ([.ref (ad 0), .int n9, .int z9, .int i9]) (n := 4) (Nat.le_of_ble_eq_true rfl)
  rw [lg_entry_eq]
  generalize (lg_sl ([.ref (ad 0), .int n9, .int z9, .int i9]) ++ List.replicate (4 - (lg_sl ([.ref (ad 0), .int n9, .int z9, .int i9])).length) Slot.unset).toArray = ls at hl ⊢
  have hl : lv_has ls 4 [(0, .ref (ad 0)), (1, .int n9), (2, .int z9), (3, .int i9)] := hl
  have hf0 : ∀ c, (c ≠ 0 ∧ c ≠ 6 ∧ c ≠ 7 ∧ c ≠ 8 ∧ c ≠ 9 ∧ c ≠ 10 ∧ c ≠ 11) → en c = en c := fun _ _ => rfl
  obtain ⟨fa, hi, wd, mo, tb, dp, many, grt, lst, nou, rm, rb, pr, wo, es1473, hwd2, hwd3, hmo, htb, hwo⟩ := getr_M hI
  refine lv_iload_n hx hb dX12_extreme_0 rfl (lv_at hl 1 rfl) ?_
  refine lv_i2l hx hb dX12_extreme_1 rfl ?_
  refine lv_lconst (v := 1) hx hb dX12_extreme_2 (by decide) ?_
  refine lv_ldc2 hx hb hown (hts _ tw_1024) dX12_extreme_3 ?_
  refine hp_callRi (va_runS (As := [.long n9.toInt64, .long 1, .long 8]) (rest := []) ⟨hx, hb, hml, hown, hts⟩ (c_X12_within l D cy _ cs ad en n9.toInt64 1 8) (kw_X12_within hts tw_985 ⟨by decide, by decide⟩) (preS_of hh hK) rfl rfl hl.1 rfl (lv_room (Nat.le_of_ble_eq_true rfl)) dX12_extreme_6 ⟨Nat.le_of_ble_eq_true rfl, Nat.le_of_ble_eq_true rfl⟩) hh hA (fun r_1474 H locs hw_1474 hh => ?_)
  rcases Decidable.em (wi n9 1 8) with hp_1474 | hp_1474
  · obtain rfl : r_1474 = 1 := Eq.trans hw_1474 (if_pos ((wj_32 (by decide) (by decide)).mpr hp_1474))
    obtain ⟨N_1474, rfl, hA_1474, hB_1474⟩ := wi_natB hp_1474 1 8 (by decide) (by decide)
    refine lv_if_eq (tgt := 35) hx hb dX12_extreme_9 (by decide) (fun c_0 => absurd c_0 (by decide)) (fun _ => ?_)
    refine lv_iload_n hx hb dX12_extreme_12 rfl (lv_at hl 2 rfl) ?_
    refine lv_i2l hx hb dX12_extreme_13 rfl ?_
    refine lv_lconst (v := 0) hx hb dX12_extreme_14 (by decide) ?_
    refine lv_lconst (v := 1) hx hb dX12_extreme_15 (by decide) ?_
    refine hp_callRi (va_runS (As := [.long z9.toInt64, .long 0, .long 1]) (rest := []) ⟨hx, hb, hml, hown, hts⟩ (c_X12_within l D cy _ cs ad en z9.toInt64 0 1) (kw_X12_within hts tw_985 ⟨by decide, by decide⟩) (preS_of hh hK) rfl rfl hl.1 rfl (lv_room (Nat.le_of_ble_eq_true rfl)) dX12_extreme_16 ⟨Nat.le_of_ble_eq_true rfl, Nat.le_of_ble_eq_true rfl⟩) hh hA (fun r_1475 H locs hw_1475 hh => ?_)
    rcases Decidable.em (wi z9 0 1) with hp_1475 | hp_1475
    · obtain rfl : r_1475 = 1 := Eq.trans hw_1475 (if_pos ((wj_32 (by decide) (by decide)).mpr hp_1475))
      obtain ⟨N_1475, rfl, hA_1475, hB_1475⟩ := wi_natB hp_1475 0 1 (by decide) (by decide)
      refine lv_if_eq (tgt := 35) hx hb dX12_extreme_19 (by decide) (fun c_0 => absurd c_0 (by decide)) (fun _ => ?_)
      refine lv_iload_n hx hb dX12_extreme_22 rfl (lv_at hl 3 rfl) ?_
      refine lv_i2l hx hb dX12_extreme_23 rfl ?_
      refine lv_lconst (v := 0) hx hb dX12_extreme_24 (by decide) ?_
      refine lv_iload_n hx hb dX12_extreme_25 rfl (lv_at hl 1 rfl) ?_
      refine lv_i2l hx hb dX12_extreme_26 rfl ?_
      refine lv_lconst (v := 1) hx hb dX12_extreme_27 (by decide) ?_
      refine lv_lsub hx hb dX12_extreme_28 ?_
      refine hp_callRi (va_runS (As := [.long i9.toInt64, .long 0, .long ((nI N_1474).toInt64 - 1)]) (rest := []) ⟨hx, hb, hml, hown, hts⟩ (c_X12_within l D cy _ cs ad en i9.toInt64 0 ((nI N_1474).toInt64 - 1)) (kw_X12_within hts tw_985 ⟨by decide, by decide⟩) (preS_of hh hK) rfl rfl hl.1 rfl (lv_room (Nat.le_of_ble_eq_true rfl)) dX12_extreme_29 ⟨Nat.le_of_ble_eq_true rfl, Nat.le_of_ble_eq_true rfl⟩) hh hA (fun r_1476 H locs hw_1476 hh => ?_)
      rcases Decidable.em (0 ≤ i9.toInt ∧ i9.toInt < (N_1474 : Int)) with hp_1476 | hp_1476
      · obtain rfl : r_1476 = 1 := Eq.trans hw_1476 (if_pos ((wj_m1 (by omega)).mpr hp_1476))
        obtain ⟨N_1476, rfl, hB_1476⟩ := has_nat hp_1476
        refine lv_if_ne (tgt := 38) hx hb dX12_extreme_32 (by decide) (fun _ => ?_) (fun c_0 => absurd c_0 (by decide))
        refine lv_aload_n hx hb dX12_extreme_38 rfl (lv_at hl 0 rfl) ?_
        refine lv_iload_n hx hb dX12_extreme_39 rfl (lv_at hl 1 rfl) ?_
        refine hp_callMi (va_runV (As := [.int (nI N_1474)]) (rest := []) ⟨hx, hb, hml, hown, hts⟩ (c_X12_isSpent l D cy _ cs ad en hI N_1474 (by omega)) (kw_X12_isSpent hts tw_1025 ⟨by decide, by decide⟩) (preV_of hh hK (hI.1 _ (by decide)) es1473 rfl) rfl rfl hl.1 rfl (lv_room (Nat.le_of_ble_eq_true rfl)) dX12_extreme_40 ⟨Nat.le_of_ble_eq_true rfl, Nat.le_of_ble_eq_true rfl⟩) hh hA (fun r_1477 H locs en_1477 hw_1477 hh => ?_)
        obtain ⟨hI_1477, hu_1477, hx_1477⟩ := hw_1477
        have es1473_1477 : en_1477 0 = .inr (11, [.int fa, .int hi, .int (nI wd), .int (nI mo), .int (nI tb), .ref (ad 1), .ref (ad 2), .ref (ad 3), .ref (ad 4), .ref (ad 5), .ref (ad 6), .ref (ad 7), .ref (ad 8), .ref (ad 9), .int dp, .long many, .long grt, .long lst, .long nou, .ref (ad 10), .ref (ad 11), .ref (ad 12), .int rm, .long rb, .ref (ad 13), .int pr, .ref (ad 14), .ref (ad 15), .ref (ad 16), .ref (ad 17), .int (nI wo), .ref (ad 18), .ref (ad 19)]) := (hu_1477 0 (by omega)).trans es1473
        have hf_1477 : ∀ c, (c ≠ 0 ∧ c ≠ 6 ∧ c ≠ 7 ∧ c ≠ 8 ∧ c ≠ 9 ∧ c ≠ 10 ∧ c ≠ 11) → en_1477 c = en c := fun c hc => (hu_1477 c (by omega)).trans (hf0 c hc)
        have hkp_1477 : KP en en_1477 := KP_same (KP_rf en) (hu_1477 0 (by omega))
        have hw_1477 := hx_1477
        rcases hw_1477 with hb_1477 | hb_1477
        · obtain rfl : r_1477 = 0 := hb_1477
          refine lv_if_eq (tgt := 49) hx hb dX12_extreme_43 (by decide) (fun _ => ?_) (fun c_0 => absurd c_0 (by decide))
          refine lv_aload_n hx hb dX12_extreme_49 rfl (lv_at hl 0 rfl) ?_
          refine lv_iload_n hx hb dX12_extreme_50 rfl (lv_at hl 1 rfl) ?_
          refine hp_callMv (va_runV (As := [.int (nI N_1474)]) (rest := []) ⟨hx, hb, hml, hown, hts⟩ (c_X12_goThrough l D cy _ cs ad en_1477 hI_1477 N_1474 (by omega) (by omega)) (kw_X12_goThrough hts tw_1034 ⟨by decide, by decide⟩) (preV_of hh hK (hI.1 _ (by decide)) es1473_1477 rfl) rfl rfl hl.1 rfl (lv_room (Nat.le_of_ble_eq_true rfl)) dX12_extreme_51 ⟨Nat.le_of_ble_eq_true rfl, Nat.le_of_ble_eq_true rfl⟩) hh hA (fun H locs en_1478 hw_1478 hh => ?_)
          obtain ⟨hI_1478, hu_1478, hx_1478⟩ := hw_1478
          have hf_1478 : ∀ c, (c ≠ 0 ∧ c ≠ 6 ∧ c ≠ 7 ∧ c ≠ 8 ∧ c ≠ 9 ∧ c ≠ 10 ∧ c ≠ 11) → en_1478 c = en c := fun c hc => (hu_1478 c (by omega)).trans (hf_1477 c hc)
          have hkp_1478 : KP en en_1478 := KP_tr hkp_1477 hx_1478
          refine lv_aload_n hx hb dX12_extreme_54 rfl (lv_at hl 0 rfl) ?_
          obtain ⟨fa_1479, hi_1479, wd_1479, mo_1479, tb_1479, dp_1479, many_1479, grt_1479, lst_1479, nou_1479, rm_1479, rb_1479, pr_1479, wo_1479, es1479, p0_1479, p1_1479, p2_1479, p3_1479, p4_1479⟩ := getr_M hI_1478
          have hq2_1480 : wd_1479 = wd := n_eq ((show nI wd_1479 = rdI (en_1478 0) 2 from by rw [es1479]; rfl).trans (hkp_1478.2.1.trans (show rdI (en 0) 2 = nI wd from by rw [es1473]; rfl))) (by omega) (by omega)
          have hq3_1480 : mo_1479 = mo := n_eq ((show nI mo_1479 = rdI (en_1478 0) 3 from by rw [es1479]; rfl).trans (hkp_1478.2.2.1.trans (show rdI (en 0) 3 = nI mo from by rw [es1473]; rfl))) (by omega) (by omega)
          have hq4_1480 : tb_1479 = tb := n_eq ((show nI tb_1479 = rdI (en_1478 0) 4 from by rw [es1479]; rfl).trans (hkp_1478.2.2.2.1.trans (show rdI (en 0) 4 = nI tb from by rw [es1473]; rfl))) (by omega) (by omega)
          have hq30_1480 : wo_1479 = wo := n_eq ((show nI wo_1479 = rdI (en_1478 0) 30 from by rw [es1479]; rfl).trans (hkp_1478.2.2.2.2.2.trans (show rdI (en 0) 30 = nI wo from by rw [es1473]; rfl))) (by omega) (by omega)
          rw [hq2_1480, hq3_1480, hq4_1480, hq30_1480] at es1479
          refine hp_get hx hb hts ix12 hown hK hh (q := 0) rfl (hI.1 _ (by decide)) es1479 rfl 15 (by decide) (hts _ tw_894) (fun _ h9 => h9) rfl dX12_extreme_55 ?_
          refine lv_lconst (v := 0) hx hb dX12_extreme_58 (by decide) ?_
          refine W.lcmp hx hb dX12_extreme_59 ?_
          refine lv_if_ne (tgt := 68) hx hb dX12_extreme_60 (by decide) (fun c_1481 => ?_) (fun c_1481 => ?_)
          · refine lv_iload_n hx hb dX12_extreme_68 rfl (lv_at hl 2 rfl) ?_
            refine lv_if_ne (tgt := 81) hx hb dX12_extreme_69 (by decide) (fun c_1482 => ?_) (fun c_1482 => ?_)
            · have n_1482 : N_1475 ≠ 0 := n_neq (a := N_1475) (b := 0) c_1482 (by omega) (by decide)
              refine lv_aload_n hx hb dX12_extreme_81 rfl (lv_at hl 0 rfl) ?_
              refine hp_get hx hb hts ix12 hown hK hh (q := 0) rfl (hI.1 _ (by decide)) es1479 rfl 20 (by decide) (hts _ tw_899) (fun _ h9 => h9) rfl dX12_extreme_82 ?_
              refine lv_iload_n hx hb dX12_extreme_85 rfl (lv_at hl 3 rfl) ?_
              obtain ⟨f_1483, es1483⟩ := getr_sm hI_1478
              refine hp_iald hx hb hK hh (q := 11) rfl (hI.1 _ (by decide)) es1483 (vp_in_nI (n := N_1476) (by omega) (by decide)) dX12_extreme_86 ?_
              rw [nI_clamp (n := N_1476) (by omega)]
              exact hp_iretM hx hb hr rfl hlocks hh (⟨hI_1478, hf_1478, hkp_1478⟩) dX12_extreme_87
            · have n_1482 : N_1475 = 0 := n_eq (a := N_1475) (b := 0) c_1482 (by omega) (by decide)
              refine lv_aload_n hx hb dX12_extreme_72 rfl (lv_at hl 0 rfl) ?_
              refine hp_get hx hb hts ix12 hown hK hh (q := 0) rfl (hI.1 _ (by decide)) es1479 rfl 19 (by decide) (hts _ tw_898) (fun _ h9 => h9) rfl dX12_extreme_73 ?_
              refine lv_iload_n hx hb dX12_extreme_76 rfl (lv_at hl 3 rfl) ?_
              obtain ⟨f_1484, es1484⟩ := getr_gt hI_1478
              refine hp_iald hx hb hK hh (q := 10) rfl (hI.1 _ (by decide)) es1484 (vp_in_nI (n := N_1476) (by omega) (by decide)) dX12_extreme_77 ?_
              rw [nI_clamp (n := N_1476) (by omega)]
              refine lv_goto (tgt := 87) hx hb dX12_extreme_78 (by decide) ?_
              exact hp_iretM hx hb hr rfl hlocks hh (⟨hI_1478, hf_1478, hkp_1478⟩) dX12_extreme_87
          · refine lv_bipush (v := (-9)) hx hb dX12_extreme_63 (by decide) ?_
            refine lv_goto (tgt := 87) hx hb dX12_extreme_65 (by decide) ?_
            exact hp_iretM hx hb hr rfl hlocks hh (⟨hI_1478, hf_1478, hkp_1478⟩) dX12_extreme_87
        · obtain rfl : r_1477 = 1 := hb_1477
          refine lv_if_eq (tgt := 49) hx hb dX12_extreme_43 (by decide) (fun c_0 => absurd c_0 (by decide)) (fun _ => ?_)
          refine lv_bipush (v := (-6)) hx hb dX12_extreme_46 (by decide) ?_
          exact hp_iretM hx hb hr rfl hlocks hh (⟨hI_1477, hf_1477, hkp_1477⟩) dX12_extreme_48
      · obtain rfl : r_1476 = 0 := Eq.trans hw_1476 (if_neg (fun q => hp_1476 ((wj_m1 (by omega)).mp q)))
        refine lv_if_ne (tgt := 38) hx hb dX12_extreme_32 (by decide) (fun c_0 => absurd c_0 (by decide)) (fun _ => ?_)
        refine lv_bipush (v := (-2)) hx hb dX12_extreme_35 (by decide) ?_
        exact hp_iretM hx hb hr rfl hlocks hh (⟨hI, hf0, (KP_rf en)⟩) dX12_extreme_37
    · obtain rfl : r_1475 = 0 := Eq.trans hw_1475 (if_neg (fun q => hp_1475 ((wj_32 (by decide) (by decide)).mp q)))
      refine lv_if_eq (tgt := 35) hx hb dX12_extreme_19 (by decide) (fun _ => ?_) (fun c_0 => absurd c_0 (by decide))
      refine lv_bipush (v := (-2)) hx hb dX12_extreme_35 (by decide) ?_
      exact hp_iretM hx hb hr rfl hlocks hh (⟨hI, hf0, (KP_rf en)⟩) dX12_extreme_37
  · obtain rfl : r_1474 = 0 := Eq.trans hw_1474 (if_neg (fun q => hp_1474 ((wj_32 (by decide) (by decide)).mp q)))
    refine lv_if_eq (tgt := 35) hx hb dX12_extreme_9 (by decide) (fun _ => ?_) (fun c_0 => absurd c_0 (by decide))
    refine lv_bipush (v := (-2)) hx hb dX12_extreme_35 (by decide) ?_
    exact hp_iretM hx hb hr rfl hlocks hh (⟨hI, hf0, (KP_rf en)⟩) dX12_extreme_37
theorem kw_X12_extreme {R : Room} {s : State} {args : Array Value} {own : String} {idx : Nat} (hts : ∀ w ∈ TB, w.before args s = true) (hl : Cond.methodLink own idx yX12_extreme ∈ TB) (hR : 4 + 1 ≤ R.frames ∧ 8 + (4 + 11) + 40 * 4 ≤ R.locals) : CallW R s args own RX12 idx yX12_extreme cX12_extreme 4 (some .int) (Cond.code yX12_extreme cX12_extreme 4 (some .int) :: TB) (rmN 4) 0 0 3 := cwV 3 hts (TB_V hl tw_1066 tw_1067 tw_9 tw_1068) rfl rfl rfl (by decide +kernel) hR
set_option maxHeartbeats 4000000 in
set_option maxRecDepth 100000 in
/-- findRings -/
theorem c_X12_findRings (l : Launch) (D : va_G) (cy : Nat → ClassId) (sz : Nat) (cs : List Nat) (ad : Nat → Nat) (en : Nat → va_E) (hI : RX cy cs ad en) (n : Nat) (hn1 : 1 ≤ n) (hn8 : n ≤ 8)   : Met l yX12_findRings (Cond.code yX12_findRings cX12_findRings 3 none :: TB) (rmN 3) (va_Pc [.ref (ad 0), .int (nI n)] (Pre D cy cs ad en sz)) (va_Qv (S := Nat → va_E) (fun en1 => RX cy cs ad en1 ∧ (∀ c, (c ≠ 0 ∧ c ≠ 6 ∧ c ≠ 7 ∧ c ≠ 12 ∧ c ≠ 13) → en1 c = en c) ∧ KP en en1) (PostM D cs ad) (Af cs ad sz)) 0 0 (Af cs ad sz) := by
  refine Met.ofW (cc := cX12_findRings) (maxL := 3) (ret := none) (by decide) rfl ?_
  intro p e s m args below meth c s₁ B hml hv
  obtain ⟨rfl, hsz, hP, hK, hD0⟩ := hv
  have hx := B.exec
  have hb := B.bytes
  have hr := B.returns
  have hts : ∀ w ∈ TB, w.before _ s = true := fun w h => atoms_spec (ws := _ :: TB) B.pre w (List.mem_cons_of_mem _ h)
  have hown : s.vm.findClass RX12 = some m.cls := findClass_of_methodNamed B.named
  have hlocks := B.notSynchronized
  have hh : Hp D (Af cs ad sz) (Af cs ad sz) s.heap s.heap [] cs ad en := ⟨hP, Af_self hD0, va_S.rf⟩
  have hA : ∀ q : Nat, s.heap.size ≤ q → Af cs ad sz q := fun q h => Or.inr (by rw [hsz] at h; exact h)
  have hl := lv_entry ([.ref (ad 0), .int (nI n)]) (n := 3) (Nat.le_of_ble_eq_true rfl)
  rw [lg_entry_eq]
  generalize (lg_sl ([.ref (ad 0), .int (nI n)]) ++ List.replicate (3 - (lg_sl ([.ref (ad 0), .int (nI n)])).length) Slot.unset).toArray = ls at hl ⊢
  have hl : lv_has ls 3 [(0, .ref (ad 0)), (1, .int (nI n))] := hl
  have hf0 : ∀ c, (c ≠ 0 ∧ c ≠ 6 ∧ c ≠ 7 ∧ c ≠ 12 ∧ c ≠ 13) → en c = en c := fun _ _ => rfl
  obtain ⟨fa, hi, wd, mo, tb, dp, many, grt, lst, nou, rm, rb, pr, wo, es1485, hwd2, hwd3, hmo, htb, hwo⟩ := getr_M hI
  refine lv_aload_n hx hb dX12_findRings_0 rfl (lv_at hl 0 rfl) ?_
  refine lv_iconst (v := 0) hx hb dX12_findRings_1 (by decide) ?_
  refine hp_put hx hb hts ix12 tyX12 tyX12_ok nmX12 hown hK hh (q := 0) rfl (hI.1 _ (by decide)) es1485 rfl 22 (by decide) (hts _ tw_901) (fun _ h9 => h9) rfl (ty := .int) (by decide +kernel) rfl rfl (Nat.le_of_ble_eq_true rfl) dX12_findRings_2 (fun H locs en_1486 hen_1486 hh => ?_)
  have es1485_1486 : en_1486 0 = .inr (11, [.int fa, .int hi, .int (nI wd), .int (nI mo), .int (nI tb), .ref (ad 1), .ref (ad 2), .ref (ad 3), .ref (ad 4), .ref (ad 5), .ref (ad 6), .ref (ad 7), .ref (ad 8), .ref (ad 9), .int dp, .long many, .long grt, .long lst, .long nou, .ref (ad 10), .ref (ad 11), .ref (ad 12), .int 0, .long rb, .ref (ad 13), .int pr, .ref (ad 14), .ref (ad 15), .ref (ad 16), .ref (ad 17), .int (nI wo), .ref (ad 18), .ref (ad 19)]) := by rw [hen_1486]; exact va_up_self _ _ _
  have hI_1486 : RX cy cs ad en_1486 := by rw [hen_1486]; exact upr_M hI ⟨fa, hi, wd, mo, tb, dp, many, grt, lst, nou, 0, rb, pr, wo, rfl, hwd2, hwd3, hmo, htb, hwo⟩
  have hf_1486 : ∀ c, (c ≠ 0 ∧ c ≠ 6 ∧ c ≠ 7 ∧ c ≠ 12 ∧ c ≠ 13) → en_1486 c = en c := fun c hc => Eq.trans (show en_1486 c = en c from by rw [hen_1486, va_up_ne _ _ (by omega)]) (hf0 c hc)
  have hkp_1486 : KP en en_1486 := KP_fv (KP_rf en) es1485 es1485_1486 hi (nI wd) (nI mo) (nI tb) pr (nI wo) rfl rfl rfl rfl rfl rfl rfl rfl rfl rfl rfl rfl
  refine lv_aload_n hx hb dX12_findRings_5 rfl (lv_at hl 0 rfl) ?_
  refine lv_lconst (v := 0) hx hb dX12_findRings_6 (by decide) ?_
  refine hp_put hx hb hts ix12 tyX12 tyX12_ok nmX12 hown hK hh (q := 0) rfl (hI.1 _ (by decide)) es1485_1486 rfl 23 (by decide) (hts _ tw_902) (fun _ h9 => h9) rfl (ty := .long) (by decide +kernel) rfl rfl (Nat.le_of_ble_eq_true rfl) dX12_findRings_7 (fun H locs en_1487 hen_1487 hh => ?_)
  have es1485_1487 : en_1487 0 = .inr (11, [.int fa, .int hi, .int (nI wd), .int (nI mo), .int (nI tb), .ref (ad 1), .ref (ad 2), .ref (ad 3), .ref (ad 4), .ref (ad 5), .ref (ad 6), .ref (ad 7), .ref (ad 8), .ref (ad 9), .int dp, .long many, .long grt, .long lst, .long nou, .ref (ad 10), .ref (ad 11), .ref (ad 12), .int 0, .long 0, .ref (ad 13), .int pr, .ref (ad 14), .ref (ad 15), .ref (ad 16), .ref (ad 17), .int (nI wo), .ref (ad 18), .ref (ad 19)]) := by rw [hen_1487]; exact va_up_self _ _ _
  have hI_1487 : RX cy cs ad en_1487 := by rw [hen_1487]; exact upr_M hI_1486 ⟨fa, hi, wd, mo, tb, dp, many, grt, lst, nou, 0, 0, pr, wo, rfl, hwd2, hwd3, hmo, htb, hwo⟩
  have hf_1487 : ∀ c, (c ≠ 0 ∧ c ≠ 6 ∧ c ≠ 7 ∧ c ≠ 12 ∧ c ≠ 13) → en_1487 c = en c := fun c hc => Eq.trans (show en_1487 c = en_1486 c from by rw [hen_1487, va_up_ne _ _ (by omega)]) (hf_1486 c hc)
  have hkp_1487 : KP en en_1487 := KP_fv hkp_1486 es1485_1486 es1485_1487 hi (nI wd) (nI mo) (nI tb) pr (nI wo) rfl rfl rfl rfl rfl rfl rfl rfl rfl rfl rfl rfl
  refine lv_aload_n hx hb dX12_findRings_10 rfl (lv_at hl 0 rfl) ?_
  refine hp_callMv (va_runV (As := []) (rest := []) ⟨hx, hb, hml, hown, hts⟩ (c_X12_beginWords l D cy _ cs ad en_1487 hI_1487  ) (kw_X12_beginWords hts tw_1038 ⟨by decide, by decide⟩) (preV_of hh hK (hI.1 _ (by decide)) es1485_1487 rfl) rfl rfl hl.1 rfl (lv_room (Nat.le_of_ble_eq_true rfl)) dX12_findRings_11 ⟨Nat.le_of_ble_eq_true rfl, Nat.le_of_ble_eq_true rfl⟩) hh hA (fun H locs en_1488 hw_1488 hh => ?_)
  obtain ⟨hI_1488, hu_1488, hd0_1488, hg0_1488, hx_1488⟩ := hw_1488
  have hND_1488 : ND en_1488 n 0 0 := ⟨by omega, Or.inl hd0_1488, fun i h => absurd h (Nat.not_lt_zero i), by rw [hg0_1488]; decide, by omega⟩
  have hf_1488 : ∀ c, (c ≠ 0 ∧ c ≠ 6 ∧ c ≠ 7 ∧ c ≠ 12 ∧ c ≠ 13) → en_1488 c = en c := fun c hc => (hu_1488 c (by omega)).trans (hf_1487 c hc)
  have hkp_1488 : KP en en_1488 := KP_tr hkp_1487 hx_1488
  have loop_1489 : ∀ (fu mm1489 : Nat)  (d1489 : Nat) (u1489 : Nat) (en_1489 : Nat → va_E) (ls : Array Slot) (H : Heap) (locs : List Loc), mm1489 < fu → RX cy cs ad en_1489 → (∀ c, (c ≠ 0 ∧ c ≠ 6 ∧ c ≠ 7 ∧ c ≠ 12 ∧ c ≠ 13) → en_1489 c = en c) → (ND en_1489 n d1489 u1489) → (134217728 ≤ nmv (rdF (en_1489 7)) d1489 u1489 + mm1489) → (KP en en_1489) → lv_has ls 3 [(0, .ref (ad 0)), (1, .int (nI n))] → Hp D (Af cs ad sz) (Af cs ad sz) s.heap H locs cs ad en_1489 → W p l e (headSpec (Cond.code yX12_findRings cX12_findRings 3 none :: TB) (rmN 3)).room s m ([.ref (ad 0), .int (nI n)] : List Value).toArray below meth c H locs 0 0 (MQ below (va_Qv (S := Nat → va_E) (fun en1 => RX cy cs ad en1 ∧ (∀ c, (c ≠ 0 ∧ c ≠ 6 ∧ c ≠ 7 ∧ c ≠ 12 ∧ c ≠ 13) → en1 c = en c) ∧ KP en en1) (PostM D cs ad) (Af cs ad sz)) ([.ref (ad 0), .int (nI n)] : List Value).toArray s 0 0 (Af cs ad sz)) (F0 m 14 ls []) := by
    intro fu
    induction fu with
    | zero => intro mm1489 d1489 u1489 en_1489 ls H locs h2; exact absurd h2 (by omega)
    | succ fu ih_1489 =>
      intro mm1489 d1489 u1489 en_1489 ls H locs hmm_1489 hI_1489 hf_1489 i0_1489 i1_1489 i2_1489 hl hh
      have hlt_1489 := nmv_lt i0_1489.2.2 (by have h9 := i0_1489.1; omega)
      have hwd_1489 := i0_1489.1
      refine lv_aload_n hx hb dX12_findRings_14 rfl (lv_at hl 0 rfl) ?_
      refine lv_iload_n hx hb dX12_findRings_15 rfl (lv_at hl 1 rfl) ?_
      obtain ⟨fa_1490, hi_1490, wd_1490, mo_1490, tb_1490, dp_1490, many_1490, grt_1490, lst_1490, nou_1490, rm_1490, rb_1490, pr_1490, wo_1490, es1490, p0_1490, p1_1490, p2_1490, p3_1490, p4_1490⟩ := getr_M hI_1489
      have hq2_1491 : wd_1490 = wd := n_eq ((show nI wd_1490 = rdI (en_1489 0) 2 from by rw [es1490]; rfl).trans (i2_1489.2.1.trans (show rdI (en 0) 2 = nI wd from by rw [es1485]; rfl))) (by omega) (by omega)
      have hq3_1491 : mo_1490 = mo := n_eq ((show nI mo_1490 = rdI (en_1489 0) 3 from by rw [es1490]; rfl).trans (i2_1489.2.2.1.trans (show rdI (en 0) 3 = nI mo from by rw [es1485]; rfl))) (by omega) (by omega)
      have hq4_1491 : tb_1490 = tb := n_eq ((show nI tb_1490 = rdI (en_1489 0) 4 from by rw [es1490]; rfl).trans (i2_1489.2.2.2.1.trans (show rdI (en 0) 4 = nI tb from by rw [es1485]; rfl))) (by omega) (by omega)
      have hq30_1491 : wo_1490 = wo := n_eq ((show nI wo_1490 = rdI (en_1489 0) 30 from by rw [es1490]; rfl).trans (i2_1489.2.2.2.2.2.trans (show rdI (en 0) 30 = nI wo from by rw [es1485]; rfl))) (by omega) (by omega)
      rw [hq2_1491, hq3_1491, hq4_1491, hq30_1491] at es1490
      refine hp_callMi (va_runV (As := [.int (nI n)]) (rest := []) ⟨hx, hb, hml, hown, hts⟩ (c_X12_next l D cy _ cs ad en_1489 hI_1489 n (by omega) (by omega) d1489 u1489 i0_1489) (kw_X12_next hts tw_1046 ⟨by decide, by decide⟩) (preV_of hh hK (hI.1 _ (by decide)) es1490 rfl) rfl rfl hl.1 rfl (lv_room (Nat.le_of_ble_eq_true rfl)) dX12_findRings_16 ⟨Nat.le_of_ble_eq_true rfl, Nat.le_of_ble_eq_true rfl⟩) hh hA (fun r_1492 H locs en_1492 hw_1492 hh => ?_)
      obtain ⟨hI_1492, hu_1492, hx_1492, hkq_1492⟩ := hw_1492
      have hf_1492 : ∀ c, (c ≠ 0 ∧ c ≠ 6 ∧ c ≠ 7 ∧ c ≠ 12 ∧ c ≠ 13) → en_1492 c = en c := fun c hc => (hu_1492 c (by omega)).trans (hf_1489 c hc)
      have hkp_1492 : KP en en_1492 := KP_tr i2_1489 hkq_1492
      rcases hx_1492 with hr_1492 | ⟨hr_1492, u1_1492, hND_1492, hu1_1492, hnm_1492⟩
      · rw [hr_1492]
        refine lv_if_eq (tgt := 131) hx hb dX12_findRings_19 (by decide) (fun _ => ?_) (fun c_0 => absurd c_0 (by decide))
        exact hp_vretM hx hb hr hlocks hh (⟨hI_1492, hf_1492, hkp_1492⟩) dX12_findRings_131
      · rw [hr_1492]
        have hall_1492 := NW_all hND_1492.2.2 (by omega) hu1_1492
        refine lv_if_eq (tgt := 131) hx hb dX12_findRings_19 (by decide) (fun c_0 => absurd c_0 (by decide)) (fun _ => ?_)
        refine lv_iconst (v := 0) hx hb dX12_findRings_22 (by decide) ?_
        refine lv_istore_n (lv' := [(2, .int 0), (0, .ref (ad 0)), (1, .int (nI n))]) hx hb dX12_findRings_23 rfl hl (by decide) rfl (fun ls hl => ?_)
        have loop_1493 : ∀ (fu j1493 : Nat)  (en_1493 : Nat → va_E) (ls : Array Slot) (H : Heap) (locs : List Loc), 0 ≤ j1493 → j1493 ≤ n → n < j1493 + fu → RX cy cs ad en_1493 → (∀ c, (c ≠ 0 ∧ c ≠ 6 ∧ c ≠ 7 ∧ c ≠ 12 ∧ c ≠ 13) → en_1493 c = en c) → (KP en en_1493) → (SD en_1492 en_1493) → lv_has ls 3 [(2, .int (nI j1493)), (0, .ref (ad 0)), (1, .int (nI n))] → Hp D (Af cs ad sz) (Af cs ad sz) s.heap H locs cs ad en_1493 → W p l e (headSpec (Cond.code yX12_findRings cX12_findRings 3 none :: TB) (rmN 3)).room s m ([.ref (ad 0), .int (nI n)] : List Value).toArray below meth c H locs 0 0 (MQ below (va_Qv (S := Nat → va_E) (fun en1 => RX cy cs ad en1 ∧ (∀ c, (c ≠ 0 ∧ c ≠ 6 ∧ c ≠ 7 ∧ c ≠ 12 ∧ c ≠ 13) → en1 c = en c) ∧ KP en en1) (PostM D cs ad) (Af cs ad sz)) ([.ref (ad 0), .int (nI n)] : List Value).toArray s 0 0 (Af cs ad sz)) (F0 m 24 ls []) := by
          intro fu
          induction fu with
          | zero => intro j1493  en_1493 ls H locs h0 h1 h2; exact absurd h2 (by omega)
          | succ fu ih_1493 =>
            intro j1493  en_1493 ls H locs hj0_1493 hj_1493 hfu_1493 hI_1493 hf_1493 i0_1493 i1_1493 hl hh
            refine lv_iload_n hx hb dX12_findRings_24 rfl (lv_at hl 0 rfl) ?_
            refine lv_iload_n hx hb dX12_findRings_25 rfl (lv_at hl 2 rfl) ?_
            refine lv_icmp_ge (tgt := 47) hx hb dX12_findRings_26 (by decide) (fun c_1494 => ?_) (fun c_1494 => ?_)
            · have n_1494 : n ≤ j1493 := n_le (a := n) (b := j1493) c_1494 (by omega) (by omega)
              refine lv_aload_n hx hb dX12_findRings_47 rfl (lv_at hl 1 rfl) ?_
              refine lv_iload_n hx hb dX12_findRings_48 rfl (lv_at hl 2 rfl) ?_
              obtain ⟨fa_1495, hi_1495, wd_1495, mo_1495, tb_1495, dp_1495, many_1495, grt_1495, lst_1495, nou_1495, rm_1495, rb_1495, pr_1495, wo_1495, es1495, p0_1495, p1_1495, p2_1495, p3_1495, p4_1495⟩ := getr_M hI_1493
              have hq2_1496 : wd_1495 = wd := n_eq ((show nI wd_1495 = rdI (en_1493 0) 2 from by rw [es1495]; rfl).trans (i0_1493.2.1.trans (show rdI (en 0) 2 = nI wd from by rw [es1485]; rfl))) (by omega) (by omega)
              have hq3_1496 : mo_1495 = mo := n_eq ((show nI mo_1495 = rdI (en_1493 0) 3 from by rw [es1495]; rfl).trans (i0_1493.2.2.1.trans (show rdI (en 0) 3 = nI mo from by rw [es1485]; rfl))) (by omega) (by omega)
              have hq4_1496 : tb_1495 = tb := n_eq ((show nI tb_1495 = rdI (en_1493 0) 4 from by rw [es1495]; rfl).trans (i0_1493.2.2.2.1.trans (show rdI (en 0) 4 = nI tb from by rw [es1485]; rfl))) (by omega) (by omega)
              have hq30_1496 : wo_1495 = wo := n_eq ((show nI wo_1495 = rdI (en_1493 0) 30 from by rw [es1495]; rfl).trans (i0_1493.2.2.2.2.2.trans (show rdI (en 0) 30 = nI wo from by rw [es1485]; rfl))) (by omega) (by omega)
              rw [hq2_1496, hq3_1496, hq4_1496, hq30_1496] at es1495
              refine hp_callRi (va_runV (As := [.int (nI n)]) (rest := []) ⟨hx, hb, hml, hown, hts⟩ (c_X12_isRing l D cy _ cs ad en_1493 hI_1493 n (by omega) (by omega)) (kw_X12_isRing hts tw_1077 ⟨by decide, by decide⟩) (preV_of hh hK (hI.1 _ (by decide)) es1495 rfl) rfl rfl hl.1 rfl (lv_room (Nat.le_of_ble_eq_true rfl)) dX12_findRings_49 ⟨Nat.le_of_ble_eq_true rfl, Nat.le_of_ble_eq_true rfl⟩) hh hA (fun r_1497 H locs hw_1497 hh => ?_)
              rcases hw_1497 with ⟨hb_1497, hy_1497⟩ | ⟨hb_1497, hy_1497⟩
              · obtain rfl : r_1497 = 1 := hb_1497
                refine lv_if_ne (tgt := 58) hx hb dX12_findRings_52 (by decide) (fun _ => ?_) (fun c_0 => absurd c_0 (by decide))
                have join_1498 : ∀  (en_1498 : Nat → va_E) (ls : Array Slot) (H : Heap) (locs : List Loc), RX cy cs ad en_1498 → (∀ c, (c ≠ 0 ∧ c ≠ 6 ∧ c ≠ 7 ∧ c ≠ 12 ∧ c ≠ 13) → en_1498 c = en c) → KP en en_1498 → SD en_1492 en_1498 → lv_has ls 3 [(0, .ref (ad 0)), (1, .int (nI n))] → Hp D (Af cs ad sz) (Af cs ad sz) s.heap H locs cs ad en_1498 → W p l e (headSpec (Cond.code yX12_findRings cX12_findRings 3 none :: TB) (rmN 3)).room s m ([.ref (ad 0), .int (nI n)] : List Value).toArray below meth c H locs 0 0 (MQ below (va_Qv (S := Nat → va_E) (fun en1 => RX cy cs ad en1 ∧ (∀ c, (c ≠ 0 ∧ c ≠ 6 ∧ c ≠ 7 ∧ c ≠ 12 ∧ c ≠ 13) → en1 c = en c) ∧ KP en en1) (PostM D cs ad) (Af cs ad sz)) ([.ref (ad 0), .int (nI n)] : List Value).toArray s 0 0 (Af cs ad sz)) (F0 m 118 ls []) := by
                  intro  en_1498 ls H locs hI_1498 hf_1498 hkp_1498 hsd_1498  hl hh
                  refine lv_aload_n hx hb dX12_findRings_118 rfl (lv_at hl 0 rfl) ?_
                  refine lv_dup hx hb dX12_findRings_119 rfl ?_
                  obtain ⟨fa_1499, hi_1499, wd_1499, mo_1499, tb_1499, dp_1499, many_1499, grt_1499, lst_1499, nou_1499, rm_1499, rb_1499, pr_1499, wo_1499, es1499, p0_1499, p1_1499, p2_1499, p3_1499, p4_1499⟩ := getr_M hI_1498
                  have hq2_1500 : wd_1499 = wd := n_eq ((show nI wd_1499 = rdI (en_1498 0) 2 from by rw [es1499]; rfl).trans (hkp_1498.2.1.trans (show rdI (en 0) 2 = nI wd from by rw [es1485]; rfl))) (by omega) (by omega)
                  have hq3_1500 : mo_1499 = mo := n_eq ((show nI mo_1499 = rdI (en_1498 0) 3 from by rw [es1499]; rfl).trans (hkp_1498.2.2.1.trans (show rdI (en 0) 3 = nI mo from by rw [es1485]; rfl))) (by omega) (by omega)
                  have hq4_1500 : tb_1499 = tb := n_eq ((show nI tb_1499 = rdI (en_1498 0) 4 from by rw [es1499]; rfl).trans (hkp_1498.2.2.2.1.trans (show rdI (en 0) 4 = nI tb from by rw [es1485]; rfl))) (by omega) (by omega)
                  have hq30_1500 : wo_1499 = wo := n_eq ((show nI wo_1499 = rdI (en_1498 0) 30 from by rw [es1499]; rfl).trans (hkp_1498.2.2.2.2.2.trans (show rdI (en 0) 30 = nI wo from by rw [es1485]; rfl))) (by omega) (by omega)
                  rw [hq2_1500, hq3_1500, hq4_1500, hq30_1500] at es1499
                  refine hp_get hx hb hts ix12 hown hK hh (q := 0) rfl (hI.1 _ (by decide)) es1499 rfl 22 (by decide) (hts _ tw_901) (fun _ h9 => h9) rfl dX12_findRings_120 ?_
                  refine lv_iconst (v := 1) hx hb dX12_findRings_123 (by decide) ?_
                  refine lv_iadd hx hb dX12_findRings_124 ?_
                  refine hp_put hx hb hts ix12 tyX12 tyX12_ok nmX12 hown hK hh (q := 0) rfl (hI.1 _ (by decide)) es1499 rfl 22 (by decide) (hts _ tw_901) (fun _ h9 => h9) rfl (ty := .int) (by decide +kernel) rfl rfl (Nat.le_of_ble_eq_true rfl) dX12_findRings_125 (fun H locs en_1501 hen_1501 hh => ?_)
                  have es1499_1501 : en_1501 0 = .inr (11, [.int fa_1499, .int hi_1499, .int (nI wd), .int (nI mo), .int (nI tb), .ref (ad 1), .ref (ad 2), .ref (ad 3), .ref (ad 4), .ref (ad 5), .ref (ad 6), .ref (ad 7), .ref (ad 8), .ref (ad 9), .int dp_1499, .long many_1499, .long grt_1499, .long lst_1499, .long nou_1499, .ref (ad 10), .ref (ad 11), .ref (ad 12), .int (rm_1499 + 1), .long rb_1499, .ref (ad 13), .int pr_1499, .ref (ad 14), .ref (ad 15), .ref (ad 16), .ref (ad 17), .int (nI wo), .ref (ad 18), .ref (ad 19)]) := by rw [hen_1501]; exact va_up_self _ _ _
                  have hI_1501 : RX cy cs ad en_1501 := by rw [hen_1501]; exact upr_M hI_1498 ⟨fa_1499, hi_1499, wd, mo, tb, dp_1499, many_1499, grt_1499, lst_1499, nou_1499, (rm_1499 + 1), rb_1499, pr_1499, wo, rfl, hwd2, hwd3, hmo, htb, hwo⟩
                  have hf_1501 : ∀ c, (c ≠ 0 ∧ c ≠ 6 ∧ c ≠ 7 ∧ c ≠ 12 ∧ c ≠ 13) → en_1501 c = en c := fun c hc => Eq.trans (show en_1501 c = en_1498 c from by rw [hen_1501, va_up_ne _ _ (by omega)]) (hf_1498 c hc)
                  have hkp_1501 : KP en en_1501 := KP_fv hkp_1498 es1499 es1499_1501 hi_1499 (nI wd) (nI mo) (nI tb) pr_1499 (nI wo) rfl rfl rfl rfl rfl rfl rfl rfl rfl rfl rfl rfl
                  have hsd_1501 : SD en_1492 en_1501 := SD_fv hsd_1498 es1499 es1499_1501 (show en_1501 7 = en_1498 7 from by rw [hen_1501, va_up_ne _ _ (by decide)]) dp_1499 rfl rfl
                  refine lv_goto (tgt := 14) hx hb dX12_findRings_128 (by decide) ?_
                  exact ih_1489 (mm1489 - 1) (n - 1) u1_1492 en_1501 ls H locs (by omega) hI_1501 hf_1501 (ND_sd hND_1492 hsd_1501) (by rw [hsd_1501.2]; have h1 := hnm_1492; have h2 := i1_1489; omega) (hkp_1501) (lv_sub hl [0, 1] rfl) hh
                refine lv_aload_n hx hb dX12_findRings_58 rfl (lv_at hl 1 rfl) ?_
                refine hp_get hx hb hts ix12 hown hK hh (q := 0) rfl (hI.1 _ (by decide)) es1495 rfl 22 (by decide) (hts _ tw_901) (fun _ h9 => h9) rfl dX12_findRings_59 ?_
                refine lv_if_eq (tgt := 84) hx hb dX12_findRings_62 (by decide) (fun c_1502 => ?_) (fun c_1502 => ?_)
                · refine lv_aload_n hx hb dX12_findRings_84 rfl (lv_at hl 1 rfl) ?_
                  refine lv_aload_n hx hb dX12_findRings_85 rfl (lv_at hl 1 rfl) ?_
                  refine lv_iload_n hx hb dX12_findRings_86 rfl (lv_at hl 2 rfl) ?_
                  refine hp_callRl (va_runV (As := [.int (nI n)]) (rest := [.ref (ad 0)]) ⟨hx, hb, hml, hown, hts⟩ (c_X12_trackAt l D cy _ cs ad en_1493 hI_1493 n (by omega)) (kw_X12_trackAt hts tw_1093 ⟨by decide, by decide⟩) (preV_of hh hK (hI.1 _ (by decide)) es1495 rfl) rfl rfl hl.1 rfl (lv_room (Nat.le_of_ble_eq_true rfl)) dX12_findRings_87 ⟨Nat.le_of_ble_eq_true rfl, Nat.le_of_ble_eq_true rfl⟩) hh hA (fun r_1503 H locs hw_1503 hh => ?_)
                  refine hp_put hx hb hts ix12 tyX12 tyX12_ok nmX12 hown hK hh (q := 0) rfl (hI.1 _ (by decide)) es1495 rfl 23 (by decide) (hts _ tw_902) (fun _ h9 => h9) rfl (ty := .long) (by decide +kernel) rfl rfl (Nat.le_of_ble_eq_true rfl) dX12_findRings_90 (fun H locs en_1504 hen_1504 hh => ?_)
                  have es1495_1504 : en_1504 0 = .inr (11, [.int fa_1495, .int hi_1495, .int (nI wd), .int (nI mo), .int (nI tb), .ref (ad 1), .ref (ad 2), .ref (ad 3), .ref (ad 4), .ref (ad 5), .ref (ad 6), .ref (ad 7), .ref (ad 8), .ref (ad 9), .int dp_1495, .long many_1495, .long grt_1495, .long lst_1495, .long nou_1495, .ref (ad 10), .ref (ad 11), .ref (ad 12), .int rm_1495, .long r_1503, .ref (ad 13), .int pr_1495, .ref (ad 14), .ref (ad 15), .ref (ad 16), .ref (ad 17), .int (nI wo), .ref (ad 18), .ref (ad 19)]) := by rw [hen_1504]; exact va_up_self _ _ _
                  have hI_1504 : RX cy cs ad en_1504 := by rw [hen_1504]; exact upr_M hI_1493 ⟨fa_1495, hi_1495, wd, mo, tb, dp_1495, many_1495, grt_1495, lst_1495, nou_1495, rm_1495, r_1503, pr_1495, wo, rfl, hwd2, hwd3, hmo, htb, hwo⟩
                  have hf_1504 : ∀ c, (c ≠ 0 ∧ c ≠ 6 ∧ c ≠ 7 ∧ c ≠ 12 ∧ c ≠ 13) → en_1504 c = en c := fun c hc => Eq.trans (show en_1504 c = en_1493 c from by rw [hen_1504, va_up_ne _ _ (by omega)]) (hf_1493 c hc)
                  have hkp_1504 : KP en en_1504 := KP_fv i0_1493 es1495 es1495_1504 hi_1495 (nI wd) (nI mo) (nI tb) pr_1495 (nI wo) rfl rfl rfl rfl rfl rfl rfl rfl rfl rfl rfl rfl
                  have hsd_1504 : SD en_1492 en_1504 := SD_fv i1_1493 es1495 es1495_1504 (show en_1504 7 = en_1493 7 from by rw [hen_1504, va_up_ne _ _ (by decide)]) dp_1495 rfl rfl
                  refine lv_iconst (v := 0) hx hb dX12_findRings_93 (by decide) ?_
                  refine lv_istore_n (lv' := [(2, .int 0), (0, .ref (ad 0)), (1, .int (nI n))]) hx hb dX12_findRings_94 rfl hl (by decide) rfl (fun ls hl => ?_)
                  have loop_1505 : ∀ (fu j1505 : Nat)  (en_1505 : Nat → va_E) (ls : Array Slot) (H : Heap) (locs : List Loc), 0 ≤ j1505 → j1505 ≤ n → n < j1505 + fu → RX cy cs ad en_1505 → (∀ c, (c ≠ 0 ∧ c ≠ 6 ∧ c ≠ 7 ∧ c ≠ 12 ∧ c ≠ 13) → en_1505 c = en c) → (KP en en_1505) → (SD en_1492 en_1505) → lv_has ls 3 [(2, .int (nI j1505)), (0, .ref (ad 0)), (1, .int (nI n))] → Hp D (Af cs ad sz) (Af cs ad sz) s.heap H locs cs ad en_1505 → W p l e (headSpec (Cond.code yX12_findRings cX12_findRings 3 none :: TB) (rmN 3)).room s m ([.ref (ad 0), .int (nI n)] : List Value).toArray below meth c H locs 0 0 (MQ below (va_Qv (S := Nat → va_E) (fun en1 => RX cy cs ad en1 ∧ (∀ c, (c ≠ 0 ∧ c ≠ 6 ∧ c ≠ 7 ∧ c ≠ 12 ∧ c ≠ 13) → en1 c = en c) ∧ KP en en1) (PostM D cs ad) (Af cs ad sz)) ([.ref (ad 0), .int (nI n)] : List Value).toArray s 0 0 (Af cs ad sz)) (F0 m 95 ls []) := by
                    intro fu
                    induction fu with
                    | zero => intro j1505  en_1505 ls H locs h0 h1 h2; exact absurd h2 (by omega)
                    | succ fu ih_1505 =>
                      intro j1505  en_1505 ls H locs hj0_1505 hj_1505 hfu_1505 hI_1505 hf_1505 i0_1505 i1_1505 hl hh
                      refine lv_iload_n hx hb dX12_findRings_95 rfl (lv_at hl 0 rfl) ?_
                      refine lv_iload_n hx hb dX12_findRings_96 rfl (lv_at hl 2 rfl) ?_
                      refine lv_icmp_ge (tgt := 118) hx hb dX12_findRings_97 (by decide) (fun c_1506 => ?_) (fun c_1506 => ?_)
                      · have n_1506 : n ≤ j1505 := n_le (a := n) (b := j1505) c_1506 (by omega) (by omega)
                        exact join_1498  en_1505 ls _ _ hI_1505 hf_1505 i0_1505 i1_1505 (lv_sub hl [1, 2] rfl) hh
                      · have n_1506 : j1505 < n := n_nle (a := n) (b := j1505) c_1506 (by omega) (by omega)
                        refine lv_aload_n hx hb dX12_findRings_100 rfl (lv_at hl 1 rfl) ?_
                        obtain ⟨fa_1507, hi_1507, wd_1507, mo_1507, tb_1507, dp_1507, many_1507, grt_1507, lst_1507, nou_1507, rm_1507, rb_1507, pr_1507, wo_1507, es1507, p0_1507, p1_1507, p2_1507, p3_1507, p4_1507⟩ := getr_M hI_1505
                        have hq2_1508 : wd_1507 = wd := n_eq ((show nI wd_1507 = rdI (en_1505 0) 2 from by rw [es1507]; rfl).trans (i0_1505.2.1.trans (show rdI (en 0) 2 = nI wd from by rw [es1485]; rfl))) (by omega) (by omega)
                        have hq3_1508 : mo_1507 = mo := n_eq ((show nI mo_1507 = rdI (en_1505 0) 3 from by rw [es1507]; rfl).trans (i0_1505.2.2.1.trans (show rdI (en 0) 3 = nI mo from by rw [es1485]; rfl))) (by omega) (by omega)
                        have hq4_1508 : tb_1507 = tb := n_eq ((show nI tb_1507 = rdI (en_1505 0) 4 from by rw [es1507]; rfl).trans (i0_1505.2.2.2.1.trans (show rdI (en 0) 4 = nI tb from by rw [es1485]; rfl))) (by omega) (by omega)
                        have hq30_1508 : wo_1507 = wo := n_eq ((show nI wo_1507 = rdI (en_1505 0) 30 from by rw [es1507]; rfl).trans (i0_1505.2.2.2.2.2.trans (show rdI (en 0) 30 = nI wo from by rw [es1485]; rfl))) (by omega) (by omega)
                        rw [hq2_1508, hq3_1508, hq4_1508, hq30_1508] at es1507
                        refine hp_get hx hb hts ix12 hown hK hh (q := 0) rfl (hI.1 _ (by decide)) es1507 rfl 24 (by decide) (hts _ tw_903) (fun _ h9 => h9) rfl dX12_findRings_101 ?_
                        refine lv_iload_n hx hb dX12_findRings_104 rfl (lv_at hl 0 rfl) ?_
                        refine lv_aload_n hx hb dX12_findRings_105 rfl (lv_at hl 1 rfl) ?_
                        refine hp_get hx hb hts ix12 hown hK hh (q := 0) rfl (hI.1 _ (by decide)) es1507 rfl 11 (by decide) (hts _ tw_890) (fun _ h9 => h9) rfl dX12_findRings_106 ?_
                        refine lv_iload_n hx hb dX12_findRings_109 rfl (lv_at hl 0 rfl) ?_
                        obtain ⟨f_1509, es1509⟩ := getr_nw hI_1505
                        refine hp_iald hx hb hK hh (q := 7) rfl (hI.1 _ (by decide)) es1509 (vp_in_nI (n := j1505) (by omega) (by decide)) dX12_findRings_110 ?_
                        rw [nI_clamp (n := j1505) (by omega)]
                        obtain ⟨v_1510, hv_1510, hve_1510⟩ := hall_1492 j1505 (by omega)
                        rw [show f_1509 j1505 = nI v_1510 from (show f_1509 j1505 = rdF (en_1492 7) j1505 from by rw [← i1_1505.2, es1509]; rfl).trans hve_1510]
                        obtain ⟨f_1511, es1511⟩ := getr_rw hI_1505
                        refine hp_iast hx hb hK hh (q := 13) rfl (hI.1 _ (by decide)) es1511 (vp_in_nI (n := j1505) (by omega) (by decide)) dX12_findRings_111 (fun H locs en_1512 hen_1512 hh => ?_)
                        rw [nI_clamp (n := j1505) (by omega)] at hen_1512
                        have es1507_1512 : en_1512 0 = .inr (11, [.int fa_1507, .int hi_1507, .int (nI wd), .int (nI mo), .int (nI tb), .ref (ad 1), .ref (ad 2), .ref (ad 3), .ref (ad 4), .ref (ad 5), .ref (ad 6), .ref (ad 7), .ref (ad 8), .ref (ad 9), .int dp_1507, .long many_1507, .long grt_1507, .long lst_1507, .long nou_1507, .ref (ad 10), .ref (ad 11), .ref (ad 12), .int rm_1507, .long rb_1507, .ref (ad 13), .int pr_1507, .ref (ad 14), .ref (ad 15), .ref (ad 16), .ref (ad 17), .int (nI wo), .ref (ad 18), .ref (ad 19)]) := by rw [hen_1512, va_up_ne _ _ (by decide)]; exact es1507
                        have es1509_1512 : en_1512 7 = .inl (cy 0, 13, .inl f_1509) := by rw [hen_1512, va_up_ne _ _ (by decide)]; exact es1509
                        have es1511_1512 : en_1512 13 = .inl (cy 0, 12, .inl (upd f_1511 j1505 (nI v_1510))) := by rw [hen_1512]; exact va_up_self _ _ _
                        have hI_1512 : RX cy cs ad en_1512 := by rw [hen_1512]; exact upr_rw hI_1505 ⟨(upd f_1511 j1505 (nI v_1510)), rfl⟩
                        have hf_1512 : ∀ c, (c ≠ 0 ∧ c ≠ 6 ∧ c ≠ 7 ∧ c ≠ 12 ∧ c ≠ 13) → en_1512 c = en c := fun c hc => Eq.trans (show en_1512 c = en_1505 c from by rw [hen_1512, va_up_ne _ _ (by omega)]) (hf_1505 c hc)
                        have hkp_1512 : KP en en_1512 := KP_same i0_1505 (show en_1512 0 = en_1505 0 from by rw [hen_1512, va_up_ne _ _ (by decide)])
                        have hsd_1512 : SD en_1492 en_1512 := SD_same i1_1505 (show en_1512 0 = en_1505 0 from by rw [hen_1512, va_up_ne _ _ (by decide)]) (show en_1512 7 = en_1505 7 from by rw [hen_1512, va_up_ne _ _ (by decide)])
                        refine lv_iinc (v := (nI (j1505 + 1))) (lv' := [(2, .int (nI (j1505 + 1))), (0, .ref (ad 0)), (1, .int (nI n))]) hx hb dX12_findRings_112 hl (k := 0) rfl (nI_1 _) (by decide) rfl (fun ls hl => ?_)
                        refine lv_goto (tgt := 95) hx hb dX12_findRings_115 (by decide) ?_
                        exact ih_1505 ((j1505 + 1))  en_1512 ls H locs (by omega) (by omega) (by omega) hI_1512 hf_1512 (hkp_1512) (hsd_1512) (lv_sub hl [0, 1, 2] rfl) hh
                  exact loop_1505 (n + 1) 0  en_1504 ls _ _ (Nat.le_refl _) (by omega) (by omega) hI_1504 hf_1504 (hkp_1504) (hsd_1504) (lv_sub hl [0, 1, 2] rfl) hh
                · refine lv_aload_n hx hb dX12_findRings_65 rfl (lv_at hl 1 rfl) ?_
                  refine lv_iload_n hx hb dX12_findRings_66 rfl (lv_at hl 2 rfl) ?_
                  refine hp_callRl (va_runV (As := [.int (nI n)]) (rest := []) ⟨hx, hb, hml, hown, hts⟩ (c_X12_trackAt l D cy _ cs ad en_1493 hI_1493 n (by omega)) (kw_X12_trackAt hts tw_1093 ⟨by decide, by decide⟩) (preV_of hh hK (hI.1 _ (by decide)) es1495 rfl) rfl rfl hl.1 rfl (lv_room (Nat.le_of_ble_eq_true rfl)) dX12_findRings_67 ⟨Nat.le_of_ble_eq_true rfl, Nat.le_of_ble_eq_true rfl⟩) hh hA (fun r_1513 H locs hw_1513 hh => ?_)
                  refine hp_callRl (va_runS (As := [.long r_1513]) (rest := []) ⟨hx, hb, hml, hown, hts⟩ (c_X12_sizeOf l D cy _ cs ad en_1493 hI_1493 r_1513 ) (kw_X12_sizeOf hts tw_1062 ⟨by decide, by decide⟩) (preS_of hh hK) rfl rfl hl.1 rfl (lv_room (Nat.le_of_ble_eq_true rfl)) dX12_findRings_70 ⟨Nat.le_of_ble_eq_true rfl, Nat.le_of_ble_eq_true rfl⟩) hh hA (fun r_1514 H locs hw_1514 hh => ?_)
                  obtain rfl : r_1514 = absR r_1513 := hw_1514
                  refine lv_aload_n hx hb dX12_findRings_73 rfl (lv_at hl 1 rfl) ?_
                  refine hp_get hx hb hts ix12 hown hK hh (q := 0) rfl (hI.1 _ (by decide)) es1495 rfl 23 (by decide) (hts _ tw_902) (fun _ h9 => h9) rfl dX12_findRings_74 ?_
                  refine hp_callRl (va_runS (As := [.long rb_1495]) (rest := [.long (absR r_1513)]) ⟨hx, hb, hml, hown, hts⟩ (c_X12_sizeOf l D cy _ cs ad en_1493 hI_1493 rb_1495 ) (kw_X12_sizeOf hts tw_1062 ⟨by decide, by decide⟩) (preS_of hh hK) rfl rfl hl.1 rfl (lv_room (Nat.le_of_ble_eq_true rfl)) dX12_findRings_77 ⟨Nat.le_of_ble_eq_true rfl, Nat.le_of_ble_eq_true rfl⟩) hh hA (fun r_1515 H locs hw_1515 hh => ?_)
                  obtain rfl : r_1515 = absR rb_1495 := hw_1515
                  refine W.lcmp hx hb dX12_findRings_80 ?_
                  refine lv_if_le (tgt := 118) hx hb dX12_findRings_81 (by decide) (fun c_1516 => ?_) (fun c_1516 => ?_)
                  · exact join_1498  en_1493 ls _ _ hI_1493 hf_1493 i0_1493 i1_1493 (lv_sub hl [1, 2] rfl) hh
                  · refine lv_aload_n hx hb dX12_findRings_84 rfl (lv_at hl 1 rfl) ?_
                    refine lv_aload_n hx hb dX12_findRings_85 rfl (lv_at hl 1 rfl) ?_
                    refine lv_iload_n hx hb dX12_findRings_86 rfl (lv_at hl 2 rfl) ?_
                    refine hp_callRl (va_runV (As := [.int (nI n)]) (rest := [.ref (ad 0)]) ⟨hx, hb, hml, hown, hts⟩ (c_X12_trackAt l D cy _ cs ad en_1493 hI_1493 n (by omega)) (kw_X12_trackAt hts tw_1093 ⟨by decide, by decide⟩) (preV_of hh hK (hI.1 _ (by decide)) es1495 rfl) rfl rfl hl.1 rfl (lv_room (Nat.le_of_ble_eq_true rfl)) dX12_findRings_87 ⟨Nat.le_of_ble_eq_true rfl, Nat.le_of_ble_eq_true rfl⟩) hh hA (fun r_1517 H locs hw_1517 hh => ?_)
                    refine hp_put hx hb hts ix12 tyX12 tyX12_ok nmX12 hown hK hh (q := 0) rfl (hI.1 _ (by decide)) es1495 rfl 23 (by decide) (hts _ tw_902) (fun _ h9 => h9) rfl (ty := .long) (by decide +kernel) rfl rfl (Nat.le_of_ble_eq_true rfl) dX12_findRings_90 (fun H locs en_1518 hen_1518 hh => ?_)
                    have es1495_1518 : en_1518 0 = .inr (11, [.int fa_1495, .int hi_1495, .int (nI wd), .int (nI mo), .int (nI tb), .ref (ad 1), .ref (ad 2), .ref (ad 3), .ref (ad 4), .ref (ad 5), .ref (ad 6), .ref (ad 7), .ref (ad 8), .ref (ad 9), .int dp_1495, .long many_1495, .long grt_1495, .long lst_1495, .long nou_1495, .ref (ad 10), .ref (ad 11), .ref (ad 12), .int rm_1495, .long r_1517, .ref (ad 13), .int pr_1495, .ref (ad 14), .ref (ad 15), .ref (ad 16), .ref (ad 17), .int (nI wo), .ref (ad 18), .ref (ad 19)]) := by rw [hen_1518]; exact va_up_self _ _ _
                    have hI_1518 : RX cy cs ad en_1518 := by rw [hen_1518]; exact upr_M hI_1493 ⟨fa_1495, hi_1495, wd, mo, tb, dp_1495, many_1495, grt_1495, lst_1495, nou_1495, rm_1495, r_1517, pr_1495, wo, rfl, hwd2, hwd3, hmo, htb, hwo⟩
                    have hf_1518 : ∀ c, (c ≠ 0 ∧ c ≠ 6 ∧ c ≠ 7 ∧ c ≠ 12 ∧ c ≠ 13) → en_1518 c = en c := fun c hc => Eq.trans (show en_1518 c = en_1493 c from by rw [hen_1518, va_up_ne _ _ (by omega)]) (hf_1493 c hc)
                    have hkp_1518 : KP en en_1518 := KP_fv i0_1493 es1495 es1495_1518 hi_1495 (nI wd) (nI mo) (nI tb) pr_1495 (nI wo) rfl rfl rfl rfl rfl rfl rfl rfl rfl rfl rfl rfl
                    have hsd_1518 : SD en_1492 en_1518 := SD_fv i1_1493 es1495 es1495_1518 (show en_1518 7 = en_1493 7 from by rw [hen_1518, va_up_ne _ _ (by decide)]) dp_1495 rfl rfl
                    refine lv_iconst (v := 0) hx hb dX12_findRings_93 (by decide) ?_
                    refine lv_istore_n (lv' := [(2, .int 0), (0, .ref (ad 0)), (1, .int (nI n))]) hx hb dX12_findRings_94 rfl hl (by decide) rfl (fun ls hl => ?_)
                    have loop_1519 : ∀ (fu j1519 : Nat)  (en_1519 : Nat → va_E) (ls : Array Slot) (H : Heap) (locs : List Loc), 0 ≤ j1519 → j1519 ≤ n → n < j1519 + fu → RX cy cs ad en_1519 → (∀ c, (c ≠ 0 ∧ c ≠ 6 ∧ c ≠ 7 ∧ c ≠ 12 ∧ c ≠ 13) → en_1519 c = en c) → (KP en en_1519) → (SD en_1492 en_1519) → lv_has ls 3 [(2, .int (nI j1519)), (0, .ref (ad 0)), (1, .int (nI n))] → Hp D (Af cs ad sz) (Af cs ad sz) s.heap H locs cs ad en_1519 → W p l e (headSpec (Cond.code yX12_findRings cX12_findRings 3 none :: TB) (rmN 3)).room s m ([.ref (ad 0), .int (nI n)] : List Value).toArray below meth c H locs 0 0 (MQ below (va_Qv (S := Nat → va_E) (fun en1 => RX cy cs ad en1 ∧ (∀ c, (c ≠ 0 ∧ c ≠ 6 ∧ c ≠ 7 ∧ c ≠ 12 ∧ c ≠ 13) → en1 c = en c) ∧ KP en en1) (PostM D cs ad) (Af cs ad sz)) ([.ref (ad 0), .int (nI n)] : List Value).toArray s 0 0 (Af cs ad sz)) (F0 m 95 ls []) := by
                      intro fu
                      induction fu with
                      | zero => intro j1519  en_1519 ls H locs h0 h1 h2; exact absurd h2 (by omega)
                      | succ fu ih_1519 =>
                        intro j1519  en_1519 ls H locs hj0_1519 hj_1519 hfu_1519 hI_1519 hf_1519 i0_1519 i1_1519 hl hh
                        refine lv_iload_n hx hb dX12_findRings_95 rfl (lv_at hl 0 rfl) ?_
                        refine lv_iload_n hx hb dX12_findRings_96 rfl (lv_at hl 2 rfl) ?_
                        refine lv_icmp_ge (tgt := 118) hx hb dX12_findRings_97 (by decide) (fun c_1520 => ?_) (fun c_1520 => ?_)
                        · have n_1520 : n ≤ j1519 := n_le (a := n) (b := j1519) c_1520 (by omega) (by omega)
                          exact join_1498  en_1519 ls _ _ hI_1519 hf_1519 i0_1519 i1_1519 (lv_sub hl [1, 2] rfl) hh
                        · have n_1520 : j1519 < n := n_nle (a := n) (b := j1519) c_1520 (by omega) (by omega)
                          refine lv_aload_n hx hb dX12_findRings_100 rfl (lv_at hl 1 rfl) ?_
                          obtain ⟨fa_1521, hi_1521, wd_1521, mo_1521, tb_1521, dp_1521, many_1521, grt_1521, lst_1521, nou_1521, rm_1521, rb_1521, pr_1521, wo_1521, es1521, p0_1521, p1_1521, p2_1521, p3_1521, p4_1521⟩ := getr_M hI_1519
                          have hq2_1522 : wd_1521 = wd := n_eq ((show nI wd_1521 = rdI (en_1519 0) 2 from by rw [es1521]; rfl).trans (i0_1519.2.1.trans (show rdI (en 0) 2 = nI wd from by rw [es1485]; rfl))) (by omega) (by omega)
                          have hq3_1522 : mo_1521 = mo := n_eq ((show nI mo_1521 = rdI (en_1519 0) 3 from by rw [es1521]; rfl).trans (i0_1519.2.2.1.trans (show rdI (en 0) 3 = nI mo from by rw [es1485]; rfl))) (by omega) (by omega)
                          have hq4_1522 : tb_1521 = tb := n_eq ((show nI tb_1521 = rdI (en_1519 0) 4 from by rw [es1521]; rfl).trans (i0_1519.2.2.2.1.trans (show rdI (en 0) 4 = nI tb from by rw [es1485]; rfl))) (by omega) (by omega)
                          have hq30_1522 : wo_1521 = wo := n_eq ((show nI wo_1521 = rdI (en_1519 0) 30 from by rw [es1521]; rfl).trans (i0_1519.2.2.2.2.2.trans (show rdI (en 0) 30 = nI wo from by rw [es1485]; rfl))) (by omega) (by omega)
                          rw [hq2_1522, hq3_1522, hq4_1522, hq30_1522] at es1521
                          refine hp_get hx hb hts ix12 hown hK hh (q := 0) rfl (hI.1 _ (by decide)) es1521 rfl 24 (by decide) (hts _ tw_903) (fun _ h9 => h9) rfl dX12_findRings_101 ?_
                          refine lv_iload_n hx hb dX12_findRings_104 rfl (lv_at hl 0 rfl) ?_
                          refine lv_aload_n hx hb dX12_findRings_105 rfl (lv_at hl 1 rfl) ?_
                          refine hp_get hx hb hts ix12 hown hK hh (q := 0) rfl (hI.1 _ (by decide)) es1521 rfl 11 (by decide) (hts _ tw_890) (fun _ h9 => h9) rfl dX12_findRings_106 ?_
                          refine lv_iload_n hx hb dX12_findRings_109 rfl (lv_at hl 0 rfl) ?_
                          obtain ⟨f_1523, es1523⟩ := getr_nw hI_1519
                          refine hp_iald hx hb hK hh (q := 7) rfl (hI.1 _ (by decide)) es1523 (vp_in_nI (n := j1519) (by omega) (by decide)) dX12_findRings_110 ?_
                          rw [nI_clamp (n := j1519) (by omega)]
                          obtain ⟨v_1524, hv_1524, hve_1524⟩ := hall_1492 j1519 (by omega)
                          rw [show f_1523 j1519 = nI v_1524 from (show f_1523 j1519 = rdF (en_1492 7) j1519 from by rw [← i1_1519.2, es1523]; rfl).trans hve_1524]
                          obtain ⟨f_1525, es1525⟩ := getr_rw hI_1519
                          refine hp_iast hx hb hK hh (q := 13) rfl (hI.1 _ (by decide)) es1525 (vp_in_nI (n := j1519) (by omega) (by decide)) dX12_findRings_111 (fun H locs en_1526 hen_1526 hh => ?_)
                          rw [nI_clamp (n := j1519) (by omega)] at hen_1526
                          have es1521_1526 : en_1526 0 = .inr (11, [.int fa_1521, .int hi_1521, .int (nI wd), .int (nI mo), .int (nI tb), .ref (ad 1), .ref (ad 2), .ref (ad 3), .ref (ad 4), .ref (ad 5), .ref (ad 6), .ref (ad 7), .ref (ad 8), .ref (ad 9), .int dp_1521, .long many_1521, .long grt_1521, .long lst_1521, .long nou_1521, .ref (ad 10), .ref (ad 11), .ref (ad 12), .int rm_1521, .long rb_1521, .ref (ad 13), .int pr_1521, .ref (ad 14), .ref (ad 15), .ref (ad 16), .ref (ad 17), .int (nI wo), .ref (ad 18), .ref (ad 19)]) := by rw [hen_1526, va_up_ne _ _ (by decide)]; exact es1521
                          have es1523_1526 : en_1526 7 = .inl (cy 0, 13, .inl f_1523) := by rw [hen_1526, va_up_ne _ _ (by decide)]; exact es1523
                          have es1525_1526 : en_1526 13 = .inl (cy 0, 12, .inl (upd f_1525 j1519 (nI v_1524))) := by rw [hen_1526]; exact va_up_self _ _ _
                          have hI_1526 : RX cy cs ad en_1526 := by rw [hen_1526]; exact upr_rw hI_1519 ⟨(upd f_1525 j1519 (nI v_1524)), rfl⟩
                          have hf_1526 : ∀ c, (c ≠ 0 ∧ c ≠ 6 ∧ c ≠ 7 ∧ c ≠ 12 ∧ c ≠ 13) → en_1526 c = en c := fun c hc => Eq.trans (show en_1526 c = en_1519 c from by rw [hen_1526, va_up_ne _ _ (by omega)]) (hf_1519 c hc)
                          have hkp_1526 : KP en en_1526 := KP_same i0_1519 (show en_1526 0 = en_1519 0 from by rw [hen_1526, va_up_ne _ _ (by decide)])
                          have hsd_1526 : SD en_1492 en_1526 := SD_same i1_1519 (show en_1526 0 = en_1519 0 from by rw [hen_1526, va_up_ne _ _ (by decide)]) (show en_1526 7 = en_1519 7 from by rw [hen_1526, va_up_ne _ _ (by decide)])
                          refine lv_iinc (v := (nI (j1519 + 1))) (lv' := [(2, .int (nI (j1519 + 1))), (0, .ref (ad 0)), (1, .int (nI n))]) hx hb dX12_findRings_112 hl (k := 0) rfl (nI_1 _) (by decide) rfl (fun ls hl => ?_)
                          refine lv_goto (tgt := 95) hx hb dX12_findRings_115 (by decide) ?_
                          exact ih_1519 ((j1519 + 1))  en_1526 ls H locs (by omega) (by omega) (by omega) hI_1526 hf_1526 (hkp_1526) (hsd_1526) (lv_sub hl [0, 1, 2] rfl) hh
                    exact loop_1519 (n + 1) 0  en_1518 ls _ _ (Nat.le_refl _) (by omega) (by omega) hI_1518 hf_1518 (hkp_1518) (hsd_1518) (lv_sub hl [0, 1, 2] rfl) hh
              · obtain rfl : r_1497 = 0 := hb_1497
                refine lv_if_ne (tgt := 58) hx hb dX12_findRings_52 (by decide) (fun c_0 => absurd c_0 (by decide)) (fun _ => ?_)
                refine lv_goto (tgt := 14) hx hb dX12_findRings_55 (by decide) ?_
                exact ih_1489 (mm1489 - 1) (n - 1) u1_1492 en_1493 ls H locs (by omega) hI_1493 hf_1493 (ND_sd hND_1492 i1_1493) (by rw [i1_1493.2]; have h1 := hnm_1492; have h2 := i1_1489; omega) (i0_1493) (lv_sub hl [1, 2] rfl) hh
            · have n_1494 : j1493 < n := n_nle (a := n) (b := j1493) c_1494 (by omega) (by omega)
              refine lv_aload_n hx hb dX12_findRings_29 rfl (lv_at hl 1 rfl) ?_
              obtain ⟨fa_1527, hi_1527, wd_1527, mo_1527, tb_1527, dp_1527, many_1527, grt_1527, lst_1527, nou_1527, rm_1527, rb_1527, pr_1527, wo_1527, es1527, p0_1527, p1_1527, p2_1527, p3_1527, p4_1527⟩ := getr_M hI_1493
              have hq2_1528 : wd_1527 = wd := n_eq ((show nI wd_1527 = rdI (en_1493 0) 2 from by rw [es1527]; rfl).trans (i0_1493.2.1.trans (show rdI (en 0) 2 = nI wd from by rw [es1485]; rfl))) (by omega) (by omega)
              have hq3_1528 : mo_1527 = mo := n_eq ((show nI mo_1527 = rdI (en_1493 0) 3 from by rw [es1527]; rfl).trans (i0_1493.2.2.1.trans (show rdI (en 0) 3 = nI mo from by rw [es1485]; rfl))) (by omega) (by omega)
              have hq4_1528 : tb_1527 = tb := n_eq ((show nI tb_1527 = rdI (en_1493 0) 4 from by rw [es1527]; rfl).trans (i0_1493.2.2.2.1.trans (show rdI (en 0) 4 = nI tb from by rw [es1485]; rfl))) (by omega) (by omega)
              have hq30_1528 : wo_1527 = wo := n_eq ((show nI wo_1527 = rdI (en_1493 0) 30 from by rw [es1527]; rfl).trans (i0_1493.2.2.2.2.2.trans (show rdI (en 0) 30 = nI wo from by rw [es1485]; rfl))) (by omega) (by omega)
              rw [hq2_1528, hq3_1528, hq4_1528, hq30_1528] at es1527
              refine hp_get hx hb hts ix12 hown hK hh (q := 0) rfl (hI.1 _ (by decide)) es1527 rfl 21 (by decide) (hts _ tw_900) (fun _ h9 => h9) rfl dX12_findRings_30 ?_
              refine lv_iload_n hx hb dX12_findRings_33 rfl (lv_at hl 0 rfl) ?_
              refine lv_aload_n hx hb dX12_findRings_34 rfl (lv_at hl 1 rfl) ?_
              refine hp_get hx hb hts ix12 hown hK hh (q := 0) rfl (hI.1 _ (by decide)) es1527 rfl 11 (by decide) (hts _ tw_890) (fun _ h9 => h9) rfl dX12_findRings_35 ?_
              refine lv_iload_n hx hb dX12_findRings_38 rfl (lv_at hl 0 rfl) ?_
              obtain ⟨f_1529, es1529⟩ := getr_nw hI_1493
              refine hp_iald hx hb hK hh (q := 7) rfl (hI.1 _ (by decide)) es1529 (vp_in_nI (n := j1493) (by omega) (by decide)) dX12_findRings_39 ?_
              rw [nI_clamp (n := j1493) (by omega)]
              obtain ⟨v_1530, hv_1530, hve_1530⟩ := hall_1492 j1493 (by omega)
              rw [show f_1529 j1493 = nI v_1530 from (show f_1529 j1493 = rdF (en_1492 7) j1493 from by rw [← i1_1493.2, es1529]; rfl).trans hve_1530]
              obtain ⟨f_1531, es1531, p0_1531⟩ := getr_ak hI_1493
              refine hp_iast hx hb hK hh (q := 12) rfl (hI.1 _ (by decide)) es1531 (vp_in_nI (n := j1493) (by omega) (by decide)) dX12_findRings_40 (fun H locs en_1532 hen_1532 hh => ?_)
              rw [nI_clamp (n := j1493) (by omega)] at hen_1532
              have es1527_1532 : en_1532 0 = .inr (11, [.int fa_1527, .int hi_1527, .int (nI wd), .int (nI mo), .int (nI tb), .ref (ad 1), .ref (ad 2), .ref (ad 3), .ref (ad 4), .ref (ad 5), .ref (ad 6), .ref (ad 7), .ref (ad 8), .ref (ad 9), .int dp_1527, .long many_1527, .long grt_1527, .long lst_1527, .long nou_1527, .ref (ad 10), .ref (ad 11), .ref (ad 12), .int rm_1527, .long rb_1527, .ref (ad 13), .int pr_1527, .ref (ad 14), .ref (ad 15), .ref (ad 16), .ref (ad 17), .int (nI wo), .ref (ad 18), .ref (ad 19)]) := by rw [hen_1532, va_up_ne _ _ (by decide)]; exact es1527
              have es1529_1532 : en_1532 7 = .inl (cy 0, 13, .inl f_1529) := by rw [hen_1532, va_up_ne _ _ (by decide)]; exact es1529
              have es1531_1532 : en_1532 12 = .inl (cy 0, 12, .inl (upd f_1531 j1493 (nI v_1530))) := by rw [hen_1532]; exact va_up_self _ _ _
              have hI_1532 : RX cy cs ad en_1532 := by rw [hen_1532]; exact upr_ak hI_1493 ⟨(upd f_1531 j1493 (nI v_1530)), rfl, (vals_updB p0_1531 (by omega))⟩
              have hf_1532 : ∀ c, (c ≠ 0 ∧ c ≠ 6 ∧ c ≠ 7 ∧ c ≠ 12 ∧ c ≠ 13) → en_1532 c = en c := fun c hc => Eq.trans (show en_1532 c = en_1493 c from by rw [hen_1532, va_up_ne _ _ (by omega)]) (hf_1493 c hc)
              have hkp_1532 : KP en en_1532 := KP_same i0_1493 (show en_1532 0 = en_1493 0 from by rw [hen_1532, va_up_ne _ _ (by decide)])
              have hsd_1532 : SD en_1492 en_1532 := SD_same i1_1493 (show en_1532 0 = en_1493 0 from by rw [hen_1532, va_up_ne _ _ (by decide)]) (show en_1532 7 = en_1493 7 from by rw [hen_1532, va_up_ne _ _ (by decide)])
              refine lv_iinc (v := (nI (j1493 + 1))) (lv' := [(2, .int (nI (j1493 + 1))), (0, .ref (ad 0)), (1, .int (nI n))]) hx hb dX12_findRings_41 hl (k := 0) rfl (nI_1 _) (by decide) rfl (fun ls hl => ?_)
              refine lv_goto (tgt := 24) hx hb dX12_findRings_44 (by decide) ?_
              exact ih_1493 ((j1493 + 1))  en_1532 ls H locs (by omega) (by omega) (by omega) hI_1532 hf_1532 (hkp_1532) (hsd_1532) (lv_sub hl [0, 1, 2] rfl) hh
        exact loop_1493 (n + 1) 0  en_1492 ls _ _ (Nat.le_refl _) (by omega) (by omega) hI_1492 hf_1492 (hkp_1492) ((SD_rf en_1492)) (lv_sub hl [0, 1, 2] rfl) hh
  exact loop_1489 (134217728 + 1) 134217728 0 0 en_1488 ls _ _ (by omega) hI_1488 hf_1488 (hND_1488) (by omega) (hkp_1488) (lv_sub hl [0, 1] rfl) hh
theorem kw_X12_findRings {R : Room} {s : State} {args : Array Value} {own : String} {idx : Nat} (hts : ∀ w ∈ TB, w.before args s = true) (hl : Cond.methodLink own idx yX12_findRings ∈ TB) (hR : 3 + 1 ≤ R.frames ∧ 8 + (3 + 11) + 40 * 3 ≤ R.locals) : CallW R s args own RX12 idx yX12_findRings cX12_findRings 3 none (Cond.code yX12_findRings cX12_findRings 3 none :: TB) (rmN 3) 0 0 1 := cwV 1 hts (TB_V hl tw_1075 ts_44 tw_9 tw_1076) rfl rfl rfl (by decide +kernel) hR
set_option maxHeartbeats 4000000 in
set_option maxRecDepth 100000 in
/-- X12_rings -/
theorem c_X12_rings (l : Launch) (D : va_G) (cy : Nat → ClassId) (sz : Nat) (cs : List Nat) (ad : Nat → Nat) (en : Nat → va_E) (hI : RX cy cs ad en) (n9 : Int32)   : Met l yX12_rings (Cond.code yX12_rings cX12_rings 2 (some .int) :: TB) (rmN 4) (va_Pc [.ref (ad 0), .int n9] (Pre D cy cs ad en sz)) (va_Qi (S := Nat → va_E) (fun r en1 => RX cy cs ad en1 ∧ (∀ c, (c ≠ 0 ∧ c ≠ 6 ∧ c ≠ 7 ∧ c ≠ 8 ∧ c ≠ 9 ∧ c ≠ 12 ∧ c ≠ 13) → en1 c = en c) ∧ KP en en1) (PostM D cs ad) (Af cs ad sz)) 0 0 (Af cs ad sz) := by
  refine Met.ofW (cc := cX12_rings) (maxL := 2) (ret := (some .int)) (by decide) rfl ?_
  intro p e s m args below meth c s₁ B hml hv
  obtain ⟨rfl, hsz, hP, hK, hD0⟩ := hv
  have hx := B.exec
  have hb := B.bytes
  have hr := B.returns
  have hts : ∀ w ∈ TB, w.before _ s = true := fun w h => atoms_spec (ws := _ :: TB) B.pre w (List.mem_cons_of_mem _ h)
  have hown : s.vm.findClass RX12 = some m.cls := findClass_of_methodNamed B.named
  have hlocks := B.notSynchronized
  have hh : Hp D (Af cs ad sz) (Af cs ad sz) s.heap s.heap [] cs ad en := ⟨hP, Af_self hD0, va_S.rf⟩
  have hA : ∀ q : Nat, s.heap.size ≤ q → Af cs ad sz q := fun q h => Or.inr (by rw [hsz] at h; exact h)
  have hl := lv_entry ([.ref (ad 0), .int n9]) (n := 2) (Nat.le_of_ble_eq_true rfl)
  rw [lg_entry_eq]
  generalize (lg_sl ([.ref (ad 0), .int n9]) ++ List.replicate (2 - (lg_sl ([.ref (ad 0), .int n9])).length) Slot.unset).toArray = ls at hl ⊢
  have hl : lv_has ls 2 [(0, .ref (ad 0)), (1, .int n9)] := hl
  have hf0 : ∀ c, (c ≠ 0 ∧ c ≠ 6 ∧ c ≠ 7 ∧ c ≠ 8 ∧ c ≠ 9 ∧ c ≠ 12 ∧ c ≠ 13) → en c = en c := fun _ _ => rfl
  obtain ⟨fa, hi, wd, mo, tb, dp, many, grt, lst, nou, rm, rb, pr, wo, es1533, hwd2, hwd3, hmo, htb, hwo⟩ := getr_M hI
  refine lv_iload_n hx hb dX12_rings_0 rfl (lv_at hl 1 rfl) ?_
  refine lv_i2l hx hb dX12_rings_1 rfl ?_
  refine lv_lconst (v := 1) hx hb dX12_rings_2 (by decide) ?_
  refine lv_ldc2 hx hb hown (hts _ tw_1024) dX12_rings_3 ?_
  refine hp_callRi (va_runS (As := [.long n9.toInt64, .long 1, .long 8]) (rest := []) ⟨hx, hb, hml, hown, hts⟩ (c_X12_within l D cy _ cs ad en n9.toInt64 1 8) (kw_X12_within hts tw_985 ⟨by decide, by decide⟩) (preS_of hh hK) rfl rfl hl.1 rfl (lv_room (Nat.le_of_ble_eq_true rfl)) dX12_rings_6 ⟨Nat.le_of_ble_eq_true rfl, Nat.le_of_ble_eq_true rfl⟩) hh hA (fun r_1534 H locs hw_1534 hh => ?_)
  rcases Decidable.em (wi n9 1 8) with hp_1534 | hp_1534
  · obtain rfl : r_1534 = 1 := Eq.trans hw_1534 (if_pos ((wj_32 (by decide) (by decide)).mpr hp_1534))
    obtain ⟨N_1534, rfl, hA_1534, hB_1534⟩ := wi_natB hp_1534 1 8 (by decide) (by decide)
    refine lv_if_ne (tgt := 15) hx hb dX12_rings_9 (by decide) (fun _ => ?_) (fun c_0 => absurd c_0 (by decide))
    refine lv_aload_n hx hb dX12_rings_15 rfl (lv_at hl 0 rfl) ?_
    refine lv_iload_n hx hb dX12_rings_16 rfl (lv_at hl 1 rfl) ?_
    refine hp_callMi (va_runV (As := [.int (nI N_1534)]) (rest := []) ⟨hx, hb, hml, hown, hts⟩ (c_X12_isSpent l D cy _ cs ad en hI N_1534 (by omega)) (kw_X12_isSpent hts tw_1025 ⟨by decide, by decide⟩) (preV_of hh hK (hI.1 _ (by decide)) es1533 rfl) rfl rfl hl.1 rfl (lv_room (Nat.le_of_ble_eq_true rfl)) dX12_rings_17 ⟨Nat.le_of_ble_eq_true rfl, Nat.le_of_ble_eq_true rfl⟩) hh hA (fun r_1535 H locs en_1535 hw_1535 hh => ?_)
    obtain ⟨hI_1535, hu_1535, hx_1535⟩ := hw_1535
    have es1533_1535 : en_1535 0 = .inr (11, [.int fa, .int hi, .int (nI wd), .int (nI mo), .int (nI tb), .ref (ad 1), .ref (ad 2), .ref (ad 3), .ref (ad 4), .ref (ad 5), .ref (ad 6), .ref (ad 7), .ref (ad 8), .ref (ad 9), .int dp, .long many, .long grt, .long lst, .long nou, .ref (ad 10), .ref (ad 11), .ref (ad 12), .int rm, .long rb, .ref (ad 13), .int pr, .ref (ad 14), .ref (ad 15), .ref (ad 16), .ref (ad 17), .int (nI wo), .ref (ad 18), .ref (ad 19)]) := (hu_1535 0 (by omega)).trans es1533
    have hf_1535 : ∀ c, (c ≠ 0 ∧ c ≠ 6 ∧ c ≠ 7 ∧ c ≠ 8 ∧ c ≠ 9 ∧ c ≠ 12 ∧ c ≠ 13) → en_1535 c = en c := fun c hc => (hu_1535 c (by omega)).trans (hf0 c hc)
    have hkp_1535 : KP en en_1535 := KP_same (KP_rf en) (hu_1535 0 (by omega))
    have hw_1535 := hx_1535
    rcases hw_1535 with hb_1535 | hb_1535
    · obtain rfl : r_1535 = 0 := hb_1535
      refine lv_if_eq (tgt := 26) hx hb dX12_rings_20 (by decide) (fun _ => ?_) (fun c_0 => absurd c_0 (by decide))
      refine lv_aload_n hx hb dX12_rings_26 rfl (lv_at hl 0 rfl) ?_
      refine lv_iload_n hx hb dX12_rings_27 rfl (lv_at hl 1 rfl) ?_
      refine hp_callMv (va_runV (As := [.int (nI N_1534)]) (rest := []) ⟨hx, hb, hml, hown, hts⟩ (c_X12_findRings l D cy _ cs ad en_1535 hI_1535 N_1534 (by omega) (by omega)) (kw_X12_findRings hts tw_1073 ⟨by decide, by decide⟩) (preV_of hh hK (hI.1 _ (by decide)) es1533_1535 rfl) rfl rfl hl.1 rfl (lv_room (Nat.le_of_ble_eq_true rfl)) dX12_rings_28 ⟨Nat.le_of_ble_eq_true rfl, Nat.le_of_ble_eq_true rfl⟩) hh hA (fun H locs en_1536 hw_1536 hh => ?_)
      obtain ⟨hI_1536, hu_1536, hx_1536⟩ := hw_1536
      have hf_1536 : ∀ c, (c ≠ 0 ∧ c ≠ 6 ∧ c ≠ 7 ∧ c ≠ 8 ∧ c ≠ 9 ∧ c ≠ 12 ∧ c ≠ 13) → en_1536 c = en c := fun c hc => (hu_1536 c (by omega)).trans (hf_1535 c hc)
      have hkp_1536 : KP en en_1536 := KP_tr hkp_1535 hx_1536
      refine lv_aload_n hx hb dX12_rings_31 rfl (lv_at hl 0 rfl) ?_
      obtain ⟨fa_1537, hi_1537, wd_1537, mo_1537, tb_1537, dp_1537, many_1537, grt_1537, lst_1537, nou_1537, rm_1537, rb_1537, pr_1537, wo_1537, es1537, p0_1537, p1_1537, p2_1537, p3_1537, p4_1537⟩ := getr_M hI_1536
      have hq2_1538 : wd_1537 = wd := n_eq ((show nI wd_1537 = rdI (en_1536 0) 2 from by rw [es1537]; rfl).trans (hkp_1536.2.1.trans (show rdI (en 0) 2 = nI wd from by rw [es1533]; rfl))) (by omega) (by omega)
      have hq3_1538 : mo_1537 = mo := n_eq ((show nI mo_1537 = rdI (en_1536 0) 3 from by rw [es1537]; rfl).trans (hkp_1536.2.2.1.trans (show rdI (en 0) 3 = nI mo from by rw [es1533]; rfl))) (by omega) (by omega)
      have hq4_1538 : tb_1537 = tb := n_eq ((show nI tb_1537 = rdI (en_1536 0) 4 from by rw [es1537]; rfl).trans (hkp_1536.2.2.2.1.trans (show rdI (en 0) 4 = nI tb from by rw [es1533]; rfl))) (by omega) (by omega)
      have hq30_1538 : wo_1537 = wo := n_eq ((show nI wo_1537 = rdI (en_1536 0) 30 from by rw [es1537]; rfl).trans (hkp_1536.2.2.2.2.2.trans (show rdI (en 0) 30 = nI wo from by rw [es1533]; rfl))) (by omega) (by omega)
      rw [hq2_1538, hq3_1538, hq4_1538, hq30_1538] at es1537
      refine hp_get hx hb hts ix12 hown hK hh (q := 0) rfl (hI.1 _ (by decide)) es1537 rfl 22 (by decide) (hts _ tw_901) (fun _ h9 => h9) rfl dX12_rings_32 ?_
      exact hp_iretM hx hb hr rfl hlocks hh (⟨hI_1536, hf_1536, hkp_1536⟩) dX12_rings_35
    · obtain rfl : r_1535 = 1 := hb_1535
      refine lv_if_eq (tgt := 26) hx hb dX12_rings_20 (by decide) (fun c_0 => absurd c_0 (by decide)) (fun _ => ?_)
      refine lv_bipush (v := (-6)) hx hb dX12_rings_23 (by decide) ?_
      exact hp_iretM hx hb hr rfl hlocks hh (⟨hI_1535, hf_1535, hkp_1535⟩) dX12_rings_25
  · obtain rfl : r_1534 = 0 := Eq.trans hw_1534 (if_neg (fun q => hp_1534 ((wj_32 (by decide) (by decide)).mp q)))
    refine lv_if_ne (tgt := 15) hx hb dX12_rings_9 (by decide) (fun c_0 => absurd c_0 (by decide)) (fun _ => ?_)
    refine lv_bipush (v := (-2)) hx hb dX12_rings_12 (by decide) ?_
    exact hp_iretM hx hb hr rfl hlocks hh (⟨hI, hf0, (KP_rf en)⟩) dX12_rings_14
theorem kw_X12_rings {R : Room} {s : State} {args : Array Value} {own : String} {idx : Nat} (hts : ∀ w ∈ TB, w.before args s = true) (hl : Cond.methodLink own idx yX12_rings ∈ TB) (hR : 4 + 1 ≤ R.frames ∧ 8 + (2 + 11) + 40 * 4 ≤ R.locals) : CallW R s args own RX12 idx yX12_rings cX12_rings 2 (some .int) (Cond.code yX12_rings cX12_rings 2 (some .int) :: TB) (rmN 4) 0 0 1 := cwV 1 hts (TB_V hl tw_1070 tw_1071 tw_9 tw_1072) rfl rfl rfl (by decide +kernel) hR
set_option maxHeartbeats 4000000 in
set_option maxRecDepth 100000 in
/-- X12_ringTrack -/
theorem c_X12_ringTrack (l : Launch) (D : va_G) (cy : Nat → ClassId) (sz : Nat) (cs : List Nat) (ad : Nat → Nat) (en : Nat → va_E) (hI : RX cy cs ad en) (n9 : Int32)   : Met l yX12_ringTrack (Cond.code yX12_ringTrack cX12_ringTrack 2 (some .long) :: TB) (rmN 4) (va_Pc [.ref (ad 0), .int n9] (Pre D cy cs ad en sz)) (va_Ql (S := Nat → va_E) (fun r en1 => RX cy cs ad en1 ∧ (∀ c, (c ≠ 0 ∧ c ≠ 6 ∧ c ≠ 7 ∧ c ≠ 8 ∧ c ≠ 9 ∧ c ≠ 12 ∧ c ≠ 13) → en1 c = en c) ∧ KP en en1) (PostM D cs ad) (Af cs ad sz)) 0 0 (Af cs ad sz) := by
  refine Met.ofW (cc := cX12_ringTrack) (maxL := 2) (ret := (some .long)) (by decide) rfl ?_
  intro p e s m args below meth c s₁ B hml hv
  obtain ⟨rfl, hsz, hP, hK, hD0⟩ := hv
  have hx := B.exec
  have hb := B.bytes
  have hr := B.returns
  have hts : ∀ w ∈ TB, w.before _ s = true := fun w h => atoms_spec (ws := _ :: TB) B.pre w (List.mem_cons_of_mem _ h)
  have hown : s.vm.findClass RX12 = some m.cls := findClass_of_methodNamed B.named
  have hlocks := B.notSynchronized
  have hh : Hp D (Af cs ad sz) (Af cs ad sz) s.heap s.heap [] cs ad en := ⟨hP, Af_self hD0, va_S.rf⟩
  have hA : ∀ q : Nat, s.heap.size ≤ q → Af cs ad sz q := fun q h => Or.inr (by rw [hsz] at h; exact h)
  have hl := lv_entry ([.ref (ad 0), .int n9]) (n := 2) (Nat.le_of_ble_eq_true rfl)
  rw [lg_entry_eq]
  generalize (lg_sl ([.ref (ad 0), .int n9]) ++ List.replicate (2 - (lg_sl ([.ref (ad 0), .int n9])).length) Slot.unset).toArray = ls at hl ⊢
  have hl : lv_has ls 2 [(0, .ref (ad 0)), (1, .int n9)] := hl
  have hf0 : ∀ c, (c ≠ 0 ∧ c ≠ 6 ∧ c ≠ 7 ∧ c ≠ 8 ∧ c ≠ 9 ∧ c ≠ 12 ∧ c ≠ 13) → en c = en c := fun _ _ => rfl
  obtain ⟨fa, hi, wd, mo, tb, dp, many, grt, lst, nou, rm, rb, pr, wo, es1539, hwd2, hwd3, hmo, htb, hwo⟩ := getr_M hI
  refine lv_iload_n hx hb dX12_ringTrack_0 rfl (lv_at hl 1 rfl) ?_
  refine lv_i2l hx hb dX12_ringTrack_1 rfl ?_
  refine lv_lconst (v := 1) hx hb dX12_ringTrack_2 (by decide) ?_
  refine lv_ldc2 hx hb hown (hts _ tw_1024) dX12_ringTrack_3 ?_
  refine hp_callRi (va_runS (As := [.long n9.toInt64, .long 1, .long 8]) (rest := []) ⟨hx, hb, hml, hown, hts⟩ (c_X12_within l D cy _ cs ad en n9.toInt64 1 8) (kw_X12_within hts tw_985 ⟨by decide, by decide⟩) (preS_of hh hK) rfl rfl hl.1 rfl (lv_room (Nat.le_of_ble_eq_true rfl)) dX12_ringTrack_6 ⟨Nat.le_of_ble_eq_true rfl, Nat.le_of_ble_eq_true rfl⟩) hh hA (fun r_1540 H locs hw_1540 hh => ?_)
  rcases Decidable.em (wi n9 1 8) with hp_1540 | hp_1540
  · obtain rfl : r_1540 = 1 := Eq.trans hw_1540 (if_pos ((wj_32 (by decide) (by decide)).mpr hp_1540))
    obtain ⟨N_1540, rfl, hA_1540, hB_1540⟩ := wi_natB hp_1540 1 8 (by decide) (by decide)
    refine lv_if_eq (tgt := 20) hx hb dX12_ringTrack_9 (by decide) (fun c_0 => absurd c_0 (by decide)) (fun _ => ?_)
    refine lv_aload_n hx hb dX12_ringTrack_12 rfl (lv_at hl 0 rfl) ?_
    refine lv_iload_n hx hb dX12_ringTrack_13 rfl (lv_at hl 1 rfl) ?_
    refine hp_callMi (va_runV (As := [.int (nI N_1540)]) (rest := []) ⟨hx, hb, hml, hown, hts⟩ (c_X12_isSpent l D cy _ cs ad en hI N_1540 (by omega)) (kw_X12_isSpent hts tw_1025 ⟨by decide, by decide⟩) (preV_of hh hK (hI.1 _ (by decide)) es1539 rfl) rfl rfl hl.1 rfl (lv_room (Nat.le_of_ble_eq_true rfl)) dX12_ringTrack_14 ⟨Nat.le_of_ble_eq_true rfl, Nat.le_of_ble_eq_true rfl⟩) hh hA (fun r_1541 H locs en_1541 hw_1541 hh => ?_)
    obtain ⟨hI_1541, hu_1541, hx_1541⟩ := hw_1541
    have es1539_1541 : en_1541 0 = .inr (11, [.int fa, .int hi, .int (nI wd), .int (nI mo), .int (nI tb), .ref (ad 1), .ref (ad 2), .ref (ad 3), .ref (ad 4), .ref (ad 5), .ref (ad 6), .ref (ad 7), .ref (ad 8), .ref (ad 9), .int dp, .long many, .long grt, .long lst, .long nou, .ref (ad 10), .ref (ad 11), .ref (ad 12), .int rm, .long rb, .ref (ad 13), .int pr, .ref (ad 14), .ref (ad 15), .ref (ad 16), .ref (ad 17), .int (nI wo), .ref (ad 18), .ref (ad 19)]) := (hu_1541 0 (by omega)).trans es1539
    have hf_1541 : ∀ c, (c ≠ 0 ∧ c ≠ 6 ∧ c ≠ 7 ∧ c ≠ 8 ∧ c ≠ 9 ∧ c ≠ 12 ∧ c ≠ 13) → en_1541 c = en c := fun c hc => (hu_1541 c (by omega)).trans (hf0 c hc)
    have hkp_1541 : KP en en_1541 := KP_same (KP_rf en) (hu_1541 0 (by omega))
    have hw_1541 := hx_1541
    rcases hw_1541 with hb_1541 | hb_1541
    · obtain rfl : r_1541 = 0 := hb_1541
      refine lv_if_eq (tgt := 24) hx hb dX12_ringTrack_17 (by decide) (fun _ => ?_) (fun c_0 => absurd c_0 (by decide))
      refine lv_aload_n hx hb dX12_ringTrack_24 rfl (lv_at hl 0 rfl) ?_
      refine lv_iload_n hx hb dX12_ringTrack_25 rfl (lv_at hl 1 rfl) ?_
      refine hp_callMv (va_runV (As := [.int (nI N_1540)]) (rest := []) ⟨hx, hb, hml, hown, hts⟩ (c_X12_findRings l D cy _ cs ad en_1541 hI_1541 N_1540 (by omega) (by omega)) (kw_X12_findRings hts tw_1073 ⟨by decide, by decide⟩) (preV_of hh hK (hI.1 _ (by decide)) es1539_1541 rfl) rfl rfl hl.1 rfl (lv_room (Nat.le_of_ble_eq_true rfl)) dX12_ringTrack_26 ⟨Nat.le_of_ble_eq_true rfl, Nat.le_of_ble_eq_true rfl⟩) hh hA (fun H locs en_1542 hw_1542 hh => ?_)
      obtain ⟨hI_1542, hu_1542, hx_1542⟩ := hw_1542
      have hf_1542 : ∀ c, (c ≠ 0 ∧ c ≠ 6 ∧ c ≠ 7 ∧ c ≠ 8 ∧ c ≠ 9 ∧ c ≠ 12 ∧ c ≠ 13) → en_1542 c = en c := fun c hc => (hu_1542 c (by omega)).trans (hf_1541 c hc)
      have hkp_1542 : KP en en_1542 := KP_tr hkp_1541 hx_1542
      refine lv_aload_n hx hb dX12_ringTrack_29 rfl (lv_at hl 0 rfl) ?_
      obtain ⟨fa_1543, hi_1543, wd_1543, mo_1543, tb_1543, dp_1543, many_1543, grt_1543, lst_1543, nou_1543, rm_1543, rb_1543, pr_1543, wo_1543, es1543, p0_1543, p1_1543, p2_1543, p3_1543, p4_1543⟩ := getr_M hI_1542
      have hq2_1544 : wd_1543 = wd := n_eq ((show nI wd_1543 = rdI (en_1542 0) 2 from by rw [es1543]; rfl).trans (hkp_1542.2.1.trans (show rdI (en 0) 2 = nI wd from by rw [es1539]; rfl))) (by omega) (by omega)
      have hq3_1544 : mo_1543 = mo := n_eq ((show nI mo_1543 = rdI (en_1542 0) 3 from by rw [es1543]; rfl).trans (hkp_1542.2.2.1.trans (show rdI (en 0) 3 = nI mo from by rw [es1539]; rfl))) (by omega) (by omega)
      have hq4_1544 : tb_1543 = tb := n_eq ((show nI tb_1543 = rdI (en_1542 0) 4 from by rw [es1543]; rfl).trans (hkp_1542.2.2.2.1.trans (show rdI (en 0) 4 = nI tb from by rw [es1539]; rfl))) (by omega) (by omega)
      have hq30_1544 : wo_1543 = wo := n_eq ((show nI wo_1543 = rdI (en_1542 0) 30 from by rw [es1543]; rfl).trans (hkp_1542.2.2.2.2.2.trans (show rdI (en 0) 30 = nI wo from by rw [es1539]; rfl))) (by omega) (by omega)
      rw [hq2_1544, hq3_1544, hq4_1544, hq30_1544] at es1543
      refine hp_get hx hb hts ix12 hown hK hh (q := 0) rfl (hI.1 _ (by decide)) es1543 rfl 22 (by decide) (hts _ tw_901) (fun _ h9 => h9) rfl dX12_ringTrack_30 ?_
      refine lv_if_ne (tgt := 42) hx hb dX12_ringTrack_33 (by decide) (fun c_1545 => ?_) (fun c_1545 => ?_)
      · refine lv_aload_n hx hb dX12_ringTrack_42 rfl (lv_at hl 0 rfl) ?_
        refine hp_get hx hb hts ix12 hown hK hh (q := 0) rfl (hI.1 _ (by decide)) es1543 rfl 23 (by decide) (hts _ tw_902) (fun _ h9 => h9) rfl dX12_ringTrack_43 ?_
        exact hp_lretM hx hb hr hlocks hh (⟨hI_1542, hf_1542, hkp_1542⟩) dX12_ringTrack_46
      · refine lv_ldc2 hx hb hown (hts _ tw_1015) dX12_ringTrack_36 ?_
        refine lv_goto (tgt := 46) hx hb dX12_ringTrack_39 (by decide) ?_
        exact hp_lretM hx hb hr hlocks hh (⟨hI_1542, hf_1542, hkp_1542⟩) dX12_ringTrack_46
    · obtain rfl : r_1541 = 1 := hb_1541
      refine lv_if_eq (tgt := 24) hx hb dX12_ringTrack_17 (by decide) (fun c_0 => absurd c_0 (by decide)) (fun _ => ?_)
      refine lv_ldc2 hx hb hown (hts _ tw_1015) dX12_ringTrack_20 ?_
      exact hp_lretM hx hb hr hlocks hh (⟨hI_1541, hf_1541, hkp_1541⟩) dX12_ringTrack_23
  · obtain rfl : r_1540 = 0 := Eq.trans hw_1540 (if_neg (fun q => hp_1540 ((wj_32 (by decide) (by decide)).mp q)))
    refine lv_if_eq (tgt := 20) hx hb dX12_ringTrack_9 (by decide) (fun _ => ?_) (fun c_0 => absurd c_0 (by decide))
    refine lv_ldc2 hx hb hown (hts _ tw_1015) dX12_ringTrack_20 ?_
    exact hp_lretM hx hb hr hlocks hh (⟨hI, hf0, (KP_rf en)⟩) dX12_ringTrack_23
theorem kw_X12_ringTrack {R : Room} {s : State} {args : Array Value} {own : String} {idx : Nat} (hts : ∀ w ∈ TB, w.before args s = true) (hl : Cond.methodLink own idx yX12_ringTrack ∈ TB) (hR : 4 + 1 ≤ R.frames ∧ 8 + (2 + 11) + 40 * 4 ≤ R.locals) : CallW R s args own RX12 idx yX12_ringTrack cX12_ringTrack 2 (some .long) (Cond.code yX12_ringTrack cX12_ringTrack 2 (some .long) :: TB) (rmN 4) 0 0 1 := cwV 1 hts (TB_V hl tw_1098 tw_1099 tw_9 tw_1100) rfl rfl rfl (by decide +kernel) hR
set_option maxHeartbeats 4000000 in
set_option maxRecDepth 100000 in
/-- X12_ring -/
theorem c_X12_ring (l : Launch) (D : va_G) (cy : Nat → ClassId) (sz : Nat) (cs : List Nat) (ad : Nat → Nat) (en : Nat → va_E) (hI : RX cy cs ad en) (n9 i9 : Int32)   : Met l yX12_ring (Cond.code yX12_ring cX12_ring 3 (some .int) :: TB) (rmN 4) (va_Pc [.ref (ad 0), .int n9, .int i9] (Pre D cy cs ad en sz)) (va_Qi (S := Nat → va_E) (fun r en1 => RX cy cs ad en1 ∧ (∀ c, (c ≠ 0 ∧ c ≠ 6 ∧ c ≠ 7 ∧ c ≠ 8 ∧ c ≠ 9 ∧ c ≠ 12 ∧ c ≠ 13) → en1 c = en c) ∧ KP en en1) (PostM D cs ad) (Af cs ad sz)) 0 0 (Af cs ad sz) := by
  refine Met.ofW (cc := cX12_ring) (maxL := 3) (ret := (some .int)) (by decide) rfl ?_
  intro p e s m args below meth c s₁ B hml hv
  obtain ⟨rfl, hsz, hP, hK, hD0⟩ := hv
  have hx := B.exec
  have hb := B.bytes
  have hr := B.returns
  have hts : ∀ w ∈ TB, w.before _ s = true := fun w h => atoms_spec (ws := _ :: TB) B.pre w (List.mem_cons_of_mem _ h)
  have hown : s.vm.findClass RX12 = some m.cls := findClass_of_methodNamed B.named
  have hlocks := B.notSynchronized
  have hh : Hp D (Af cs ad sz) (Af cs ad sz) s.heap s.heap [] cs ad en := ⟨hP, Af_self hD0, va_S.rf⟩
  have hA : ∀ q : Nat, s.heap.size ≤ q → Af cs ad sz q := fun q h => Or.inr (by rw [hsz] at h; exact h)
  have hl := lv_entry ([.ref (ad 0), .int n9, .int i9]) (n := 3) (Nat.le_of_ble_eq_true rfl)
  rw [lg_entry_eq]
  generalize (lg_sl ([.ref (ad 0), .int n9, .int i9]) ++ List.replicate (3 - (lg_sl ([.ref (ad 0), .int n9, .int i9])).length) Slot.unset).toArray = ls at hl ⊢
  have hl : lv_has ls 3 [(0, .ref (ad 0)), (1, .int n9), (2, .int i9)] := hl
  have hf0 : ∀ c, (c ≠ 0 ∧ c ≠ 6 ∧ c ≠ 7 ∧ c ≠ 8 ∧ c ≠ 9 ∧ c ≠ 12 ∧ c ≠ 13) → en c = en c := fun _ _ => rfl
  obtain ⟨fa, hi, wd, mo, tb, dp, many, grt, lst, nou, rm, rb, pr, wo, es1546, hwd2, hwd3, hmo, htb, hwo⟩ := getr_M hI
  refine lv_iload_n hx hb dX12_ring_0 rfl (lv_at hl 1 rfl) ?_
  refine lv_i2l hx hb dX12_ring_1 rfl ?_
  refine lv_lconst (v := 1) hx hb dX12_ring_2 (by decide) ?_
  refine lv_ldc2 hx hb hown (hts _ tw_1024) dX12_ring_3 ?_
  refine hp_callRi (va_runS (As := [.long n9.toInt64, .long 1, .long 8]) (rest := []) ⟨hx, hb, hml, hown, hts⟩ (c_X12_within l D cy _ cs ad en n9.toInt64 1 8) (kw_X12_within hts tw_985 ⟨by decide, by decide⟩) (preS_of hh hK) rfl rfl hl.1 rfl (lv_room (Nat.le_of_ble_eq_true rfl)) dX12_ring_6 ⟨Nat.le_of_ble_eq_true rfl, Nat.le_of_ble_eq_true rfl⟩) hh hA (fun r_1547 H locs hw_1547 hh => ?_)
  rcases Decidable.em (wi n9 1 8) with hp_1547 | hp_1547
  · obtain rfl : r_1547 = 1 := Eq.trans hw_1547 (if_pos ((wj_32 (by decide) (by decide)).mpr hp_1547))
    obtain ⟨N_1547, rfl, hA_1547, hB_1547⟩ := wi_natB hp_1547 1 8 (by decide) (by decide)
    refine lv_if_eq (tgt := 25) hx hb dX12_ring_9 (by decide) (fun c_0 => absurd c_0 (by decide)) (fun _ => ?_)
    refine lv_iload_n hx hb dX12_ring_12 rfl (lv_at hl 2 rfl) ?_
    refine lv_i2l hx hb dX12_ring_13 rfl ?_
    refine lv_lconst (v := 0) hx hb dX12_ring_14 (by decide) ?_
    refine lv_iload_n hx hb dX12_ring_15 rfl (lv_at hl 1 rfl) ?_
    refine lv_i2l hx hb dX12_ring_16 rfl ?_
    refine lv_lconst (v := 1) hx hb dX12_ring_17 (by decide) ?_
    refine lv_lsub hx hb dX12_ring_18 ?_
    refine hp_callRi (va_runS (As := [.long i9.toInt64, .long 0, .long ((nI N_1547).toInt64 - 1)]) (rest := []) ⟨hx, hb, hml, hown, hts⟩ (c_X12_within l D cy _ cs ad en i9.toInt64 0 ((nI N_1547).toInt64 - 1)) (kw_X12_within hts tw_985 ⟨by decide, by decide⟩) (preS_of hh hK) rfl rfl hl.1 rfl (lv_room (Nat.le_of_ble_eq_true rfl)) dX12_ring_19 ⟨Nat.le_of_ble_eq_true rfl, Nat.le_of_ble_eq_true rfl⟩) hh hA (fun r_1548 H locs hw_1548 hh => ?_)
    rcases Decidable.em (0 ≤ i9.toInt ∧ i9.toInt < (N_1547 : Int)) with hp_1548 | hp_1548
    · obtain rfl : r_1548 = 1 := Eq.trans hw_1548 (if_pos ((wj_m1 (by omega)).mpr hp_1548))
      obtain ⟨N_1548, rfl, hB_1548⟩ := has_nat hp_1548
      refine lv_if_ne (tgt := 28) hx hb dX12_ring_22 (by decide) (fun _ => ?_) (fun c_0 => absurd c_0 (by decide))
      refine lv_aload_n hx hb dX12_ring_28 rfl (lv_at hl 0 rfl) ?_
      refine lv_iload_n hx hb dX12_ring_29 rfl (lv_at hl 1 rfl) ?_
      refine hp_callMi (va_runV (As := [.int (nI N_1547)]) (rest := []) ⟨hx, hb, hml, hown, hts⟩ (c_X12_isSpent l D cy _ cs ad en hI N_1547 (by omega)) (kw_X12_isSpent hts tw_1025 ⟨by decide, by decide⟩) (preV_of hh hK (hI.1 _ (by decide)) es1546 rfl) rfl rfl hl.1 rfl (lv_room (Nat.le_of_ble_eq_true rfl)) dX12_ring_30 ⟨Nat.le_of_ble_eq_true rfl, Nat.le_of_ble_eq_true rfl⟩) hh hA (fun r_1549 H locs en_1549 hw_1549 hh => ?_)
      obtain ⟨hI_1549, hu_1549, hx_1549⟩ := hw_1549
      have es1546_1549 : en_1549 0 = .inr (11, [.int fa, .int hi, .int (nI wd), .int (nI mo), .int (nI tb), .ref (ad 1), .ref (ad 2), .ref (ad 3), .ref (ad 4), .ref (ad 5), .ref (ad 6), .ref (ad 7), .ref (ad 8), .ref (ad 9), .int dp, .long many, .long grt, .long lst, .long nou, .ref (ad 10), .ref (ad 11), .ref (ad 12), .int rm, .long rb, .ref (ad 13), .int pr, .ref (ad 14), .ref (ad 15), .ref (ad 16), .ref (ad 17), .int (nI wo), .ref (ad 18), .ref (ad 19)]) := (hu_1549 0 (by omega)).trans es1546
      have hf_1549 : ∀ c, (c ≠ 0 ∧ c ≠ 6 ∧ c ≠ 7 ∧ c ≠ 8 ∧ c ≠ 9 ∧ c ≠ 12 ∧ c ≠ 13) → en_1549 c = en c := fun c hc => (hu_1549 c (by omega)).trans (hf0 c hc)
      have hkp_1549 : KP en en_1549 := KP_same (KP_rf en) (hu_1549 0 (by omega))
      have hw_1549 := hx_1549
      rcases hw_1549 with hb_1549 | hb_1549
      · obtain rfl : r_1549 = 0 := hb_1549
        refine lv_if_eq (tgt := 39) hx hb dX12_ring_33 (by decide) (fun _ => ?_) (fun c_0 => absurd c_0 (by decide))
        refine lv_aload_n hx hb dX12_ring_39 rfl (lv_at hl 0 rfl) ?_
        refine lv_iload_n hx hb dX12_ring_40 rfl (lv_at hl 1 rfl) ?_
        refine hp_callMv (va_runV (As := [.int (nI N_1547)]) (rest := []) ⟨hx, hb, hml, hown, hts⟩ (c_X12_findRings l D cy _ cs ad en_1549 hI_1549 N_1547 (by omega) (by omega)) (kw_X12_findRings hts tw_1073 ⟨by decide, by decide⟩) (preV_of hh hK (hI.1 _ (by decide)) es1546_1549 rfl) rfl rfl hl.1 rfl (lv_room (Nat.le_of_ble_eq_true rfl)) dX12_ring_41 ⟨Nat.le_of_ble_eq_true rfl, Nat.le_of_ble_eq_true rfl⟩) hh hA (fun H locs en_1550 hw_1550 hh => ?_)
        obtain ⟨hI_1550, hu_1550, hx_1550⟩ := hw_1550
        have hf_1550 : ∀ c, (c ≠ 0 ∧ c ≠ 6 ∧ c ≠ 7 ∧ c ≠ 8 ∧ c ≠ 9 ∧ c ≠ 12 ∧ c ≠ 13) → en_1550 c = en c := fun c hc => (hu_1550 c (by omega)).trans (hf_1549 c hc)
        have hkp_1550 : KP en en_1550 := KP_tr hkp_1549 hx_1550
        refine lv_aload_n hx hb dX12_ring_44 rfl (lv_at hl 0 rfl) ?_
        obtain ⟨fa_1551, hi_1551, wd_1551, mo_1551, tb_1551, dp_1551, many_1551, grt_1551, lst_1551, nou_1551, rm_1551, rb_1551, pr_1551, wo_1551, es1551, p0_1551, p1_1551, p2_1551, p3_1551, p4_1551⟩ := getr_M hI_1550
        have hq2_1552 : wd_1551 = wd := n_eq ((show nI wd_1551 = rdI (en_1550 0) 2 from by rw [es1551]; rfl).trans (hkp_1550.2.1.trans (show rdI (en 0) 2 = nI wd from by rw [es1546]; rfl))) (by omega) (by omega)
        have hq3_1552 : mo_1551 = mo := n_eq ((show nI mo_1551 = rdI (en_1550 0) 3 from by rw [es1551]; rfl).trans (hkp_1550.2.2.1.trans (show rdI (en 0) 3 = nI mo from by rw [es1546]; rfl))) (by omega) (by omega)
        have hq4_1552 : tb_1551 = tb := n_eq ((show nI tb_1551 = rdI (en_1550 0) 4 from by rw [es1551]; rfl).trans (hkp_1550.2.2.2.1.trans (show rdI (en 0) 4 = nI tb from by rw [es1546]; rfl))) (by omega) (by omega)
        have hq30_1552 : wo_1551 = wo := n_eq ((show nI wo_1551 = rdI (en_1550 0) 30 from by rw [es1551]; rfl).trans (hkp_1550.2.2.2.2.2.trans (show rdI (en 0) 30 = nI wo from by rw [es1546]; rfl))) (by omega) (by omega)
        rw [hq2_1552, hq3_1552, hq4_1552, hq30_1552] at es1551
        refine hp_get hx hb hts ix12 hown hK hh (q := 0) rfl (hI.1 _ (by decide)) es1551 rfl 22 (by decide) (hts _ tw_901) (fun _ h9 => h9) rfl dX12_ring_45 ?_
        refine lv_if_ne (tgt := 56) hx hb dX12_ring_48 (by decide) (fun c_1553 => ?_) (fun c_1553 => ?_)
        · refine lv_aload_n hx hb dX12_ring_56 rfl (lv_at hl 0 rfl) ?_
          refine hp_get hx hb hts ix12 hown hK hh (q := 0) rfl (hI.1 _ (by decide)) es1551 rfl 24 (by decide) (hts _ tw_903) (fun _ h9 => h9) rfl dX12_ring_57 ?_
          refine lv_iload_n hx hb dX12_ring_60 rfl (lv_at hl 2 rfl) ?_
          obtain ⟨f_1554, es1554⟩ := getr_rw hI_1550
          refine hp_iald hx hb hK hh (q := 13) rfl (hI.1 _ (by decide)) es1554 (vp_in_nI (n := N_1548) (by omega) (by decide)) dX12_ring_61 ?_
          rw [nI_clamp (n := N_1548) (by omega)]
          exact hp_iretM hx hb hr rfl hlocks hh (⟨hI_1550, hf_1550, hkp_1550⟩) dX12_ring_62
        · refine lv_bipush (v := (-9)) hx hb dX12_ring_51 (by decide) ?_
          refine lv_goto (tgt := 62) hx hb dX12_ring_53 (by decide) ?_
          exact hp_iretM hx hb hr rfl hlocks hh (⟨hI_1550, hf_1550, hkp_1550⟩) dX12_ring_62
      · obtain rfl : r_1549 = 1 := hb_1549
        refine lv_if_eq (tgt := 39) hx hb dX12_ring_33 (by decide) (fun c_0 => absurd c_0 (by decide)) (fun _ => ?_)
        refine lv_bipush (v := (-6)) hx hb dX12_ring_36 (by decide) ?_
        exact hp_iretM hx hb hr rfl hlocks hh (⟨hI_1549, hf_1549, hkp_1549⟩) dX12_ring_38
    · obtain rfl : r_1548 = 0 := Eq.trans hw_1548 (if_neg (fun q => hp_1548 ((wj_m1 (by omega)).mp q)))
      refine lv_if_ne (tgt := 28) hx hb dX12_ring_22 (by decide) (fun c_0 => absurd c_0 (by decide)) (fun _ => ?_)
      refine lv_bipush (v := (-2)) hx hb dX12_ring_25 (by decide) ?_
      exact hp_iretM hx hb hr rfl hlocks hh (⟨hI, hf0, (KP_rf en)⟩) dX12_ring_27
  · obtain rfl : r_1547 = 0 := Eq.trans hw_1547 (if_neg (fun q => hp_1547 ((wj_32 (by decide) (by decide)).mp q)))
    refine lv_if_eq (tgt := 25) hx hb dX12_ring_9 (by decide) (fun _ => ?_) (fun c_0 => absurd c_0 (by decide))
    refine lv_bipush (v := (-2)) hx hb dX12_ring_25 (by decide) ?_
    exact hp_iretM hx hb hr rfl hlocks hh (⟨hI, hf0, (KP_rf en)⟩) dX12_ring_27
theorem kw_X12_ring {R : Room} {s : State} {args : Array Value} {own : String} {idx : Nat} (hts : ∀ w ∈ TB, w.before args s = true) (hl : Cond.methodLink own idx yX12_ring ∈ TB) (hR : 4 + 1 ≤ R.frames ∧ 8 + (3 + 11) + 40 * 4 ≤ R.locals) : CallW R s args own RX12 idx yX12_ring cX12_ring 3 (some .int) (Cond.code yX12_ring cX12_ring 3 (some .int) :: TB) (rmN 4) 0 0 2 := cwV 2 hts (TB_V hl tw_1102 tw_1103 tw_9 tw_1104) rfl rfl rfl (by decide +kernel) hR
set_option maxHeartbeats 4000000 in
set_option maxRecDepth 100000 in
/-- power -/
theorem c_X12_power (l : Launch) (D : va_G) (cy : Nat → ClassId) (sz : Nat) (cs : List Nat) (ad : Nat → Nat) (en : Nat → va_E) (hI : RX cy cs ad en) (v : Int64) (n : Nat) (hn8 : n ≤ 8)   : Met l yX12_power (Cond.code yX12_power cX12_power 6 (some .long) :: TB) (rmN 0) (va_Pc [.long v, .int (nI n)] (Pre D cy cs ad en sz)) (va_Ql (S := Unit) (fun _ _ => True) (fun _ _ => True) (Nf sz)) 0 0 (Nf sz) := by
  refine Met.ofW (cc := cX12_power) (maxL := 6) (ret := (some .long)) (by decide) rfl ?_
  intro p e s m args below meth c s₁ B hml hv
  obtain ⟨rfl, hsz, hP, hK, hD0⟩ := hv
  have hx := B.exec
  have hb := B.bytes
  have hr := B.returns
  have hts : ∀ w ∈ TB, w.before _ s = true := fun w h => atoms_spec (ws := _ :: TB) B.pre w (List.mem_cons_of_mem _ h)
  have hown : s.vm.findClass RX12 = some m.cls := findClass_of_methodNamed B.named
  have hlocks := B.notSynchronized
  have hh : Hp D (Nf sz) (fun _ => True) s.heap s.heap [] cs ad en := ⟨hP, hD0, va_S.rf⟩
  have hA : ∀ q : Nat, s.heap.size ≤ q → Nf sz q := fun q h => by rw [hsz] at h; exact h
  have hl := lv_entry ([.long v, .int (nI n)]) (n := 6) (Nat.le_of_ble_eq_true rfl)
  rw [lg_entry_eq]
  generalize (lg_sl ([.long v, .int (nI n)]) ++ List.replicate (6 - (lg_sl ([.long v, .int (nI n)])).length) Slot.unset).toArray = ls at hl ⊢
  have hl : lv_has ls 6 [(0, .long v), (2, .int (nI n))] := hl
  refine lv_lconst (v := 1) hx hb dX12_power_0 (by decide) ?_
  refine lv_lstore_n (lv' := [(3, .long 1), (0, .long v), (2, .int (nI n))]) hx hb dX12_power_1 rfl hl (by decide) rfl (fun ls hl => ?_)
  refine lv_iconst (v := 0) hx hb dX12_power_2 (by decide) ?_
  refine lv_istore (lv' := [(5, .int 0), (3, .long 1), (0, .long v), (2, .int (nI n))]) hx hb dX12_power_3 hl (by decide) rfl (fun ls hl => ?_)
  have loop_1555 : ∀ (fu j1555 : Nat) (pw1555 : Int64)  (ls : Array Slot) (H : Heap) (locs : List Loc), 0 ≤ j1555 → j1555 ≤ n → n < j1555 + fu →   lv_has ls 6 [(5, .int (nI j1555)), (3, .long pw1555), (0, .long v), (2, .int (nI n))] → Hp D (Nf sz) (fun _ => True) s.heap H locs cs ad en → W p l e (headSpec (Cond.code yX12_power cX12_power 6 (some .long) :: TB) (rmN 0)).room s m ([.long v, .int (nI n)] : List Value).toArray below meth c H locs 0 0 (MQ below (va_Ql (S := Unit) (fun _ _ => True) (fun _ _ => True) (Nf sz)) ([.long v, .int (nI n)] : List Value).toArray s 0 0 (Nf sz)) (F0 m 5 ls []) := by
    intro fu
    induction fu with
    | zero => intro j1555 pw1555 ls H locs h0 h1 h2; exact absurd h2 (by omega)
    | succ fu ih_1555 =>
      intro j1555 pw1555 ls H locs hj0_1555 hj_1555 hfu_1555  hl hh
      refine lv_iload hx hb dX12_power_5 (lv_at hl 0 rfl) ?_
      refine lv_iload_n hx hb dX12_power_7 rfl (lv_at hl 3 rfl) ?_
      refine lv_icmp_ge (tgt := 21) hx hb dX12_power_8 (by decide) (fun c_1556 => ?_) (fun c_1556 => ?_)
      · have n_1556 : n ≤ j1555 := n_le (a := n) (b := j1555) c_1556 (by omega) (by omega)
        refine lv_lload_n hx hb dX12_power_21 rfl (lv_at hl 1 rfl) ?_
        exact hp_lretR hx hb hr hlocks hsz hh (trivial) dX12_power_22
      · have n_1556 : j1555 < n := n_nle (a := n) (b := j1555) c_1556 (by omega) (by omega)
        refine lv_lload_n hx hb dX12_power_11 rfl (lv_at hl 1 rfl) ?_
        refine lv_lload_n hx hb dX12_power_12 rfl (lv_at hl 2 rfl) ?_
        refine lv_lmul hx hb dX12_power_13 ?_
        refine lv_lstore_n (lv' := [(3, .long (pw1555 * v)), (5, .int (nI j1555)), (0, .long v), (2, .int (nI n))]) hx hb dX12_power_14 rfl hl (by decide) rfl (fun ls hl => ?_)
        refine lv_iinc (v := (nI (j1555 + 1))) (lv' := [(5, .int (nI (j1555 + 1))), (3, .long (pw1555 * v)), (0, .long v), (2, .int (nI n))]) hx hb dX12_power_15 hl (k := 1) rfl (nI_1 _) (by decide) rfl (fun ls hl => ?_)
        refine lv_goto (tgt := 5) hx hb dX12_power_18 (by decide) ?_
        exact ih_1555 ((j1555 + 1)) (pw1555 * v) ls H locs (by omega) (by omega) (by omega)  (lv_sub hl [0, 1, 2, 3] rfl) hh
  exact loop_1555 (n + 1) 0 1 ls _ _ (Nat.le_refl _) (by omega) (by omega)  (lv_sub hl [0, 1, 2, 3] rfl) hh
theorem kw_X12_power {R : Room} {s : State} {args : Array Value} {idx : Nat} (hts : ∀ w ∈ TB, w.before args s = true) (hl : Cond.methodLink RX12 idx yX12_power ∈ TB) (hR : 0 + 1 ≤ R.frames ∧ 8 + (6 + 11) + 40 * 0 ≤ R.locals) : CallB R s args RX12 idx yX12_power cX12_power 6 (some .long) (Cond.code yX12_power cX12_power 6 (some .long) :: TB) (rmN 0) 0 0 2 ∧ (Cond.static yX12_power).before args s = true := cwS 2 hts (TB_S hl tw_1111 tw_9 tw_1112) rfl rfl rfl (by decide +kernel) hR
set_option maxHeartbeats 4000000 in
set_option maxRecDepth 100000 in
/-- growth -/
theorem c_X12_growth (l : Launch) (D : va_G) (cy : Nat → ClassId) (sz : Nat) (cs : List Nat) (ad : Nat → Nat) (en : Nat → va_E) (hI : RX cy cs ad en) (a9 b9 n9 : Int32)   : Met l yX12_growth (Cond.code yX12_growth cX12_growth 7 (some .int) :: TB) (rmN 4) (va_Pc [.ref (ad 0), .int a9, .int b9, .int n9] (Pre D cy cs ad en sz)) (va_Qi (S := Nat → va_E) (fun r en1 => RX cy cs ad en1 ∧ (∀ c, (c ≠ 0 ∧ c ≠ 6 ∧ c ≠ 7 ∧ c ≠ 8 ∧ c ≠ 9) → en1 c = en c) ∧ KP en en1) (PostM D cs ad) (Af cs ad sz)) 0 0 (Af cs ad sz) := by
  refine Met.ofW (cc := cX12_growth) (maxL := 7) (ret := (some .int)) (by decide) rfl ?_
  intro p e s m args below meth c s₁ B hml hv
  obtain ⟨rfl, hsz, hP, hK, hD0⟩ := hv
  have hx := B.exec
  have hb := B.bytes
  have hr := B.returns
  have hts : ∀ w ∈ TB, w.before _ s = true := fun w h => atoms_spec (ws := _ :: TB) B.pre w (List.mem_cons_of_mem _ h)
  have hown : s.vm.findClass RX12 = some m.cls := findClass_of_methodNamed B.named
  have hlocks := B.notSynchronized
  have hh : Hp D (Af cs ad sz) (Af cs ad sz) s.heap s.heap [] cs ad en := ⟨hP, Af_self hD0, va_S.rf⟩
  have hA : ∀ q : Nat, s.heap.size ≤ q → Af cs ad sz q := fun q h => Or.inr (by rw [hsz] at h; exact h)
  have hl := lv_entry ([.ref (ad 0), .int a9, .int b9, .int n9]) (n := 7) (Nat.le_of_ble_eq_true rfl)
  rw [lg_entry_eq]
  generalize (lg_sl ([.ref (ad 0), .int a9, .int b9, .int n9]) ++ List.replicate (7 - (lg_sl ([.ref (ad 0), .int a9, .int b9, .int n9])).length) Slot.unset).toArray = ls at hl ⊢
  have hl : lv_has ls 7 [(0, .ref (ad 0)), (1, .int a9), (2, .int b9), (3, .int n9)] := hl
  have hf0 : ∀ c, (c ≠ 0 ∧ c ≠ 6 ∧ c ≠ 7 ∧ c ≠ 8 ∧ c ≠ 9) → en c = en c := fun _ _ => rfl
  obtain ⟨fa, hi, wd, mo, tb, dp, many, grt, lst, nou, rm, rb, pr, wo, es1557, hwd2, hwd3, hmo, htb, hwo⟩ := getr_M hI
  refine lv_iload_n hx hb dX12_growth_0 rfl (lv_at hl 1 rfl) ?_
  refine lv_i2l hx hb dX12_growth_1 rfl ?_
  refine lv_lconst (v := 1) hx hb dX12_growth_2 (by decide) ?_
  refine lv_ldc2 hx hb hown (hts _ tw_1002) dX12_growth_3 ?_
  refine hp_callRi (va_runS (As := [.long a9.toInt64, .long 1, .long 9]) (rest := []) ⟨hx, hb, hml, hown, hts⟩ (c_X12_within l D cy _ cs ad en a9.toInt64 1 9) (kw_X12_within hts tw_985 ⟨by decide, by decide⟩) (preS_of hh hK) rfl rfl hl.1 rfl (lv_room (Nat.le_of_ble_eq_true rfl)) dX12_growth_6 ⟨Nat.le_of_ble_eq_true rfl, Nat.le_of_ble_eq_true rfl⟩) hh hA (fun r_1558 H locs hw_1558 hh => ?_)
  rcases Decidable.em (wi a9 1 9) with hp_1558 | hp_1558
  · obtain rfl : r_1558 = 1 := Eq.trans hw_1558 (if_pos ((wj_32 (by decide) (by decide)).mpr hp_1558))
    obtain ⟨N_1558, rfl, hA_1558, hB_1558⟩ := wi_natB hp_1558 1 9 (by decide) (by decide)
    refine lv_if_eq (tgt := 36) hx hb dX12_growth_9 (by decide) (fun c_0 => absurd c_0 (by decide)) (fun _ => ?_)
    refine lv_iload_n hx hb dX12_growth_12 rfl (lv_at hl 2 rfl) ?_
    refine lv_i2l hx hb dX12_growth_13 rfl ?_
    refine lv_lconst (v := 1) hx hb dX12_growth_14 (by decide) ?_
    refine lv_ldc2 hx hb hown (hts _ tw_1002) dX12_growth_15 ?_
    refine hp_callRi (va_runS (As := [.long b9.toInt64, .long 1, .long 9]) (rest := []) ⟨hx, hb, hml, hown, hts⟩ (c_X12_within l D cy _ cs ad en b9.toInt64 1 9) (kw_X12_within hts tw_985 ⟨by decide, by decide⟩) (preS_of hh hK) rfl rfl hl.1 rfl (lv_room (Nat.le_of_ble_eq_true rfl)) dX12_growth_18 ⟨Nat.le_of_ble_eq_true rfl, Nat.le_of_ble_eq_true rfl⟩) hh hA (fun r_1559 H locs hw_1559 hh => ?_)
    rcases Decidable.em (wi b9 1 9) with hp_1559 | hp_1559
    · obtain rfl : r_1559 = 1 := Eq.trans hw_1559 (if_pos ((wj_32 (by decide) (by decide)).mpr hp_1559))
      obtain ⟨N_1559, rfl, hA_1559, hB_1559⟩ := wi_natB hp_1559 1 9 (by decide) (by decide)
      refine lv_if_eq (tgt := 36) hx hb dX12_growth_21 (by decide) (fun c_0 => absurd c_0 (by decide)) (fun _ => ?_)
      refine lv_iload_n hx hb dX12_growth_24 rfl (lv_at hl 3 rfl) ?_
      refine lv_i2l hx hb dX12_growth_25 rfl ?_
      refine lv_lconst (v := 1) hx hb dX12_growth_26 (by decide) ?_
      refine lv_ldc2 hx hb hown (hts _ tw_1109) dX12_growth_27 ?_
      refine hp_callRi (va_runS (As := [.long n9.toInt64, .long 1, .long 7]) (rest := []) ⟨hx, hb, hml, hown, hts⟩ (c_X12_within l D cy _ cs ad en n9.toInt64 1 7) (kw_X12_within hts tw_985 ⟨by decide, by decide⟩) (preS_of hh hK) rfl rfl hl.1 rfl (lv_room (Nat.le_of_ble_eq_true rfl)) dX12_growth_30 ⟨Nat.le_of_ble_eq_true rfl, Nat.le_of_ble_eq_true rfl⟩) hh hA (fun r_1560 H locs hw_1560 hh => ?_)
      rcases Decidable.em (wi n9 1 7) with hp_1560 | hp_1560
      · obtain rfl : r_1560 = 1 := Eq.trans hw_1560 (if_pos ((wj_32 (by decide) (by decide)).mpr hp_1560))
        obtain ⟨N_1560, rfl, hA_1560, hB_1560⟩ := wi_natB hp_1560 1 7 (by decide) (by decide)
        refine lv_if_ne (tgt := 39) hx hb dX12_growth_33 (by decide) (fun _ => ?_) (fun c_0 => absurd c_0 (by decide))
        refine lv_aload_n hx hb dX12_growth_39 rfl (lv_at hl 0 rfl) ?_
        refine hp_get hx hb hts ix12 hown hK hh (q := 0) rfl (hI.1 _ (by decide)) es1557 rfl 3 (by decide) (hts _ tw_882) (fun _ h9 => h9) rfl dX12_growth_40 ?_
        refine lv_if_gt (tgt := 53) hx hb dX12_growth_43 (by decide) (fun c_1561 => ?_) (fun c_1561 => ?_)
        · have n_1561 : 0 < mo := n_lt (a := 0) (b := mo) c_1561 (by decide) (by omega)
          refine lv_bipush (v := (-3)) hx hb dX12_growth_53 (by decide) ?_
          exact hp_iretM hx hb hr rfl hlocks hh (⟨hI, hf0, (KP_rf en)⟩) dX12_growth_55
        · have n_1561 : mo ≤ 0 := n_nlt (a := 0) (b := mo) c_1561 (by decide) (by omega)
          refine lv_aload_n hx hb dX12_growth_46 rfl (lv_at hl 0 rfl) ?_
          refine hp_get hx hb hts ix12 hown hK hh (q := 0) rfl (hI.1 _ (by decide)) es1557 rfl 4 (by decide) (hts _ tw_883) (fun _ h9 => h9) rfl dX12_growth_47 ?_
          refine lv_if_ne (tgt := 56) hx hb dX12_growth_50 (by decide) (fun c_1562 => ?_) (fun c_1562 => ?_)
          · have n_1562 : tb ≠ 0 := n_neq (a := tb) (b := 0) c_1562 (by omega) (by decide)
            refine lv_iconst (v := 1) hx hb dX12_growth_56 (by decide) ?_
            refine lv_istore (lv' := [(4, .int 1), (0, .ref (ad 0)), (1, .int (nI N_1558)), (2, .int (nI N_1559)), (3, .int (nI N_1560))]) hx hb dX12_growth_57 hl (by decide) rfl (fun ls hl => ?_)
            have loop_1563 : ∀ (fu j1563 : Nat)  (en_1563 : Nat → va_E) (ls : Array Slot) (H : Heap) (locs : List Loc), 1 ≤ j1563 → j1563 ≤ (N_1560 + 1) → (N_1560 + 1) < j1563 + fu → RX cy cs ad en_1563 → (∀ c, (c ≠ 0 ∧ c ≠ 6 ∧ c ≠ 7 ∧ c ≠ 8 ∧ c ≠ 9) → en_1563 c = en c) → (KP en en_1563) → lv_has ls 7 [(4, .int (nI j1563)), (0, .ref (ad 0)), (1, .int (nI N_1558)), (2, .int (nI N_1559)), (3, .int (nI N_1560))] → Hp D (Af cs ad sz) (Af cs ad sz) s.heap H locs cs ad en_1563 → W p l e (headSpec (Cond.code yX12_growth cX12_growth 7 (some .int) :: TB) (rmN 4)).room s m ([.ref (ad 0), .int (nI N_1558), .int (nI N_1559), .int (nI N_1560)] : List Value).toArray below meth c H locs 0 0 (MQ below (va_Qi (S := Nat → va_E) (fun r en1 => RX cy cs ad en1 ∧ (∀ c, (c ≠ 0 ∧ c ≠ 6 ∧ c ≠ 7 ∧ c ≠ 8 ∧ c ≠ 9) → en1 c = en c) ∧ KP en en1) (PostM D cs ad) (Af cs ad sz)) ([.ref (ad 0), .int (nI N_1558), .int (nI N_1559), .int (nI N_1560)] : List Value).toArray s 0 0 (Af cs ad sz)) (F0 m 59 ls []) := by
              intro fu
              induction fu with
              | zero => intro j1563  en_1563 ls H locs h0 h1 h2; exact absurd h2 (by omega)
              | succ fu ih_1563 =>
                intro j1563  en_1563 ls H locs hj0_1563 hj_1563 hfu_1563 hI_1563 hf_1563 i0_1563 hl hh
                refine lv_iload hx hb dX12_growth_59 (lv_at hl 0 rfl) ?_
                refine lv_iload_n hx hb dX12_growth_61 rfl (lv_at hl 4 rfl) ?_
                refine lv_icmp_gt (tgt := 83) hx hb dX12_growth_62 (by decide) (fun c_1564 => ?_) (fun c_1564 => ?_)
                · have n_1564 : N_1560 < j1563 := n_lt (a := N_1560) (b := j1563) c_1564 (by omega) (by omega)
                  refine lv_iconst (v := 0) hx hb dX12_growth_83 (by decide) ?_
                  refine lv_istore (lv' := [(4, .int 0), (0, .ref (ad 0)), (1, .int (nI N_1558)), (2, .int (nI N_1559)), (3, .int (nI N_1560))]) hx hb dX12_growth_84 hl (by decide) rfl (fun ls hl => ?_)
                  refine lv_iconst (v := 1) hx hb dX12_growth_86 (by decide) ?_
                  refine lv_istore (lv' := [(5, .int 1), (4, .int 0), (0, .ref (ad 0)), (1, .int (nI N_1558)), (2, .int (nI N_1559)), (3, .int (nI N_1560))]) hx hb dX12_growth_87 hl (by decide) rfl (fun ls hl => ?_)
                  have loop_1565 : ∀ (fu j1565 : Nat) (be1565 : Int32) (en_1565 : Nat → va_E) (ls : Array Slot) (H : Heap) (locs : List Loc), 1 ≤ j1565 → j1565 ≤ (N_1560 + 1) → (N_1560 + 1) < j1565 + fu → RX cy cs ad en_1565 → (∀ c, (c ≠ 0 ∧ c ≠ 6 ∧ c ≠ 7 ∧ c ≠ 8 ∧ c ≠ 9) → en_1565 c = en c) → (KP en en_1565) → lv_has ls 7 [(5, .int (nI j1565)), (4, .int be1565), (0, .ref (ad 0)), (1, .int (nI N_1558)), (2, .int (nI N_1559)), (3, .int (nI N_1560))] → Hp D (Af cs ad sz) (Af cs ad sz) s.heap H locs cs ad en_1565 → W p l e (headSpec (Cond.code yX12_growth cX12_growth 7 (some .int) :: TB) (rmN 4)).room s m ([.ref (ad 0), .int (nI N_1558), .int (nI N_1559), .int (nI N_1560)] : List Value).toArray below meth c H locs 0 0 (MQ below (va_Qi (S := Nat → va_E) (fun r en1 => RX cy cs ad en1 ∧ (∀ c, (c ≠ 0 ∧ c ≠ 6 ∧ c ≠ 7 ∧ c ≠ 8 ∧ c ≠ 9) → en1 c = en c) ∧ KP en en1) (PostM D cs ad) (Af cs ad sz)) ([.ref (ad 0), .int (nI N_1558), .int (nI N_1559), .int (nI N_1560)] : List Value).toArray s 0 0 (Af cs ad sz)) (F0 m 89 ls []) := by
                    intro fu
                    induction fu with
                    | zero => intro j1565 be1565 en_1565 ls H locs h0 h1 h2; exact absurd h2 (by omega)
                    | succ fu ih_1565 =>
                      intro j1565 be1565 en_1565 ls H locs hj0_1565 hj_1565 hfu_1565 hI_1565 hf_1565 i0_1565 hl hh
                      refine lv_iload hx hb dX12_growth_89 (lv_at hl 0 rfl) ?_
                      refine lv_iload_n hx hb dX12_growth_91 rfl (lv_at hl 5 rfl) ?_
                      refine lv_icmp_gt (tgt := 220) hx hb dX12_growth_92 (by decide) (fun c_1566 => ?_) (fun c_1566 => ?_)
                      · have n_1566 : N_1560 < j1565 := n_lt (a := N_1560) (b := j1565) c_1566 (by omega) (by omega)
                        refine lv_iload hx hb dX12_growth_220 (lv_at hl 1 rfl) ?_
                        refine lv_if_eq (tgt := 229) hx hb dX12_growth_222 (by decide) (fun c_1567 => ?_) (fun c_1567 => ?_)
                        · refine lv_iconst (v := 0) hx hb dX12_growth_229 (by decide) ?_
                          exact hp_iretM hx hb hr rfl hlocks hh (⟨hI_1565, hf_1565, i0_1565⟩) dX12_growth_230
                        · refine lv_iconst (v := (-1)) hx hb dX12_growth_225 (by decide) ?_
                          refine lv_goto (tgt := 230) hx hb dX12_growth_226 (by decide) ?_
                          exact hp_iretM hx hb hr rfl hlocks hh (⟨hI_1565, hf_1565, i0_1565⟩) dX12_growth_230
                      · have n_1566 : j1565 ≤ N_1560 := n_nlt (a := N_1560) (b := j1565) c_1566 (by omega) (by omega)
                        refine lv_iconst (v := 1) hx hb dX12_growth_95 (by decide) ?_
                        refine lv_istore (lv' := [(6, .int 1), (5, .int (nI j1565)), (4, .int be1565), (0, .ref (ad 0)), (1, .int (nI N_1558)), (2, .int (nI N_1559)), (3, .int (nI N_1560))]) hx hb dX12_growth_96 hl (by decide) rfl (fun ls hl => ?_)
                        refine lv_aload_n hx hb dX12_growth_98 rfl (lv_at hl 3 rfl) ?_
                        obtain ⟨fa_1568, hi_1568, wd_1568, mo_1568, tb_1568, dp_1568, many_1568, grt_1568, lst_1568, nou_1568, rm_1568, rb_1568, pr_1568, wo_1568, es1568, p0_1568, p1_1568, p2_1568, p3_1568, p4_1568⟩ := getr_M hI_1565
                        have hq2_1569 : wd_1568 = wd := n_eq ((show nI wd_1568 = rdI (en_1565 0) 2 from by rw [es1568]; rfl).trans (i0_1565.2.1.trans (show rdI (en 0) 2 = nI wd from by rw [es1557]; rfl))) (by omega) (by omega)
                        have hq3_1569 : mo_1568 = mo := n_eq ((show nI mo_1568 = rdI (en_1565 0) 3 from by rw [es1568]; rfl).trans (i0_1565.2.2.1.trans (show rdI (en 0) 3 = nI mo from by rw [es1557]; rfl))) (by omega) (by omega)
                        have hq4_1569 : tb_1568 = tb := n_eq ((show nI tb_1568 = rdI (en_1565 0) 4 from by rw [es1568]; rfl).trans (i0_1565.2.2.2.1.trans (show rdI (en 0) 4 = nI tb from by rw [es1557]; rfl))) (by omega) (by omega)
                        have hq30_1569 : wo_1568 = wo := n_eq ((show nI wo_1568 = rdI (en_1565 0) 30 from by rw [es1568]; rfl).trans (i0_1565.2.2.2.2.2.trans (show rdI (en 0) 30 = nI wo from by rw [es1557]; rfl))) (by omega) (by omega)
                        rw [hq2_1569, hq3_1569, hq4_1569, hq30_1569] at es1568
                        refine hp_callMv (va_runV (As := []) (rest := []) ⟨hx, hb, hml, hown, hts⟩ (c_X12_beginWords l D cy _ cs ad en_1565 hI_1565  ) (kw_X12_beginWords hts tw_1038 ⟨by decide, by decide⟩) (preV_of hh hK (hI.1 _ (by decide)) es1568 rfl) rfl rfl hl.1 rfl (lv_room (Nat.le_of_ble_eq_true rfl)) dX12_growth_99 ⟨Nat.le_of_ble_eq_true rfl, Nat.le_of_ble_eq_true rfl⟩) hh hA (fun H locs en_1570 hw_1570 hh => ?_)
                        obtain ⟨hI_1570, hu_1570, hd0_1570, hg0_1570, hx_1570⟩ := hw_1570
                        have hND_1570 : ND en_1570 j1565 0 0 := ⟨by omega, Or.inl hd0_1570, fun i h => absurd h (Nat.not_lt_zero i), by rw [hg0_1570]; decide, by omega⟩
                        have hf_1570 : ∀ c, (c ≠ 0 ∧ c ≠ 6 ∧ c ≠ 7 ∧ c ≠ 8 ∧ c ≠ 9) → en_1570 c = en c := fun c hc => (hu_1570 c (by omega)).trans (hf_1565 c hc)
                        have hkp_1570 : KP en en_1570 := KP_tr i0_1565 hx_1570
                        have loop_1571 : ∀ (fu mm1571 : Nat) (al1571 : Int32) (d1571 : Nat) (u1571 : Nat) (en_1571 : Nat → va_E) (ls : Array Slot) (H : Heap) (locs : List Loc), mm1571 < fu → RX cy cs ad en_1571 → (∀ c, (c ≠ 0 ∧ c ≠ 6 ∧ c ≠ 7 ∧ c ≠ 8 ∧ c ≠ 9) → en_1571 c = en c) → (ND en_1571 j1565 d1571 u1571) → (134217728 ≤ nmv (rdF (en_1571 7)) d1571 u1571 + mm1571) → (KP en en_1571) → lv_has ls 7 [(6, .int al1571), (5, .int (nI j1565)), (4, .int be1565), (0, .ref (ad 0)), (1, .int (nI N_1558)), (2, .int (nI N_1559)), (3, .int (nI N_1560))] → Hp D (Af cs ad sz) (Af cs ad sz) s.heap H locs cs ad en_1571 → W p l e (headSpec (Cond.code yX12_growth cX12_growth 7 (some .int) :: TB) (rmN 4)).room s m ([.ref (ad 0), .int (nI N_1558), .int (nI N_1559), .int (nI N_1560)] : List Value).toArray below meth c H locs 0 0 (MQ below (va_Qi (S := Nat → va_E) (fun r en1 => RX cy cs ad en1 ∧ (∀ c, (c ≠ 0 ∧ c ≠ 6 ∧ c ≠ 7 ∧ c ≠ 8 ∧ c ≠ 9) → en1 c = en c) ∧ KP en en1) (PostM D cs ad) (Af cs ad sz)) ([.ref (ad 0), .int (nI N_1558), .int (nI N_1559), .int (nI N_1560)] : List Value).toArray s 0 0 (Af cs ad sz)) (F0 m 102 ls []) := by
                          intro fu
                          induction fu with
                          | zero => intro mm1571 al1571 d1571 u1571 en_1571 ls H locs h2; exact absurd h2 (by omega)
                          | succ fu ih_1571 =>
                            intro mm1571 al1571 d1571 u1571 en_1571 ls H locs hmm_1571 hI_1571 hf_1571 i0_1571 i1_1571 i2_1571 hl hh
                            have hlt_1571 := nmv_lt i0_1571.2.2 (by have h9 := i0_1571.1; omega)
                            have hwd_1571 := i0_1571.1
                            refine lv_aload_n hx hb dX12_growth_102 rfl (lv_at hl 3 rfl) ?_
                            refine lv_iload hx hb dX12_growth_103 (lv_at hl 1 rfl) ?_
                            obtain ⟨fa_1572, hi_1572, wd_1572, mo_1572, tb_1572, dp_1572, many_1572, grt_1572, lst_1572, nou_1572, rm_1572, rb_1572, pr_1572, wo_1572, es1572, p0_1572, p1_1572, p2_1572, p3_1572, p4_1572⟩ := getr_M hI_1571
                            have hq2_1573 : wd_1572 = wd := n_eq ((show nI wd_1572 = rdI (en_1571 0) 2 from by rw [es1572]; rfl).trans (i2_1571.2.1.trans (show rdI (en 0) 2 = nI wd from by rw [es1557]; rfl))) (by omega) (by omega)
                            have hq3_1573 : mo_1572 = mo := n_eq ((show nI mo_1572 = rdI (en_1571 0) 3 from by rw [es1572]; rfl).trans (i2_1571.2.2.1.trans (show rdI (en 0) 3 = nI mo from by rw [es1557]; rfl))) (by omega) (by omega)
                            have hq4_1573 : tb_1572 = tb := n_eq ((show nI tb_1572 = rdI (en_1571 0) 4 from by rw [es1572]; rfl).trans (i2_1571.2.2.2.1.trans (show rdI (en 0) 4 = nI tb from by rw [es1557]; rfl))) (by omega) (by omega)
                            have hq30_1573 : wo_1572 = wo := n_eq ((show nI wo_1572 = rdI (en_1571 0) 30 from by rw [es1572]; rfl).trans (i2_1571.2.2.2.2.2.trans (show rdI (en 0) 30 = nI wo from by rw [es1557]; rfl))) (by omega) (by omega)
                            rw [hq2_1573, hq3_1573, hq4_1573, hq30_1573] at es1572
                            refine hp_callMi (va_runV (As := [.int (nI j1565)]) (rest := []) ⟨hx, hb, hml, hown, hts⟩ (c_X12_next l D cy _ cs ad en_1571 hI_1571 j1565 (by omega) (by omega) d1571 u1571 i0_1571) (kw_X12_next hts tw_1046 ⟨by decide, by decide⟩) (preV_of hh hK (hI.1 _ (by decide)) es1572 rfl) rfl rfl hl.1 rfl (lv_room (Nat.le_of_ble_eq_true rfl)) dX12_growth_105 ⟨Nat.le_of_ble_eq_true rfl, Nat.le_of_ble_eq_true rfl⟩) hh hA (fun r_1574 H locs en_1574 hw_1574 hh => ?_)
                            obtain ⟨hI_1574, hu_1574, hx_1574, hkq_1574⟩ := hw_1574
                            have hf_1574 : ∀ c, (c ≠ 0 ∧ c ≠ 6 ∧ c ≠ 7 ∧ c ≠ 8 ∧ c ≠ 9) → en_1574 c = en c := fun c hc => (hu_1574 c (by omega)).trans (hf_1571 c hc)
                            have hkp_1574 : KP en en_1574 := KP_tr i2_1571 hkq_1574
                            rcases hx_1574 with hr_1574 | ⟨hr_1574, u1_1574, hND_1574, hu1_1574, hnm_1574⟩
                            · rw [hr_1574]
                              refine lv_if_eq (tgt := 207) hx hb dX12_growth_108 (by decide) (fun _ => ?_) (fun c_0 => absurd c_0 (by decide))
                              refine lv_iload hx hb dX12_growth_207 (lv_at hl 2 rfl) ?_
                              refine lv_iload hx hb dX12_growth_209 (lv_at hl 0 rfl) ?_
                              refine lv_ior hx hb dX12_growth_211 ?_
                              refine lv_istore (lv' := [(4, .int (be1565 ||| al1571)), (6, .int al1571), (5, .int (nI j1565)), (0, .ref (ad 0)), (1, .int (nI N_1558)), (2, .int (nI N_1559)), (3, .int (nI N_1560))]) hx hb dX12_growth_212 hl (by decide) rfl (fun ls hl => ?_)
                              refine lv_iinc (v := (nI (j1565 + 1))) (lv' := [(5, .int (nI (j1565 + 1))), (4, .int (be1565 ||| al1571)), (6, .int al1571), (0, .ref (ad 0)), (1, .int (nI N_1558)), (2, .int (nI N_1559)), (3, .int (nI N_1560))]) hx hb dX12_growth_214 hl (k := 2) rfl (nI_1 _) (by decide) rfl (fun ls hl => ?_)
                              refine lv_goto (tgt := 89) hx hb dX12_growth_217 (by decide) ?_
                              exact ih_1565 ((j1565 + 1)) (be1565 ||| al1571) en_1574 ls H locs (by omega) (by omega) (by omega) hI_1574 hf_1574 (hkp_1574) (lv_sub hl [0, 1, 3, 4, 5, 6] rfl) hh
                            · rw [hr_1574]
                              have hall_1574 := NW_all hND_1574.2.2 (by omega) hu1_1574
                              refine lv_if_eq (tgt := 207) hx hb dX12_growth_108 (by decide) (fun c_0 => absurd c_0 (by decide)) (fun _ => ?_)
                              have join_1575 : ∀  (en_1575 : Nat → va_E) (ls : Array Slot) (H : Heap) (locs : List Loc), RX cy cs ad en_1575 → (∀ c, (c ≠ 0 ∧ c ≠ 6 ∧ c ≠ 7 ∧ c ≠ 8 ∧ c ≠ 9) → en_1575 c = en c) → KP en en_1575 → SD en_1574 en_1575 → lv_has ls 7 [(6, .int al1571), (5, .int (nI j1565)), (4, .int be1565), (0, .ref (ad 0)), (1, .int (nI N_1558)), (2, .int (nI N_1559)), (3, .int (nI N_1560))] → Hp D (Af cs ad sz) (Af cs ad sz) s.heap H locs cs ad en_1575 → W p l e (headSpec (Cond.code yX12_growth cX12_growth 7 (some .int) :: TB) (rmN 4)).room s m ([.ref (ad 0), .int (nI N_1558), .int (nI N_1559), .int (nI N_1560)] : List Value).toArray below meth c H locs 0 0 (MQ below (va_Qi (S := Nat → va_E) (fun r en1 => RX cy cs ad en1 ∧ (∀ c, (c ≠ 0 ∧ c ≠ 6 ∧ c ≠ 7 ∧ c ≠ 8 ∧ c ≠ 9) → en1 c = en c) ∧ KP en en1) (PostM D cs ad) (Af cs ad sz)) ([.ref (ad 0), .int (nI N_1558), .int (nI N_1559), .int (nI N_1560)] : List Value).toArray s 0 0 (Af cs ad sz)) (F0 m 169 ls []) := by
                                intro  en_1575 ls H locs hI_1575 hf_1575 hkp_1575 hsd_1575  hl hh
                                refine lv_iload hx hb dX12_growth_169 (lv_at hl 0 rfl) ?_
                                refine lv_aload_n hx hb dX12_growth_171 rfl (lv_at hl 3 rfl) ?_
                                refine lv_iload hx hb dX12_growth_172 (lv_at hl 1 rfl) ?_
                                obtain ⟨fa_1576, hi_1576, wd_1576, mo_1576, tb_1576, dp_1576, many_1576, grt_1576, lst_1576, nou_1576, rm_1576, rb_1576, pr_1576, wo_1576, es1576, p0_1576, p1_1576, p2_1576, p3_1576, p4_1576⟩ := getr_M hI_1575
                                have hq2_1577 : wd_1576 = wd := n_eq ((show nI wd_1576 = rdI (en_1575 0) 2 from by rw [es1576]; rfl).trans (hkp_1575.2.1.trans (show rdI (en 0) 2 = nI wd from by rw [es1557]; rfl))) (by omega) (by omega)
                                have hq3_1577 : mo_1576 = mo := n_eq ((show nI mo_1576 = rdI (en_1575 0) 3 from by rw [es1576]; rfl).trans (hkp_1575.2.2.1.trans (show rdI (en 0) 3 = nI mo from by rw [es1557]; rfl))) (by omega) (by omega)
                                have hq4_1577 : tb_1576 = tb := n_eq ((show nI tb_1576 = rdI (en_1575 0) 4 from by rw [es1576]; rfl).trans (hkp_1575.2.2.2.1.trans (show rdI (en 0) 4 = nI tb from by rw [es1557]; rfl))) (by omega) (by omega)
                                have hq30_1577 : wo_1576 = wo := n_eq ((show nI wo_1576 = rdI (en_1575 0) 30 from by rw [es1576]; rfl).trans (hkp_1575.2.2.2.2.2.trans (show rdI (en 0) 30 = nI wo from by rw [es1557]; rfl))) (by omega) (by omega)
                                rw [hq2_1577, hq3_1577, hq4_1577, hq30_1577] at es1576
                                refine hp_callRl (va_runV (As := [.int (nI j1565)]) (rest := [.int al1571]) ⟨hx, hb, hml, hown, hts⟩ (c_X12_normAt l D cy _ cs ad en_1575 hI_1575 j1565 (by omega)) (kw_X12_normAt hts tw_1058 ⟨by decide, by decide⟩) (preV_of hh hK (hI.1 _ (by decide)) es1576 rfl) rfl rfl hl.1 rfl (lv_room (Nat.le_of_ble_eq_true rfl)) dX12_growth_174 ⟨Nat.le_of_ble_eq_true rfl, Nat.le_of_ble_eq_true rfl⟩) hh hA (fun r_1578 H locs hw_1578 hh => ?_)
                                refine lv_iload_n hx hb dX12_growth_177 rfl (lv_at hl 5 rfl) ?_
                                refine lv_i2l hx hb dX12_growth_178 rfl ?_
                                refine lv_iload hx hb dX12_growth_179 (lv_at hl 1 rfl) ?_
                                refine hp_callRl (va_runS (As := [.long ((nI N_1559).toInt64), .int (nI j1565)]) (rest := [.long r_1578, .int al1571]) ⟨hx, hb, hml, hown, hts⟩ (c_X12_power l D cy _ cs ad en_1575 hI_1575 ((nI N_1559).toInt64) j1565 (by omega)) (kw_X12_power hts tw_1110 ⟨by decide, by decide⟩) (preS_of hh hK) rfl rfl hl.1 rfl (lv_room (Nat.le_of_ble_eq_true rfl)) dX12_growth_181 ⟨Nat.le_of_ble_eq_true rfl, Nat.le_of_ble_eq_true rfl⟩) hh hA (fun r_1579 H locs hw_1579 hh => ?_)
                                refine lv_lmul hx hb dX12_growth_184 ?_
                                refine lv_iload_n hx hb dX12_growth_185 rfl (lv_at hl 4 rfl) ?_
                                refine lv_i2l hx hb dX12_growth_186 rfl ?_
                                refine lv_iload hx hb dX12_growth_187 (lv_at hl 1 rfl) ?_
                                refine hp_callRl (va_runS (As := [.long ((nI N_1558).toInt64), .int (nI j1565)]) (rest := [.long (r_1578 * r_1579), .int al1571]) ⟨hx, hb, hml, hown, hts⟩ (c_X12_power l D cy _ cs ad en_1575 hI_1575 ((nI N_1558).toInt64) j1565 (by omega)) (kw_X12_power hts tw_1110 ⟨by decide, by decide⟩) (preS_of hh hK) rfl rfl hl.1 rfl (lv_room (Nat.le_of_ble_eq_true rfl)) dX12_growth_189 ⟨Nat.le_of_ble_eq_true rfl, Nat.le_of_ble_eq_true rfl⟩) hh hA (fun r_1580 H locs hw_1580 hh => ?_)
                                refine W.lcmp hx hb dX12_growth_192 ?_
                                refine lv_if_ge (tgt := 200) hx hb dX12_growth_193 (by decide) (fun c_1581 => ?_) (fun c_1581 => ?_)
                                · refine lv_iconst (v := 0) hx hb dX12_growth_200 (by decide) ?_
                                  refine lv_iand hx hb dX12_growth_201 ?_
                                  refine lv_istore (lv' := [(6, .int (al1571 &&& 0)), (5, .int (nI j1565)), (4, .int be1565), (0, .ref (ad 0)), (1, .int (nI N_1558)), (2, .int (nI N_1559)), (3, .int (nI N_1560))]) hx hb dX12_growth_202 hl (by decide) rfl (fun ls hl => ?_)
                                  refine lv_goto (tgt := 102) hx hb dX12_growth_204 (by decide) ?_
                                  exact ih_1571 (mm1571 - 1) (al1571 &&& 0) (j1565 - 1) u1_1574 en_1575 ls H locs (by omega) hI_1575 hf_1575 (ND_sd hND_1574 hsd_1575) (by rw [hsd_1575.2]; have h1 := hnm_1574; have h2 := i1_1571; omega) (hkp_1575) (lv_sub hl [0, 1, 2, 3, 4, 5, 6] rfl) hh
                                · refine lv_iconst (v := 1) hx hb dX12_growth_196 (by decide) ?_
                                  refine lv_goto (tgt := 201) hx hb dX12_growth_197 (by decide) ?_
                                  refine lv_iand hx hb dX12_growth_201 ?_
                                  refine lv_istore (lv' := [(6, .int (al1571 &&& 1)), (5, .int (nI j1565)), (4, .int be1565), (0, .ref (ad 0)), (1, .int (nI N_1558)), (2, .int (nI N_1559)), (3, .int (nI N_1560))]) hx hb dX12_growth_202 hl (by decide) rfl (fun ls hl => ?_)
                                  refine lv_goto (tgt := 102) hx hb dX12_growth_204 (by decide) ?_
                                  exact ih_1571 (mm1571 - 1) (al1571 &&& 1) (j1565 - 1) u1_1574 en_1575 ls H locs (by omega) hI_1575 hf_1575 (ND_sd hND_1574 hsd_1575) (by rw [hsd_1575.2]; have h1 := hnm_1574; have h2 := i1_1571; omega) (hkp_1575) (lv_sub hl [0, 1, 2, 3, 4, 5, 6] rfl) hh
                              refine lv_aload_n hx hb dX12_growth_111 rfl (lv_at hl 3 rfl) ?_
                              refine lv_aload_n hx hb dX12_growth_112 rfl (lv_at hl 3 rfl) ?_
                              obtain ⟨fa_1582, hi_1582, wd_1582, mo_1582, tb_1582, dp_1582, many_1582, grt_1582, lst_1582, nou_1582, rm_1582, rb_1582, pr_1582, wo_1582, es1582, p0_1582, p1_1582, p2_1582, p3_1582, p4_1582⟩ := getr_M hI_1574
                              have hq2_1583 : wd_1582 = wd := n_eq ((show nI wd_1582 = rdI (en_1574 0) 2 from by rw [es1582]; rfl).trans (hkp_1574.2.1.trans (show rdI (en 0) 2 = nI wd from by rw [es1557]; rfl))) (by omega) (by omega)
                              have hq3_1583 : mo_1582 = mo := n_eq ((show nI mo_1582 = rdI (en_1574 0) 3 from by rw [es1582]; rfl).trans (hkp_1574.2.2.1.trans (show rdI (en 0) 3 = nI mo from by rw [es1557]; rfl))) (by omega) (by omega)
                              have hq4_1583 : tb_1582 = tb := n_eq ((show nI tb_1582 = rdI (en_1574 0) 4 from by rw [es1582]; rfl).trans (hkp_1574.2.2.2.1.trans (show rdI (en 0) 4 = nI tb from by rw [es1557]; rfl))) (by omega) (by omega)
                              have hq30_1583 : wo_1582 = wo := n_eq ((show nI wo_1582 = rdI (en_1574 0) 30 from by rw [es1582]; rfl).trans (hkp_1574.2.2.2.2.2.trans (show rdI (en 0) 30 = nI wo from by rw [es1557]; rfl))) (by omega) (by omega)
                              rw [hq2_1583, hq3_1583, hq4_1583, hq30_1583] at es1582
                              refine hp_get hx hb hts ix12 hown hK hh (q := 0) rfl (hI.1 _ (by decide)) es1582 rfl 11 (by decide) (hts _ tw_890) (fun _ h9 => h9) rfl dX12_growth_113 ?_
                              refine lv_iload hx hb dX12_growth_116 (lv_at hl 1 rfl) ?_
                              refine lv_iconst (v := 1) hx hb dX12_growth_118 (by decide) ?_
                              refine lv_isub hx hb dX12_growth_119 ?_
                              rw [show (1 : Int32) = nI 1 from rfl, pk_sub (a := j1565) (b := 1) (by omega)]
                              obtain ⟨f_1584, es1584⟩ := getr_nw hI_1574
                              refine hp_iald hx hb hK hh (q := 7) rfl (hI.1 _ (by decide)) es1584 (vp_in_nI (n := (j1565 - 1)) (by omega) (by decide)) dX12_growth_120 ?_
                              rw [nI_clamp (n := (j1565 - 1)) (by omega)]
                              obtain ⟨v_1585, hv_1585, hve_1585⟩ := hall_1574 (j1565 - 1) (by omega)
                              rw [show f_1584 (j1565 - 1) = nI v_1585 from (show f_1584 (j1565 - 1) = rdF (en_1574 7) (j1565 - 1) from by rw [← (SD_rf en_1574).2, es1584]; rfl).trans hve_1585]
                              refine lv_aload_n hx hb dX12_growth_121 rfl (lv_at hl 3 rfl) ?_
                              refine hp_get hx hb hts ix12 hown hK hh (q := 0) rfl (hI.1 _ (by decide)) es1582 rfl 11 (by decide) (hts _ tw_890) (fun _ h9 => h9) rfl dX12_growth_122 ?_
                              refine lv_iconst (v := 0) hx hb dX12_growth_125 (by decide) ?_
                              rw [show (0 : Int32) = nI 0 from rfl]
                              refine hp_iald hx hb hK hh (q := 7) rfl (hI.1 _ (by decide)) es1584 (vp_in_nI (n := 0) (by omega) (by decide)) dX12_growth_126 ?_
                              rw [nI_clamp (n := 0) (by omega)]
                              obtain ⟨v_1586, hv_1586, hve_1586⟩ := hall_1574 0 (by omega)
                              rw [show f_1584 0 = nI v_1586 from (show f_1584 0 = rdF (en_1574 7) 0 from by rw [← (SD_rf en_1574).2, es1584]; rfl).trans hve_1586]
                              refine hp_callRi (va_runV (As := [.int (nI v_1585), .int (nI v_1586)]) (rest := []) ⟨hx, hb, hml, hown, hts⟩ (c_X12_mayFollow l D cy _ cs ad en_1574 hI_1574 v_1585 v_1586 (by omega) (by omega)) (kw_X12_mayFollow hts tw_1029 ⟨by decide, by decide⟩) (preV_of hh hK (hI.1 _ (by decide)) es1582 rfl) rfl rfl hl.1 rfl (lv_room (Nat.le_of_ble_eq_true rfl)) dX12_growth_127 ⟨Nat.le_of_ble_eq_true rfl, Nat.le_of_ble_eq_true rfl⟩) hh hA (fun r_1587 H locs hw_1587 hh => ?_)
                              rcases Decidable.em (rdF (en_1574 2) (6 * v_1585 + v_1586) = 0) with hp_1587 | hp_1587
                              · obtain rfl : r_1587 = 1 := Eq.trans hw_1587 (if_pos hp_1587)
                                refine lv_if_eq (tgt := 169) hx hb dX12_growth_130 (by decide) (fun c_0 => absurd c_0 (by decide)) (fun _ => ?_)
                                refine lv_aload_n hx hb dX12_growth_133 rfl (lv_at hl 3 rfl) ?_
                                refine lv_iload hx hb dX12_growth_134 (lv_at hl 1 rfl) ?_
                                refine hp_callRl (va_runV (As := [.int (nI j1565)]) (rest := []) ⟨hx, hb, hml, hown, hts⟩ (c_X12_trackAt l D cy _ cs ad en_1574 hI_1574 j1565 (by omega)) (kw_X12_trackAt hts tw_1093 ⟨by decide, by decide⟩) (preV_of hh hK (hI.1 _ (by decide)) es1582 rfl) rfl rfl hl.1 rfl (lv_room (Nat.le_of_ble_eq_true rfl)) dX12_growth_136 ⟨Nat.le_of_ble_eq_true rfl, Nat.le_of_ble_eq_true rfl⟩) hh hA (fun r_1588 H locs hw_1588 hh => ?_)
                                refine hp_callRl (va_runS (As := [.long r_1588]) (rest := []) ⟨hx, hb, hml, hown, hts⟩ (c_X12_sizeOf l D cy _ cs ad en_1574 hI_1574 r_1588 ) (kw_X12_sizeOf hts tw_1062 ⟨by decide, by decide⟩) (preS_of hh hK) rfl rfl hl.1 rfl (lv_room (Nat.le_of_ble_eq_true rfl)) dX12_growth_139 ⟨Nat.le_of_ble_eq_true rfl, Nat.le_of_ble_eq_true rfl⟩) hh hA (fun r_1589 H locs hw_1589 hh => ?_)
                                obtain rfl : r_1589 = absR r_1588 := hw_1589
                                refine lv_iload_n hx hb dX12_growth_142 rfl (lv_at hl 5 rfl) ?_
                                refine lv_i2l hx hb dX12_growth_143 rfl ?_
                                refine lv_iload hx hb dX12_growth_144 (lv_at hl 1 rfl) ?_
                                refine hp_callRl (va_runS (As := [.long ((nI N_1559).toInt64), .int (nI j1565)]) (rest := [.long (absR r_1588)]) ⟨hx, hb, hml, hown, hts⟩ (c_X12_power l D cy _ cs ad en_1574 hI_1574 ((nI N_1559).toInt64) j1565 (by omega)) (kw_X12_power hts tw_1110 ⟨by decide, by decide⟩) (preS_of hh hK) rfl rfl hl.1 rfl (lv_room (Nat.le_of_ble_eq_true rfl)) dX12_growth_146 ⟨Nat.le_of_ble_eq_true rfl, Nat.le_of_ble_eq_true rfl⟩) hh hA (fun r_1590 H locs hw_1590 hh => ?_)
                                refine lv_lmul hx hb dX12_growth_149 ?_
                                refine lv_aload_n hx hb dX12_growth_150 rfl (lv_at hl 3 rfl) ?_
                                refine hp_get hx hb hts ix12 hown hK hh (q := 0) rfl (hI.1 _ (by decide)) es1582 rfl 2 (by decide) (hts _ tw_881) (fun _ h9 => h9) rfl dX12_growth_151 ?_
                                refine lv_i2l hx hb dX12_growth_154 rfl ?_
                                refine lv_iload_n hx hb dX12_growth_155 rfl (lv_at hl 4 rfl) ?_
                                refine lv_i2l hx hb dX12_growth_156 rfl ?_
                                refine lv_iload hx hb dX12_growth_157 (lv_at hl 1 rfl) ?_
                                refine hp_callRl (va_runS (As := [.long ((nI N_1558).toInt64), .int (nI j1565)]) (rest := [.long ((nI wd).toInt64), .long ((absR r_1588) * r_1590)]) ⟨hx, hb, hml, hown, hts⟩ (c_X12_power l D cy _ cs ad en_1574 hI_1574 ((nI N_1558).toInt64) j1565 (by omega)) (kw_X12_power hts tw_1110 ⟨by decide, by decide⟩) (preS_of hh hK) rfl rfl hl.1 rfl (lv_room (Nat.le_of_ble_eq_true rfl)) dX12_growth_159 ⟨Nat.le_of_ble_eq_true rfl, Nat.le_of_ble_eq_true rfl⟩) hh hA (fun r_1591 H locs hw_1591 hh => ?_)
                                refine lv_lmul hx hb dX12_growth_162 ?_
                                refine W.lcmp hx hb dX12_growth_163 ?_
                                refine lv_if_le (tgt := 169) hx hb dX12_growth_164 (by decide) (fun c_1592 => ?_) (fun c_1592 => ?_)
                                · exact join_1575  en_1574 ls _ _ hI_1574 hf_1574 hkp_1574 (SD_rf en_1574) (lv_sub hl [0, 1, 2, 3, 4, 5, 6] rfl) hh
                                · refine lv_iconst (v := 1) hx hb dX12_growth_167 (by decide) ?_
                                  exact hp_iretM hx hb hr rfl hlocks hh (⟨hI_1574, hf_1574, hkp_1574⟩) dX12_growth_168
                              · obtain rfl : r_1587 = 0 := Eq.trans hw_1587 (if_neg hp_1587)
                                refine lv_if_eq (tgt := 169) hx hb dX12_growth_130 (by decide) (fun _ => ?_) (fun c_0 => absurd c_0 (by decide))
                                exact join_1575  en_1574 ls _ _ hI_1574 hf_1574 hkp_1574 (SD_rf en_1574) (lv_sub hl [0, 1, 2, 3, 4, 5, 6] rfl) hh
                        exact loop_1571 (134217728 + 1) 134217728 1 0 0 en_1570 ls _ _ (by omega) hI_1570 hf_1570 (hND_1570) (by omega) (hkp_1570) (lv_sub hl [0, 1, 2, 3, 4, 5, 6] rfl) hh
                  exact loop_1565 ((N_1560 + 1) + 1) 1 0 en_1563 ls _ _ (Nat.le_refl _) (by omega) (by omega) hI_1563 hf_1563 (i0_1563) (lv_sub hl [0, 1, 2, 3, 4, 5] rfl) hh
                · have n_1564 : j1563 ≤ N_1560 := n_nlt (a := N_1560) (b := j1563) c_1564 (by omega) (by omega)
                  refine lv_aload_n hx hb dX12_growth_65 rfl (lv_at hl 1 rfl) ?_
                  refine lv_iload hx hb dX12_growth_66 (lv_at hl 0 rfl) ?_
                  obtain ⟨fa_1593, hi_1593, wd_1593, mo_1593, tb_1593, dp_1593, many_1593, grt_1593, lst_1593, nou_1593, rm_1593, rb_1593, pr_1593, wo_1593, es1593, p0_1593, p1_1593, p2_1593, p3_1593, p4_1593⟩ := getr_M hI_1563
                  have hq2_1594 : wd_1593 = wd := n_eq ((show nI wd_1593 = rdI (en_1563 0) 2 from by rw [es1593]; rfl).trans (i0_1563.2.1.trans (show rdI (en 0) 2 = nI wd from by rw [es1557]; rfl))) (by omega) (by omega)
                  have hq3_1594 : mo_1593 = mo := n_eq ((show nI mo_1593 = rdI (en_1563 0) 3 from by rw [es1593]; rfl).trans (i0_1563.2.2.1.trans (show rdI (en 0) 3 = nI mo from by rw [es1557]; rfl))) (by omega) (by omega)
                  have hq4_1594 : tb_1593 = tb := n_eq ((show nI tb_1593 = rdI (en_1563 0) 4 from by rw [es1593]; rfl).trans (i0_1563.2.2.2.1.trans (show rdI (en 0) 4 = nI tb from by rw [es1557]; rfl))) (by omega) (by omega)
                  have hq30_1594 : wo_1593 = wo := n_eq ((show nI wo_1593 = rdI (en_1563 0) 30 from by rw [es1593]; rfl).trans (i0_1563.2.2.2.2.2.trans (show rdI (en 0) 30 = nI wo from by rw [es1557]; rfl))) (by omega) (by omega)
                  rw [hq2_1594, hq3_1594, hq4_1594, hq30_1594] at es1593
                  refine hp_callMi (va_runV (As := [.int (nI j1563)]) (rest := []) ⟨hx, hb, hml, hown, hts⟩ (c_X12_isSpent l D cy _ cs ad en_1563 hI_1563 j1563 (by omega)) (kw_X12_isSpent hts tw_1025 ⟨by decide, by decide⟩) (preV_of hh hK (hI.1 _ (by decide)) es1593 rfl) rfl rfl hl.1 rfl (lv_room (Nat.le_of_ble_eq_true rfl)) dX12_growth_68 ⟨Nat.le_of_ble_eq_true rfl, Nat.le_of_ble_eq_true rfl⟩) hh hA (fun r_1595 H locs en_1595 hw_1595 hh => ?_)
                  obtain ⟨hI_1595, hu_1595, hx_1595⟩ := hw_1595
                  have es1593_1595 : en_1595 0 = .inr (11, [.int fa_1593, .int hi_1593, .int (nI wd), .int (nI mo), .int (nI tb), .ref (ad 1), .ref (ad 2), .ref (ad 3), .ref (ad 4), .ref (ad 5), .ref (ad 6), .ref (ad 7), .ref (ad 8), .ref (ad 9), .int dp_1593, .long many_1593, .long grt_1593, .long lst_1593, .long nou_1593, .ref (ad 10), .ref (ad 11), .ref (ad 12), .int rm_1593, .long rb_1593, .ref (ad 13), .int pr_1593, .ref (ad 14), .ref (ad 15), .ref (ad 16), .ref (ad 17), .int (nI wo), .ref (ad 18), .ref (ad 19)]) := (hu_1595 0 (by omega)).trans es1593
                  have hf_1595 : ∀ c, (c ≠ 0 ∧ c ≠ 6 ∧ c ≠ 7 ∧ c ≠ 8 ∧ c ≠ 9) → en_1595 c = en c := fun c hc => (hu_1595 c (by omega)).trans (hf_1563 c hc)
                  have hkp_1595 : KP en en_1595 := KP_same i0_1563 (hu_1595 0 (by omega))
                  have hw_1595 := hx_1595
                  rcases hw_1595 with hb_1595 | hb_1595
                  · obtain rfl : r_1595 = 0 := hb_1595
                    refine lv_if_eq (tgt := 77) hx hb dX12_growth_71 (by decide) (fun _ => ?_) (fun c_0 => absurd c_0 (by decide))
                    refine lv_iinc (v := (nI (j1563 + 1))) (lv' := [(4, .int (nI (j1563 + 1))), (0, .ref (ad 0)), (1, .int (nI N_1558)), (2, .int (nI N_1559)), (3, .int (nI N_1560))]) hx hb dX12_growth_77 hl (k := 0) rfl (nI_1 _) (by decide) rfl (fun ls hl => ?_)
                    refine lv_goto (tgt := 59) hx hb dX12_growth_80 (by decide) ?_
                    exact ih_1563 ((j1563 + 1))  en_1595 ls H locs (by omega) (by omega) (by omega) hI_1595 hf_1595 (hkp_1595) (lv_sub hl [0, 1, 2, 3, 4] rfl) hh
                  · obtain rfl : r_1595 = 1 := hb_1595
                    refine lv_if_eq (tgt := 77) hx hb dX12_growth_71 (by decide) (fun c_0 => absurd c_0 (by decide)) (fun _ => ?_)
                    refine lv_bipush (v := (-6)) hx hb dX12_growth_74 (by decide) ?_
                    exact hp_iretM hx hb hr rfl hlocks hh (⟨hI_1595, hf_1595, hkp_1595⟩) dX12_growth_76
            exact loop_1563 ((N_1560 + 1) + 1) 1  en ls _ _ (Nat.le_refl _) (by omega) (by omega) hI hf0 ((KP_rf en)) (lv_sub hl [0, 1, 2, 3, 4] rfl) hh
          · have n_1562 : tb = 0 := n_eq (a := tb) (b := 0) c_1562 (by omega) (by decide)
            refine lv_bipush (v := (-3)) hx hb dX12_growth_53 (by decide) ?_
            exact hp_iretM hx hb hr rfl hlocks hh (⟨hI, hf0, (KP_rf en)⟩) dX12_growth_55
      · obtain rfl : r_1560 = 0 := Eq.trans hw_1560 (if_neg (fun q => hp_1560 ((wj_32 (by decide) (by decide)).mp q)))
        refine lv_if_ne (tgt := 39) hx hb dX12_growth_33 (by decide) (fun c_0 => absurd c_0 (by decide)) (fun _ => ?_)
        refine lv_bipush (v := (-2)) hx hb dX12_growth_36 (by decide) ?_
        exact hp_iretM hx hb hr rfl hlocks hh (⟨hI, hf0, (KP_rf en)⟩) dX12_growth_38
    · obtain rfl : r_1559 = 0 := Eq.trans hw_1559 (if_neg (fun q => hp_1559 ((wj_32 (by decide) (by decide)).mp q)))
      refine lv_if_eq (tgt := 36) hx hb dX12_growth_21 (by decide) (fun _ => ?_) (fun c_0 => absurd c_0 (by decide))
      refine lv_bipush (v := (-2)) hx hb dX12_growth_36 (by decide) ?_
      exact hp_iretM hx hb hr rfl hlocks hh (⟨hI, hf0, (KP_rf en)⟩) dX12_growth_38
  · obtain rfl : r_1558 = 0 := Eq.trans hw_1558 (if_neg (fun q => hp_1558 ((wj_32 (by decide) (by decide)).mp q)))
    refine lv_if_eq (tgt := 36) hx hb dX12_growth_9 (by decide) (fun _ => ?_) (fun c_0 => absurd c_0 (by decide))
    refine lv_bipush (v := (-2)) hx hb dX12_growth_36 (by decide) ?_
    exact hp_iretM hx hb hr rfl hlocks hh (⟨hI, hf0, (KP_rf en)⟩) dX12_growth_38
theorem kw_X12_growth {R : Room} {s : State} {args : Array Value} {own : String} {idx : Nat} (hts : ∀ w ∈ TB, w.before args s = true) (hl : Cond.methodLink own idx yX12_growth ∈ TB) (hR : 4 + 1 ≤ R.frames ∧ 8 + (7 + 11) + 40 * 4 ≤ R.locals) : CallW R s args own RX12 idx yX12_growth cX12_growth 7 (some .int) (Cond.code yX12_growth cX12_growth 7 (some .int) :: TB) (rmN 4) 0 0 3 := cwV 3 hts (TB_V hl tw_1106 tw_1107 tw_9 tw_1108) rfl rfl rfl (by decide +kernel) hR
