set_option maxHeartbeats 4000000 in
set_option maxRecDepth 100000 in
/-- goThrough -/
theorem c_X12_goThrough (l : Launch) (D : va_G) (cy : Nat → ClassId) (sz : Nat) (cs : List Nat) (ad : Nat → Nat) (en : Nat → va_E) (hI : RX cy cs ad en) (n : Nat) (hn1 : 1 ≤ n) (hn8 : n ≤ 8)   : Met l yX12_goThrough (Cond.code yX12_goThrough cX12_goThrough 5 none :: TB) (rmN 3) (va_Pc [.ref (ad 0), .int (nI n)] (Pre D cy cs ad en sz)) (va_Qv (S := Nat → va_E) (fun en1 => RX cy cs ad en1 ∧ (∀ c, (c ≠ 0 ∧ c ≠ 6 ∧ c ≠ 7 ∧ c ≠ 10 ∧ c ≠ 11) → en1 c = en c) ∧ KP en en1) (PostM D cs ad) (Af cs ad sz)) 0 0 (Af cs ad sz) := by
  refine Met.ofW (cc := cX12_goThrough) (maxL := 5) (ret := none) (by decide) rfl ?_
  intro p e s m args below meth c s₁ B hml hv
  obtain ⟨rfl, hsz, hP, hK, hD0⟩ := hv
  have hx := B.exec
  have hb := B.bytes
  have hr := B.returns
  have hts : ∀ w ∈ TB, w.before _ s = true := fun w h => atoms_spec (ws := _ :: TB) B.pre w (List.mem_cons_of_mem _ h)
  have hown : s.vm.findClass RX12 = some m.cls := findClass_of_methodNamed B.named
  have hlocks := B.notSynchronized
  have hh : Hp D (Af cs ad sz) (Af cs ad sz) s.heap s.heap [] cs ad en := ⟨hP, Af_self hD0, va_S.rf⟩
  have hA : ∀ q : Nat, s.heap.size ≤ q → Af cs ad sz q := fun q h => Or.inr (by rw [hsz] at h; exact h)
  have hl := lv_entry ([.ref (ad 0), .int (nI n)]) (n := 5) (Nat.le_of_ble_eq_true rfl)
  rw [lg_entry_eq]
  generalize (lg_sl ([.ref (ad 0), .int (nI n)]) ++ List.replicate (5 - (lg_sl ([.ref (ad 0), .int (nI n)])).length) Slot.unset).toArray = ls at hl ⊢
  have hl : lv_has ls 5 [(0, .ref (ad 0)), (1, .int (nI n))] := hl
  have hf0 : ∀ c, (c ≠ 0 ∧ c ≠ 6 ∧ c ≠ 7 ∧ c ≠ 10 ∧ c ≠ 11) → en c = en c := fun _ _ => rfl
  obtain ⟨fa, hi, wd, mo, tb, dp, many, grt, lst, nou, rm, rb, pr, wo, es1392, hwd2, hwd3, hmo, htb, hwo⟩ := getr_M hI
  refine lv_aload_n hx hb dX12_goThrough_0 rfl (lv_at hl 0 rfl) ?_
  refine lv_lconst (v := 0) hx hb dX12_goThrough_1 (by decide) ?_
  refine hp_put hx hb hts ix12 tyX12 tyX12_ok nmX12 hown hK hh (q := 0) rfl (hI.1 _ (by decide)) es1392 rfl 15 (by decide) (hts _ tw_894) (fun _ h9 => h9) rfl (ty := .long) (by decide +kernel) rfl rfl (Nat.le_of_ble_eq_true rfl) dX12_goThrough_2 (fun H locs en_1393 hen_1393 hh => ?_)
  have es1392_1393 : en_1393 0 = .inr (11, [.int fa, .int hi, .int (nI wd), .int (nI mo), .int (nI tb), .ref (ad 1), .ref (ad 2), .ref (ad 3), .ref (ad 4), .ref (ad 5), .ref (ad 6), .ref (ad 7), .ref (ad 8), .ref (ad 9), .int dp, .long 0, .long grt, .long lst, .long nou, .ref (ad 10), .ref (ad 11), .ref (ad 12), .int rm, .long rb, .ref (ad 13), .int pr, .ref (ad 14), .ref (ad 15), .ref (ad 16), .ref (ad 17), .int (nI wo), .ref (ad 18), .ref (ad 19)]) := by rw [hen_1393]; exact va_up_self _ _ _
  have hI_1393 : RX cy cs ad en_1393 := by rw [hen_1393]; exact upr_M hI ⟨fa, hi, wd, mo, tb, dp, 0, grt, lst, nou, rm, rb, pr, wo, rfl, hwd2, hwd3, hmo, htb, hwo⟩
  have hf_1393 : ∀ c, (c ≠ 0 ∧ c ≠ 6 ∧ c ≠ 7 ∧ c ≠ 10 ∧ c ≠ 11) → en_1393 c = en c := fun c hc => Eq.trans (show en_1393 c = en c from by rw [hen_1393, va_up_ne _ _ (by omega)]) (hf0 c hc)
  have hkp_1393 : KP en en_1393 := KP_fv (KP_rf en) es1392 es1392_1393 hi (nI wd) (nI mo) (nI tb) pr (nI wo) rfl rfl rfl rfl rfl rfl rfl rfl rfl rfl rfl rfl
  refine lv_aload_n hx hb dX12_goThrough_5 rfl (lv_at hl 0 rfl) ?_
  refine lv_ldc2 hx hb hown (hts _ tw_1015) dX12_goThrough_6 ?_
  refine hp_put hx hb hts ix12 tyX12 tyX12_ok nmX12 hown hK hh (q := 0) rfl (hI.1 _ (by decide)) es1392_1393 rfl 16 (by decide) (hts _ tw_895) (fun _ h9 => h9) rfl (ty := .long) (by decide +kernel) rfl rfl (Nat.le_of_ble_eq_true rfl) dX12_goThrough_9 (fun H locs en_1394 hen_1394 hh => ?_)
  have es1392_1394 : en_1394 0 = .inr (11, [.int fa, .int hi, .int (nI wd), .int (nI mo), .int (nI tb), .ref (ad 1), .ref (ad 2), .ref (ad 3), .ref (ad 4), .ref (ad 5), .ref (ad 6), .ref (ad 7), .ref (ad 8), .ref (ad 9), .int dp, .long 0, .long (-9223372036854775808), .long lst, .long nou, .ref (ad 10), .ref (ad 11), .ref (ad 12), .int rm, .long rb, .ref (ad 13), .int pr, .ref (ad 14), .ref (ad 15), .ref (ad 16), .ref (ad 17), .int (nI wo), .ref (ad 18), .ref (ad 19)]) := by rw [hen_1394]; exact va_up_self _ _ _
  have hI_1394 : RX cy cs ad en_1394 := by rw [hen_1394]; exact upr_M hI_1393 ⟨fa, hi, wd, mo, tb, dp, 0, (-9223372036854775808), lst, nou, rm, rb, pr, wo, rfl, hwd2, hwd3, hmo, htb, hwo⟩
  have hf_1394 : ∀ c, (c ≠ 0 ∧ c ≠ 6 ∧ c ≠ 7 ∧ c ≠ 10 ∧ c ≠ 11) → en_1394 c = en c := fun c hc => Eq.trans (show en_1394 c = en_1393 c from by rw [hen_1394, va_up_ne _ _ (by omega)]) (hf_1393 c hc)
  have hkp_1394 : KP en en_1394 := KP_fv hkp_1393 es1392_1393 es1392_1394 hi (nI wd) (nI mo) (nI tb) pr (nI wo) rfl rfl rfl rfl rfl rfl rfl rfl rfl rfl rfl rfl
  refine lv_aload_n hx hb dX12_goThrough_12 rfl (lv_at hl 0 rfl) ?_
  refine lv_ldc2 hx hb hown (hts _ tw_1015) dX12_goThrough_13 ?_
  refine hp_put hx hb hts ix12 tyX12 tyX12_ok nmX12 hown hK hh (q := 0) rfl (hI.1 _ (by decide)) es1392_1394 rfl 17 (by decide) (hts _ tw_896) (fun _ h9 => h9) rfl (ty := .long) (by decide +kernel) rfl rfl (Nat.le_of_ble_eq_true rfl) dX12_goThrough_16 (fun H locs en_1395 hen_1395 hh => ?_)
  have es1392_1395 : en_1395 0 = .inr (11, [.int fa, .int hi, .int (nI wd), .int (nI mo), .int (nI tb), .ref (ad 1), .ref (ad 2), .ref (ad 3), .ref (ad 4), .ref (ad 5), .ref (ad 6), .ref (ad 7), .ref (ad 8), .ref (ad 9), .int dp, .long 0, .long (-9223372036854775808), .long (-9223372036854775808), .long nou, .ref (ad 10), .ref (ad 11), .ref (ad 12), .int rm, .long rb, .ref (ad 13), .int pr, .ref (ad 14), .ref (ad 15), .ref (ad 16), .ref (ad 17), .int (nI wo), .ref (ad 18), .ref (ad 19)]) := by rw [hen_1395]; exact va_up_self _ _ _
  have hI_1395 : RX cy cs ad en_1395 := by rw [hen_1395]; exact upr_M hI_1394 ⟨fa, hi, wd, mo, tb, dp, 0, (-9223372036854775808), (-9223372036854775808), nou, rm, rb, pr, wo, rfl, hwd2, hwd3, hmo, htb, hwo⟩
  have hf_1395 : ∀ c, (c ≠ 0 ∧ c ≠ 6 ∧ c ≠ 7 ∧ c ≠ 10 ∧ c ≠ 11) → en_1395 c = en c := fun c hc => Eq.trans (show en_1395 c = en_1394 c from by rw [hen_1395, va_up_ne _ _ (by omega)]) (hf_1394 c hc)
  have hkp_1395 : KP en en_1395 := KP_fv hkp_1394 es1392_1394 es1392_1395 hi (nI wd) (nI mo) (nI tb) pr (nI wo) rfl rfl rfl rfl rfl rfl rfl rfl rfl rfl rfl rfl
  refine lv_aload_n hx hb dX12_goThrough_19 rfl (lv_at hl 0 rfl) ?_
  refine lv_lconst (v := 0) hx hb dX12_goThrough_20 (by decide) ?_
  refine hp_put hx hb hts ix12 tyX12 tyX12_ok nmX12 hown hK hh (q := 0) rfl (hI.1 _ (by decide)) es1392_1395 rfl 18 (by decide) (hts _ tw_897) (fun _ h9 => h9) rfl (ty := .long) (by decide +kernel) rfl rfl (Nat.le_of_ble_eq_true rfl) dX12_goThrough_21 (fun H locs en_1396 hen_1396 hh => ?_)
  have es1392_1396 : en_1396 0 = .inr (11, [.int fa, .int hi, .int (nI wd), .int (nI mo), .int (nI tb), .ref (ad 1), .ref (ad 2), .ref (ad 3), .ref (ad 4), .ref (ad 5), .ref (ad 6), .ref (ad 7), .ref (ad 8), .ref (ad 9), .int dp, .long 0, .long (-9223372036854775808), .long (-9223372036854775808), .long 0, .ref (ad 10), .ref (ad 11), .ref (ad 12), .int rm, .long rb, .ref (ad 13), .int pr, .ref (ad 14), .ref (ad 15), .ref (ad 16), .ref (ad 17), .int (nI wo), .ref (ad 18), .ref (ad 19)]) := by rw [hen_1396]; exact va_up_self _ _ _
  have hI_1396 : RX cy cs ad en_1396 := by rw [hen_1396]; exact upr_M hI_1395 ⟨fa, hi, wd, mo, tb, dp, 0, (-9223372036854775808), (-9223372036854775808), 0, rm, rb, pr, wo, rfl, hwd2, hwd3, hmo, htb, hwo⟩
  have hf_1396 : ∀ c, (c ≠ 0 ∧ c ≠ 6 ∧ c ≠ 7 ∧ c ≠ 10 ∧ c ≠ 11) → en_1396 c = en c := fun c hc => Eq.trans (show en_1396 c = en_1395 c from by rw [hen_1396, va_up_ne _ _ (by omega)]) (hf_1395 c hc)
  have hkp_1396 : KP en en_1396 := KP_fv hkp_1395 es1392_1395 es1392_1396 hi (nI wd) (nI mo) (nI tb) pr (nI wo) rfl rfl rfl rfl rfl rfl rfl rfl rfl rfl rfl rfl
  refine lv_aload_n hx hb dX12_goThrough_24 rfl (lv_at hl 0 rfl) ?_
  refine hp_callMv (va_runV (As := []) (rest := []) ⟨hx, hb, hml, hown, hts⟩ (c_X12_beginWords l D cy _ cs ad en_1396 hI_1396  ) (kw_X12_beginWords hts tw_1038 ⟨by decide, by decide⟩) (preV_of hh hK (hI.1 _ (by decide)) es1392_1396 rfl) rfl rfl hl.1 rfl (lv_room (Nat.le_of_ble_eq_true rfl)) dX12_goThrough_25 ⟨Nat.le_of_ble_eq_true rfl, Nat.le_of_ble_eq_true rfl⟩) hh hA (fun H locs en_1397 hw_1397 hh => ?_)
  obtain ⟨hI_1397, hu_1397, hd0_1397, hg0_1397, hx_1397⟩ := hw_1397
  have hND_1397 : ND en_1397 n 0 0 := ⟨by omega, Or.inl hd0_1397, fun i h => absurd h (Nat.not_lt_zero i), by rw [hg0_1397]; decide, by omega⟩
  have hf_1397 : ∀ c, (c ≠ 0 ∧ c ≠ 6 ∧ c ≠ 7 ∧ c ≠ 10 ∧ c ≠ 11) → en_1397 c = en c := fun c hc => (hu_1397 c (by omega)).trans (hf_1396 c hc)
  have hkp_1397 : KP en en_1397 := KP_tr hkp_1396 hx_1397
  have loop_1398 : ∀ (fu mm1398 : Nat)  (d1398 : Nat) (u1398 : Nat) (en_1398 : Nat → va_E) (ls : Array Slot) (H : Heap) (locs : List Loc), mm1398 < fu → RX cy cs ad en_1398 → (∀ c, (c ≠ 0 ∧ c ≠ 6 ∧ c ≠ 7 ∧ c ≠ 10 ∧ c ≠ 11) → en_1398 c = en c) → (ND en_1398 n d1398 u1398) → (134217728 ≤ nmv (rdF (en_1398 7)) d1398 u1398 + mm1398) → (KP en en_1398) → lv_has ls 5 [(0, .ref (ad 0)), (1, .int (nI n))] → Hp D (Af cs ad sz) (Af cs ad sz) s.heap H locs cs ad en_1398 → W p l e (headSpec (Cond.code yX12_goThrough cX12_goThrough 5 none :: TB) (rmN 3)).room s m ([.ref (ad 0), .int (nI n)] : List Value).toArray below meth c H locs 0 0 (MQ below (va_Qv (S := Nat → va_E) (fun en1 => RX cy cs ad en1 ∧ (∀ c, (c ≠ 0 ∧ c ≠ 6 ∧ c ≠ 7 ∧ c ≠ 10 ∧ c ≠ 11) → en1 c = en c) ∧ KP en en1) (PostM D cs ad) (Af cs ad sz)) ([.ref (ad 0), .int (nI n)] : List Value).toArray s 0 0 (Af cs ad sz)) (F0 m 28 ls []) := by
    intro fu
    induction fu with
    | zero => intro mm1398 d1398 u1398 en_1398 ls H locs h2; exact absurd h2 (by omega)
    | succ fu ih_1398 =>
      intro mm1398 d1398 u1398 en_1398 ls H locs hmm_1398 hI_1398 hf_1398 i0_1398 i1_1398 i2_1398 hl hh
      have hlt_1398 := nmv_lt i0_1398.2.2 (by have h9 := i0_1398.1; omega)
      have hwd_1398 := i0_1398.1
      refine lv_aload_n hx hb dX12_goThrough_28 rfl (lv_at hl 0 rfl) ?_
      refine lv_iload_n hx hb dX12_goThrough_29 rfl (lv_at hl 1 rfl) ?_
      obtain ⟨fa_1399, hi_1399, wd_1399, mo_1399, tb_1399, dp_1399, many_1399, grt_1399, lst_1399, nou_1399, rm_1399, rb_1399, pr_1399, wo_1399, es1399, p0_1399, p1_1399, p2_1399, p3_1399, p4_1399⟩ := getr_M hI_1398
      have hq2_1400 : wd_1399 = wd := n_eq ((show nI wd_1399 = rdI (en_1398 0) 2 from by rw [es1399]; rfl).trans (i2_1398.2.1.trans (show rdI (en 0) 2 = nI wd from by rw [es1392]; rfl))) (by omega) (by omega)
      have hq3_1400 : mo_1399 = mo := n_eq ((show nI mo_1399 = rdI (en_1398 0) 3 from by rw [es1399]; rfl).trans (i2_1398.2.2.1.trans (show rdI (en 0) 3 = nI mo from by rw [es1392]; rfl))) (by omega) (by omega)
      have hq4_1400 : tb_1399 = tb := n_eq ((show nI tb_1399 = rdI (en_1398 0) 4 from by rw [es1399]; rfl).trans (i2_1398.2.2.2.1.trans (show rdI (en 0) 4 = nI tb from by rw [es1392]; rfl))) (by omega) (by omega)
      have hq30_1400 : wo_1399 = wo := n_eq ((show nI wo_1399 = rdI (en_1398 0) 30 from by rw [es1399]; rfl).trans (i2_1398.2.2.2.2.2.trans (show rdI (en 0) 30 = nI wo from by rw [es1392]; rfl))) (by omega) (by omega)
      rw [hq2_1400, hq3_1400, hq4_1400, hq30_1400] at es1399
      refine hp_callMi (va_runV (As := [.int (nI n)]) (rest := []) ⟨hx, hb, hml, hown, hts⟩ (c_X12_next l D cy _ cs ad en_1398 hI_1398 n (by omega) (by omega) d1398 u1398 i0_1398) (kw_X12_next hts tw_1046 ⟨by decide, by decide⟩) (preV_of hh hK (hI.1 _ (by decide)) es1399 rfl) rfl rfl hl.1 rfl (lv_room (Nat.le_of_ble_eq_true rfl)) dX12_goThrough_30 ⟨Nat.le_of_ble_eq_true rfl, Nat.le_of_ble_eq_true rfl⟩) hh hA (fun r_1401 H locs en_1401 hw_1401 hh => ?_)
      obtain ⟨hI_1401, hu_1401, hx_1401, hkq_1401⟩ := hw_1401
      have hf_1401 : ∀ c, (c ≠ 0 ∧ c ≠ 6 ∧ c ≠ 7 ∧ c ≠ 10 ∧ c ≠ 11) → en_1401 c = en c := fun c hc => (hu_1401 c (by omega)).trans (hf_1398 c hc)
      have hkp_1401 : KP en en_1401 := KP_tr i2_1398 hkq_1401
      rcases hx_1401 with hr_1401 | ⟨hr_1401, u1_1401, hND_1401, hu1_1401, hnm_1401⟩
      · rw [hr_1401]
        refine lv_if_eq (tgt := 179) hx hb dX12_goThrough_33 (by decide) (fun _ => ?_) (fun c_0 => absurd c_0 (by decide))
        exact hp_vretM hx hb hr hlocks hh (⟨hI_1401, hf_1401, hkp_1401⟩) dX12_goThrough_179
      · rw [hr_1401]
        have hall_1401 := NW_all hND_1401.2.2 (by omega) hu1_1401
        refine lv_if_eq (tgt := 179) hx hb dX12_goThrough_33 (by decide) (fun c_0 => absurd c_0 (by decide)) (fun _ => ?_)
        refine lv_aload_n hx hb dX12_goThrough_36 rfl (lv_at hl 0 rfl) ?_
        refine lv_iload_n hx hb dX12_goThrough_37 rfl (lv_at hl 1 rfl) ?_
        obtain ⟨fa_1402, hi_1402, wd_1402, mo_1402, tb_1402, dp_1402, many_1402, grt_1402, lst_1402, nou_1402, rm_1402, rb_1402, pr_1402, wo_1402, es1402, p0_1402, p1_1402, p2_1402, p3_1402, p4_1402⟩ := getr_M hI_1401
        have hq2_1403 : wd_1402 = wd := n_eq ((show nI wd_1402 = rdI (en_1401 0) 2 from by rw [es1402]; rfl).trans (hkp_1401.2.1.trans (show rdI (en 0) 2 = nI wd from by rw [es1392]; rfl))) (by omega) (by omega)
        have hq3_1403 : mo_1402 = mo := n_eq ((show nI mo_1402 = rdI (en_1401 0) 3 from by rw [es1402]; rfl).trans (hkp_1401.2.2.1.trans (show rdI (en 0) 3 = nI mo from by rw [es1392]; rfl))) (by omega) (by omega)
        have hq4_1403 : tb_1402 = tb := n_eq ((show nI tb_1402 = rdI (en_1401 0) 4 from by rw [es1402]; rfl).trans (hkp_1401.2.2.2.1.trans (show rdI (en 0) 4 = nI tb from by rw [es1392]; rfl))) (by omega) (by omega)
        have hq30_1403 : wo_1402 = wo := n_eq ((show nI wo_1402 = rdI (en_1401 0) 30 from by rw [es1402]; rfl).trans (hkp_1401.2.2.2.2.2.trans (show rdI (en 0) 30 = nI wo from by rw [es1392]; rfl))) (by omega) (by omega)
        rw [hq2_1403, hq3_1403, hq4_1403, hq30_1403] at es1402
        refine hp_callRl (va_runV (As := [.int (nI n)]) (rest := []) ⟨hx, hb, hml, hown, hts⟩ (c_X12_normAt l D cy _ cs ad en_1401 hI_1401 n (by omega)) (kw_X12_normAt hts tw_1058 ⟨by decide, by decide⟩) (preV_of hh hK (hI.1 _ (by decide)) es1402 rfl) rfl rfl hl.1 rfl (lv_room (Nat.le_of_ble_eq_true rfl)) dX12_goThrough_38 ⟨Nat.le_of_ble_eq_true rfl, Nat.le_of_ble_eq_true rfl⟩) hh hA (fun r_1404 H locs hw_1404 hh => ?_)
        refine lv_lstore_n (lv' := [(2, .long r_1404), (0, .ref (ad 0)), (1, .int (nI n))]) hx hb dX12_goThrough_41 rfl hl (by decide) rfl (fun ls hl => ?_)
        have join_1405 : ∀  (en_1405 : Nat → va_E) (ls : Array Slot) (H : Heap) (locs : List Loc), RX cy cs ad en_1405 → (∀ c, (c ≠ 0 ∧ c ≠ 6 ∧ c ≠ 7 ∧ c ≠ 10 ∧ c ≠ 11) → en_1405 c = en c) → KP en en_1405 → SD en_1401 en_1405 → lv_has ls 5 [(2, .long r_1404), (0, .ref (ad 0)), (1, .int (nI n))] → Hp D (Af cs ad sz) (Af cs ad sz) s.heap H locs cs ad en_1405 → W p l e (headSpec (Cond.code yX12_goThrough cX12_goThrough 5 none :: TB) (rmN 3)).room s m ([.ref (ad 0), .int (nI n)] : List Value).toArray below meth c H locs 0 0 (MQ below (va_Qv (S := Nat → va_E) (fun en1 => RX cy cs ad en1 ∧ (∀ c, (c ≠ 0 ∧ c ≠ 6 ∧ c ≠ 7 ∧ c ≠ 10 ∧ c ≠ 11) → en1 c = en c) ∧ KP en en1) (PostM D cs ad) (Af cs ad sz)) ([.ref (ad 0), .int (nI n)] : List Value).toArray s 0 0 (Af cs ad sz)) (F0 m 94 ls []) := by
          intro  en_1405 ls H locs hI_1405 hf_1405 hkp_1405 hsd_1405  hl hh
          have join_1406 : ∀  (en_1406 : Nat → va_E) (ls : Array Slot) (H : Heap) (locs : List Loc), RX cy cs ad en_1406 → (∀ c, (c ≠ 0 ∧ c ≠ 6 ∧ c ≠ 7 ∧ c ≠ 10 ∧ c ≠ 11) → en_1406 c = en c) → KP en en_1406 → SD en_1401 en_1406 → lv_has ls 5 [(2, .long r_1404), (0, .ref (ad 0)), (1, .int (nI n))] → Hp D (Af cs ad sz) (Af cs ad sz) s.heap H locs cs ad en_1406 → W p l e (headSpec (Cond.code yX12_goThrough cX12_goThrough 5 none :: TB) (rmN 3)).room s m ([.ref (ad 0), .int (nI n)] : List Value).toArray below meth c H locs 0 0 (MQ below (va_Qv (S := Nat → va_E) (fun en1 => RX cy cs ad en1 ∧ (∀ c, (c ≠ 0 ∧ c ≠ 6 ∧ c ≠ 7 ∧ c ≠ 10 ∧ c ≠ 11) → en1 c = en c) ∧ KP en en1) (PostM D cs ad) (Af cs ad sz)) ([.ref (ad 0), .int (nI n)] : List Value).toArray s 0 0 (Af cs ad sz)) (F0 m 146 ls []) := by
            intro  en_1406 ls H locs hI_1406 hf_1406 hkp_1406 hsd_1406  hl hh
            refine lv_aload_n hx hb dX12_goThrough_146 rfl (lv_at hl 1 rfl) ?_
            refine lv_dup hx hb dX12_goThrough_147 rfl ?_
            obtain ⟨fa_1407, hi_1407, wd_1407, mo_1407, tb_1407, dp_1407, many_1407, grt_1407, lst_1407, nou_1407, rm_1407, rb_1407, pr_1407, wo_1407, es1407, p0_1407, p1_1407, p2_1407, p3_1407, p4_1407⟩ := getr_M hI_1406
            have hq2_1408 : wd_1407 = wd := n_eq ((show nI wd_1407 = rdI (en_1406 0) 2 from by rw [es1407]; rfl).trans (hkp_1406.2.1.trans (show rdI (en 0) 2 = nI wd from by rw [es1392]; rfl))) (by omega) (by omega)
            have hq3_1408 : mo_1407 = mo := n_eq ((show nI mo_1407 = rdI (en_1406 0) 3 from by rw [es1407]; rfl).trans (hkp_1406.2.2.1.trans (show rdI (en 0) 3 = nI mo from by rw [es1392]; rfl))) (by omega) (by omega)
            have hq4_1408 : tb_1407 = tb := n_eq ((show nI tb_1407 = rdI (en_1406 0) 4 from by rw [es1407]; rfl).trans (hkp_1406.2.2.2.1.trans (show rdI (en 0) 4 = nI tb from by rw [es1392]; rfl))) (by omega) (by omega)
            have hq30_1408 : wo_1407 = wo := n_eq ((show nI wo_1407 = rdI (en_1406 0) 30 from by rw [es1407]; rfl).trans (hkp_1406.2.2.2.2.2.trans (show rdI (en 0) 30 = nI wo from by rw [es1392]; rfl))) (by omega) (by omega)
            rw [hq2_1408, hq3_1408, hq4_1408, hq30_1408] at es1407
            refine hp_get hx hb hts ix12 hown hK hh (q := 0) rfl (hI.1 _ (by decide)) es1407 rfl 18 (by decide) (hts _ tw_897) (fun _ h9 => h9) rfl dX12_goThrough_148 ?_
            refine lv_lload_n hx hb dX12_goThrough_151 rfl (lv_at hl 0 rfl) ?_
            refine lv_lconst (v := 0) hx hb dX12_goThrough_152 (by decide) ?_
            refine W.lcmp hx hb dX12_goThrough_153 ?_
            refine lv_if_ne (tgt := 161) hx hb dX12_goThrough_154 (by decide) (fun c_1409 => ?_) (fun c_1409 => ?_)
            · refine lv_lconst (v := 0) hx hb dX12_goThrough_161 (by decide) ?_
              refine lv_ladd hx hb dX12_goThrough_162 ?_
              refine hp_put hx hb hts ix12 tyX12 tyX12_ok nmX12 hown hK hh (q := 0) rfl (hI.1 _ (by decide)) es1407 rfl 18 (by decide) (hts _ tw_897) (fun _ h9 => h9) rfl (ty := .long) (by decide +kernel) rfl rfl (Nat.le_of_ble_eq_true rfl) dX12_goThrough_163 (fun H locs en_1410 hen_1410 hh => ?_)
              have es1407_1410 : en_1410 0 = .inr (11, [.int fa_1407, .int hi_1407, .int (nI wd), .int (nI mo), .int (nI tb), .ref (ad 1), .ref (ad 2), .ref (ad 3), .ref (ad 4), .ref (ad 5), .ref (ad 6), .ref (ad 7), .ref (ad 8), .ref (ad 9), .int dp_1407, .long many_1407, .long grt_1407, .long lst_1407, .long (nou_1407 + 0), .ref (ad 10), .ref (ad 11), .ref (ad 12), .int rm_1407, .long rb_1407, .ref (ad 13), .int pr_1407, .ref (ad 14), .ref (ad 15), .ref (ad 16), .ref (ad 17), .int (nI wo), .ref (ad 18), .ref (ad 19)]) := by rw [hen_1410]; exact va_up_self _ _ _
              have hI_1410 : RX cy cs ad en_1410 := by rw [hen_1410]; exact upr_M hI_1406 ⟨fa_1407, hi_1407, wd, mo, tb, dp_1407, many_1407, grt_1407, lst_1407, (nou_1407 + 0), rm_1407, rb_1407, pr_1407, wo, rfl, hwd2, hwd3, hmo, htb, hwo⟩
              have hf_1410 : ∀ c, (c ≠ 0 ∧ c ≠ 6 ∧ c ≠ 7 ∧ c ≠ 10 ∧ c ≠ 11) → en_1410 c = en c := fun c hc => Eq.trans (show en_1410 c = en_1406 c from by rw [hen_1410, va_up_ne _ _ (by omega)]) (hf_1406 c hc)
              have hkp_1410 : KP en en_1410 := KP_fv hkp_1406 es1407 es1407_1410 hi_1407 (nI wd) (nI mo) (nI tb) pr_1407 (nI wo) rfl rfl rfl rfl rfl rfl rfl rfl rfl rfl rfl rfl
              have hsd_1410 : SD en_1401 en_1410 := SD_fv hsd_1406 es1407 es1407_1410 (show en_1410 7 = en_1406 7 from by rw [hen_1410, va_up_ne _ _ (by decide)]) dp_1407 rfl rfl
              refine lv_aload_n hx hb dX12_goThrough_166 rfl (lv_at hl 1 rfl) ?_
              refine lv_dup hx hb dX12_goThrough_167 rfl ?_
              refine hp_get hx hb hts ix12 hown hK hh (q := 0) rfl (hI.1 _ (by decide)) es1407_1410 rfl 15 (by decide) (hts _ tw_894) (fun _ h9 => h9) rfl dX12_goThrough_168 ?_
              refine lv_lconst (v := 1) hx hb dX12_goThrough_171 (by decide) ?_
              refine lv_ladd hx hb dX12_goThrough_172 ?_
              refine hp_put hx hb hts ix12 tyX12 tyX12_ok nmX12 hown hK hh (q := 0) rfl (hI.1 _ (by decide)) es1407_1410 rfl 15 (by decide) (hts _ tw_894) (fun _ h9 => h9) rfl (ty := .long) (by decide +kernel) rfl rfl (Nat.le_of_ble_eq_true rfl) dX12_goThrough_173 (fun H locs en_1411 hen_1411 hh => ?_)
              have es1407_1411 : en_1411 0 = .inr (11, [.int fa_1407, .int hi_1407, .int (nI wd), .int (nI mo), .int (nI tb), .ref (ad 1), .ref (ad 2), .ref (ad 3), .ref (ad 4), .ref (ad 5), .ref (ad 6), .ref (ad 7), .ref (ad 8), .ref (ad 9), .int dp_1407, .long (many_1407 + 1), .long grt_1407, .long lst_1407, .long (nou_1407 + 0), .ref (ad 10), .ref (ad 11), .ref (ad 12), .int rm_1407, .long rb_1407, .ref (ad 13), .int pr_1407, .ref (ad 14), .ref (ad 15), .ref (ad 16), .ref (ad 17), .int (nI wo), .ref (ad 18), .ref (ad 19)]) := by rw [hen_1411]; exact va_up_self _ _ _
              have hI_1411 : RX cy cs ad en_1411 := by rw [hen_1411]; exact upr_M hI_1410 ⟨fa_1407, hi_1407, wd, mo, tb, dp_1407, (many_1407 + 1), grt_1407, lst_1407, (nou_1407 + 0), rm_1407, rb_1407, pr_1407, wo, rfl, hwd2, hwd3, hmo, htb, hwo⟩
              have hf_1411 : ∀ c, (c ≠ 0 ∧ c ≠ 6 ∧ c ≠ 7 ∧ c ≠ 10 ∧ c ≠ 11) → en_1411 c = en c := fun c hc => Eq.trans (show en_1411 c = en_1410 c from by rw [hen_1411, va_up_ne _ _ (by omega)]) (hf_1410 c hc)
              have hkp_1411 : KP en en_1411 := KP_fv hkp_1410 es1407_1410 es1407_1411 hi_1407 (nI wd) (nI mo) (nI tb) pr_1407 (nI wo) rfl rfl rfl rfl rfl rfl rfl rfl rfl rfl rfl rfl
              have hsd_1411 : SD en_1401 en_1411 := SD_fv hsd_1410 es1407_1410 es1407_1411 (show en_1411 7 = en_1410 7 from by rw [hen_1411, va_up_ne _ _ (by decide)]) dp_1407 rfl rfl
              refine lv_goto (tgt := 28) hx hb dX12_goThrough_176 (by decide) ?_
              exact ih_1398 (mm1398 - 1) (n - 1) u1_1401 en_1411 ls H locs (by omega) hI_1411 hf_1411 (ND_sd hND_1401 hsd_1411) (by rw [hsd_1411.2]; have h1 := hnm_1401; have h2 := i1_1398; omega) (hkp_1411) (lv_sub hl [1, 2] rfl) hh
            · refine lv_lconst (v := 1) hx hb dX12_goThrough_157 (by decide) ?_
              refine lv_goto (tgt := 162) hx hb dX12_goThrough_158 (by decide) ?_
              refine lv_ladd hx hb dX12_goThrough_162 ?_
              refine hp_put hx hb hts ix12 tyX12 tyX12_ok nmX12 hown hK hh (q := 0) rfl (hI.1 _ (by decide)) es1407 rfl 18 (by decide) (hts _ tw_897) (fun _ h9 => h9) rfl (ty := .long) (by decide +kernel) rfl rfl (Nat.le_of_ble_eq_true rfl) dX12_goThrough_163 (fun H locs en_1412 hen_1412 hh => ?_)
              have es1407_1412 : en_1412 0 = .inr (11, [.int fa_1407, .int hi_1407, .int (nI wd), .int (nI mo), .int (nI tb), .ref (ad 1), .ref (ad 2), .ref (ad 3), .ref (ad 4), .ref (ad 5), .ref (ad 6), .ref (ad 7), .ref (ad 8), .ref (ad 9), .int dp_1407, .long many_1407, .long grt_1407, .long lst_1407, .long (nou_1407 + 1), .ref (ad 10), .ref (ad 11), .ref (ad 12), .int rm_1407, .long rb_1407, .ref (ad 13), .int pr_1407, .ref (ad 14), .ref (ad 15), .ref (ad 16), .ref (ad 17), .int (nI wo), .ref (ad 18), .ref (ad 19)]) := by rw [hen_1412]; exact va_up_self _ _ _
              have hI_1412 : RX cy cs ad en_1412 := by rw [hen_1412]; exact upr_M hI_1406 ⟨fa_1407, hi_1407, wd, mo, tb, dp_1407, many_1407, grt_1407, lst_1407, (nou_1407 + 1), rm_1407, rb_1407, pr_1407, wo, rfl, hwd2, hwd3, hmo, htb, hwo⟩
              have hf_1412 : ∀ c, (c ≠ 0 ∧ c ≠ 6 ∧ c ≠ 7 ∧ c ≠ 10 ∧ c ≠ 11) → en_1412 c = en c := fun c hc => Eq.trans (show en_1412 c = en_1406 c from by rw [hen_1412, va_up_ne _ _ (by omega)]) (hf_1406 c hc)
              have hkp_1412 : KP en en_1412 := KP_fv hkp_1406 es1407 es1407_1412 hi_1407 (nI wd) (nI mo) (nI tb) pr_1407 (nI wo) rfl rfl rfl rfl rfl rfl rfl rfl rfl rfl rfl rfl
              have hsd_1412 : SD en_1401 en_1412 := SD_fv hsd_1406 es1407 es1407_1412 (show en_1412 7 = en_1406 7 from by rw [hen_1412, va_up_ne _ _ (by decide)]) dp_1407 rfl rfl
              refine lv_aload_n hx hb dX12_goThrough_166 rfl (lv_at hl 1 rfl) ?_
              refine lv_dup hx hb dX12_goThrough_167 rfl ?_
              refine hp_get hx hb hts ix12 hown hK hh (q := 0) rfl (hI.1 _ (by decide)) es1407_1412 rfl 15 (by decide) (hts _ tw_894) (fun _ h9 => h9) rfl dX12_goThrough_168 ?_
              refine lv_lconst (v := 1) hx hb dX12_goThrough_171 (by decide) ?_
              refine lv_ladd hx hb dX12_goThrough_172 ?_
              refine hp_put hx hb hts ix12 tyX12 tyX12_ok nmX12 hown hK hh (q := 0) rfl (hI.1 _ (by decide)) es1407_1412 rfl 15 (by decide) (hts _ tw_894) (fun _ h9 => h9) rfl (ty := .long) (by decide +kernel) rfl rfl (Nat.le_of_ble_eq_true rfl) dX12_goThrough_173 (fun H locs en_1413 hen_1413 hh => ?_)
              have es1407_1413 : en_1413 0 = .inr (11, [.int fa_1407, .int hi_1407, .int (nI wd), .int (nI mo), .int (nI tb), .ref (ad 1), .ref (ad 2), .ref (ad 3), .ref (ad 4), .ref (ad 5), .ref (ad 6), .ref (ad 7), .ref (ad 8), .ref (ad 9), .int dp_1407, .long (many_1407 + 1), .long grt_1407, .long lst_1407, .long (nou_1407 + 1), .ref (ad 10), .ref (ad 11), .ref (ad 12), .int rm_1407, .long rb_1407, .ref (ad 13), .int pr_1407, .ref (ad 14), .ref (ad 15), .ref (ad 16), .ref (ad 17), .int (nI wo), .ref (ad 18), .ref (ad 19)]) := by rw [hen_1413]; exact va_up_self _ _ _
              have hI_1413 : RX cy cs ad en_1413 := by rw [hen_1413]; exact upr_M hI_1412 ⟨fa_1407, hi_1407, wd, mo, tb, dp_1407, (many_1407 + 1), grt_1407, lst_1407, (nou_1407 + 1), rm_1407, rb_1407, pr_1407, wo, rfl, hwd2, hwd3, hmo, htb, hwo⟩
              have hf_1413 : ∀ c, (c ≠ 0 ∧ c ≠ 6 ∧ c ≠ 7 ∧ c ≠ 10 ∧ c ≠ 11) → en_1413 c = en c := fun c hc => Eq.trans (show en_1413 c = en_1412 c from by rw [hen_1413, va_up_ne _ _ (by omega)]) (hf_1412 c hc)
              have hkp_1413 : KP en en_1413 := KP_fv hkp_1412 es1407_1412 es1407_1413 hi_1407 (nI wd) (nI mo) (nI tb) pr_1407 (nI wo) rfl rfl rfl rfl rfl rfl rfl rfl rfl rfl rfl rfl
              have hsd_1413 : SD en_1401 en_1413 := SD_fv hsd_1412 es1407_1412 es1407_1413 (show en_1413 7 = en_1412 7 from by rw [hen_1413, va_up_ne _ _ (by decide)]) dp_1407 rfl rfl
              refine lv_goto (tgt := 28) hx hb dX12_goThrough_176 (by decide) ?_
              exact ih_1398 (mm1398 - 1) (n - 1) u1_1401 en_1413 ls H locs (by omega) hI_1413 hf_1413 (ND_sd hND_1401 hsd_1413) (by rw [hsd_1413.2]; have h1 := hnm_1401; have h2 := i1_1398; omega) (hkp_1413) (lv_sub hl [1, 2] rfl) hh
          refine lv_aload_n hx hb dX12_goThrough_94 rfl (lv_at hl 1 rfl) ?_
          obtain ⟨fa_1414, hi_1414, wd_1414, mo_1414, tb_1414, dp_1414, many_1414, grt_1414, lst_1414, nou_1414, rm_1414, rb_1414, pr_1414, wo_1414, es1414, p0_1414, p1_1414, p2_1414, p3_1414, p4_1414⟩ := getr_M hI_1405
          have hq2_1415 : wd_1414 = wd := n_eq ((show nI wd_1414 = rdI (en_1405 0) 2 from by rw [es1414]; rfl).trans (hkp_1405.2.1.trans (show rdI (en 0) 2 = nI wd from by rw [es1392]; rfl))) (by omega) (by omega)
          have hq3_1415 : mo_1414 = mo := n_eq ((show nI mo_1414 = rdI (en_1405 0) 3 from by rw [es1414]; rfl).trans (hkp_1405.2.2.1.trans (show rdI (en 0) 3 = nI mo from by rw [es1392]; rfl))) (by omega) (by omega)
          have hq4_1415 : tb_1414 = tb := n_eq ((show nI tb_1414 = rdI (en_1405 0) 4 from by rw [es1414]; rfl).trans (hkp_1405.2.2.2.1.trans (show rdI (en 0) 4 = nI tb from by rw [es1392]; rfl))) (by omega) (by omega)
          have hq30_1415 : wo_1414 = wo := n_eq ((show nI wo_1414 = rdI (en_1405 0) 30 from by rw [es1414]; rfl).trans (hkp_1405.2.2.2.2.2.trans (show rdI (en 0) 30 = nI wo from by rw [es1392]; rfl))) (by omega) (by omega)
          rw [hq2_1415, hq3_1415, hq4_1415, hq30_1415] at es1414
          refine hp_get hx hb hts ix12 hown hK hh (q := 0) rfl (hI.1 _ (by decide)) es1414 rfl 15 (by decide) (hts _ tw_894) (fun _ h9 => h9) rfl dX12_goThrough_95 ?_
          refine lv_lconst (v := 0) hx hb dX12_goThrough_98 (by decide) ?_
          refine W.lcmp hx hb dX12_goThrough_99 ?_
          refine lv_if_eq (tgt := 112) hx hb dX12_goThrough_100 (by decide) (fun c_1416 => ?_) (fun c_1416 => ?_)
          · refine lv_aload_n hx hb dX12_goThrough_112 rfl (lv_at hl 1 rfl) ?_
            refine lv_lload_n hx hb dX12_goThrough_113 rfl (lv_at hl 0 rfl) ?_
            refine hp_put hx hb hts ix12 tyX12 tyX12_ok nmX12 hown hK hh (q := 0) rfl (hI.1 _ (by decide)) es1414 rfl 17 (by decide) (hts _ tw_896) (fun _ h9 => h9) rfl (ty := .long) (by decide +kernel) rfl rfl (Nat.le_of_ble_eq_true rfl) dX12_goThrough_114 (fun H locs en_1417 hen_1417 hh => ?_)
            have es1414_1417 : en_1417 0 = .inr (11, [.int fa_1414, .int hi_1414, .int (nI wd), .int (nI mo), .int (nI tb), .ref (ad 1), .ref (ad 2), .ref (ad 3), .ref (ad 4), .ref (ad 5), .ref (ad 6), .ref (ad 7), .ref (ad 8), .ref (ad 9), .int dp_1414, .long many_1414, .long grt_1414, .long r_1404, .long nou_1414, .ref (ad 10), .ref (ad 11), .ref (ad 12), .int rm_1414, .long rb_1414, .ref (ad 13), .int pr_1414, .ref (ad 14), .ref (ad 15), .ref (ad 16), .ref (ad 17), .int (nI wo), .ref (ad 18), .ref (ad 19)]) := by rw [hen_1417]; exact va_up_self _ _ _
            have hI_1417 : RX cy cs ad en_1417 := by rw [hen_1417]; exact upr_M hI_1405 ⟨fa_1414, hi_1414, wd, mo, tb, dp_1414, many_1414, grt_1414, r_1404, nou_1414, rm_1414, rb_1414, pr_1414, wo, rfl, hwd2, hwd3, hmo, htb, hwo⟩
            have hf_1417 : ∀ c, (c ≠ 0 ∧ c ≠ 6 ∧ c ≠ 7 ∧ c ≠ 10 ∧ c ≠ 11) → en_1417 c = en c := fun c hc => Eq.trans (show en_1417 c = en_1405 c from by rw [hen_1417, va_up_ne _ _ (by omega)]) (hf_1405 c hc)
            have hkp_1417 : KP en en_1417 := KP_fv hkp_1405 es1414 es1414_1417 hi_1414 (nI wd) (nI mo) (nI tb) pr_1414 (nI wo) rfl rfl rfl rfl rfl rfl rfl rfl rfl rfl rfl rfl
            have hsd_1417 : SD en_1401 en_1417 := SD_fv hsd_1405 es1414 es1414_1417 (show en_1417 7 = en_1405 7 from by rw [hen_1417, va_up_ne _ _ (by decide)]) dp_1414 rfl rfl
            refine lv_iconst (v := 0) hx hb dX12_goThrough_117 (by decide) ?_
            refine lv_istore (lv' := [(4, .int 0), (2, .long r_1404), (0, .ref (ad 0)), (1, .int (nI n))]) hx hb dX12_goThrough_118 hl (by decide) rfl (fun ls hl => ?_)
            have loop_1418 : ∀ (fu j1418 : Nat)  (en_1418 : Nat → va_E) (ls : Array Slot) (H : Heap) (locs : List Loc), 0 ≤ j1418 → j1418 ≤ n → n < j1418 + fu → RX cy cs ad en_1418 → (∀ c, (c ≠ 0 ∧ c ≠ 6 ∧ c ≠ 7 ∧ c ≠ 10 ∧ c ≠ 11) → en_1418 c = en c) → (KP en en_1418) → (SD en_1401 en_1418) → lv_has ls 5 [(4, .int (nI j1418)), (2, .long r_1404), (0, .ref (ad 0)), (1, .int (nI n))] → Hp D (Af cs ad sz) (Af cs ad sz) s.heap H locs cs ad en_1418 → W p l e (headSpec (Cond.code yX12_goThrough cX12_goThrough 5 none :: TB) (rmN 3)).room s m ([.ref (ad 0), .int (nI n)] : List Value).toArray below meth c H locs 0 0 (MQ below (va_Qv (S := Nat → va_E) (fun en1 => RX cy cs ad en1 ∧ (∀ c, (c ≠ 0 ∧ c ≠ 6 ∧ c ≠ 7 ∧ c ≠ 10 ∧ c ≠ 11) → en1 c = en c) ∧ KP en en1) (PostM D cs ad) (Af cs ad sz)) ([.ref (ad 0), .int (nI n)] : List Value).toArray s 0 0 (Af cs ad sz)) (F0 m 120 ls []) := by
              intro fu
              induction fu with
              | zero => intro j1418  en_1418 ls H locs h0 h1 h2; exact absurd h2 (by omega)
              | succ fu ih_1418 =>
                intro j1418  en_1418 ls H locs hj0_1418 hj_1418 hfu_1418 hI_1418 hf_1418 i0_1418 i1_1418 hl hh
                refine lv_iload hx hb dX12_goThrough_120 (lv_at hl 0 rfl) ?_
                refine lv_iload_n hx hb dX12_goThrough_122 rfl (lv_at hl 3 rfl) ?_
                refine lv_icmp_ge (tgt := 146) hx hb dX12_goThrough_123 (by decide) (fun c_1419 => ?_) (fun c_1419 => ?_)
                · have n_1419 : n ≤ j1418 := n_le (a := n) (b := j1418) c_1419 (by omega) (by omega)
                  exact join_1406  en_1418 ls _ _ hI_1418 hf_1418 i0_1418 i1_1418 (lv_sub hl [1, 2, 3] rfl) hh
                · have n_1419 : j1418 < n := n_nle (a := n) (b := j1418) c_1419 (by omega) (by omega)
                  refine lv_aload_n hx hb dX12_goThrough_126 rfl (lv_at hl 2 rfl) ?_
                  obtain ⟨fa_1420, hi_1420, wd_1420, mo_1420, tb_1420, dp_1420, many_1420, grt_1420, lst_1420, nou_1420, rm_1420, rb_1420, pr_1420, wo_1420, es1420, p0_1420, p1_1420, p2_1420, p3_1420, p4_1420⟩ := getr_M hI_1418
                  have hq2_1421 : wd_1420 = wd := n_eq ((show nI wd_1420 = rdI (en_1418 0) 2 from by rw [es1420]; rfl).trans (i0_1418.2.1.trans (show rdI (en 0) 2 = nI wd from by rw [es1392]; rfl))) (by omega) (by omega)
                  have hq3_1421 : mo_1420 = mo := n_eq ((show nI mo_1420 = rdI (en_1418 0) 3 from by rw [es1420]; rfl).trans (i0_1418.2.2.1.trans (show rdI (en 0) 3 = nI mo from by rw [es1392]; rfl))) (by omega) (by omega)
                  have hq4_1421 : tb_1420 = tb := n_eq ((show nI tb_1420 = rdI (en_1418 0) 4 from by rw [es1420]; rfl).trans (i0_1418.2.2.2.1.trans (show rdI (en 0) 4 = nI tb from by rw [es1392]; rfl))) (by omega) (by omega)
                  have hq30_1421 : wo_1420 = wo := n_eq ((show nI wo_1420 = rdI (en_1418 0) 30 from by rw [es1420]; rfl).trans (i0_1418.2.2.2.2.2.trans (show rdI (en 0) 30 = nI wo from by rw [es1392]; rfl))) (by omega) (by omega)
                  rw [hq2_1421, hq3_1421, hq4_1421, hq30_1421] at es1420
                  refine hp_get hx hb hts ix12 hown hK hh (q := 0) rfl (hI.1 _ (by decide)) es1420 rfl 20 (by decide) (hts _ tw_899) (fun _ h9 => h9) rfl dX12_goThrough_127 ?_
                  refine lv_iload hx hb dX12_goThrough_130 (lv_at hl 0 rfl) ?_
                  refine lv_aload_n hx hb dX12_goThrough_132 rfl (lv_at hl 2 rfl) ?_
                  refine hp_get hx hb hts ix12 hown hK hh (q := 0) rfl (hI.1 _ (by decide)) es1420 rfl 11 (by decide) (hts _ tw_890) (fun _ h9 => h9) rfl dX12_goThrough_133 ?_
                  refine lv_iload hx hb dX12_goThrough_136 (lv_at hl 0 rfl) ?_
                  obtain ⟨f_1422, es1422⟩ := getr_nw hI_1418
                  refine hp_iald hx hb hK hh (q := 7) rfl (hI.1 _ (by decide)) es1422 (vp_in_nI (n := j1418) (by omega) (by decide)) dX12_goThrough_138 ?_
                  rw [nI_clamp (n := j1418) (by omega)]
                  obtain ⟨v_1423, hv_1423, hve_1423⟩ := hall_1401 j1418 (by omega)
                  rw [show f_1422 j1418 = nI v_1423 from (show f_1422 j1418 = rdF (en_1401 7) j1418 from by rw [← i1_1418.2, es1422]; rfl).trans hve_1423]
                  obtain ⟨f_1424, es1424⟩ := getr_sm hI_1418
                  refine hp_iast hx hb hK hh (q := 11) rfl (hI.1 _ (by decide)) es1424 (vp_in_nI (n := j1418) (by omega) (by decide)) dX12_goThrough_139 (fun H locs en_1425 hen_1425 hh => ?_)
                  rw [nI_clamp (n := j1418) (by omega)] at hen_1425
                  have es1420_1425 : en_1425 0 = .inr (11, [.int fa_1420, .int hi_1420, .int (nI wd), .int (nI mo), .int (nI tb), .ref (ad 1), .ref (ad 2), .ref (ad 3), .ref (ad 4), .ref (ad 5), .ref (ad 6), .ref (ad 7), .ref (ad 8), .ref (ad 9), .int dp_1420, .long many_1420, .long grt_1420, .long lst_1420, .long nou_1420, .ref (ad 10), .ref (ad 11), .ref (ad 12), .int rm_1420, .long rb_1420, .ref (ad 13), .int pr_1420, .ref (ad 14), .ref (ad 15), .ref (ad 16), .ref (ad 17), .int (nI wo), .ref (ad 18), .ref (ad 19)]) := by rw [hen_1425, va_up_ne _ _ (by decide)]; exact es1420
                  have es1422_1425 : en_1425 7 = .inl (cy 0, 13, .inl f_1422) := by rw [hen_1425, va_up_ne _ _ (by decide)]; exact es1422
                  have es1424_1425 : en_1425 11 = .inl (cy 0, 12, .inl (upd f_1424 j1418 (nI v_1423))) := by rw [hen_1425]; exact va_up_self _ _ _
                  have hI_1425 : RX cy cs ad en_1425 := by rw [hen_1425]; exact upr_sm hI_1418 ⟨(upd f_1424 j1418 (nI v_1423)), rfl⟩
                  have hf_1425 : ∀ c, (c ≠ 0 ∧ c ≠ 6 ∧ c ≠ 7 ∧ c ≠ 10 ∧ c ≠ 11) → en_1425 c = en c := fun c hc => Eq.trans (show en_1425 c = en_1418 c from by rw [hen_1425, va_up_ne _ _ (by omega)]) (hf_1418 c hc)
                  have hkp_1425 : KP en en_1425 := KP_same i0_1418 (show en_1425 0 = en_1418 0 from by rw [hen_1425, va_up_ne _ _ (by decide)])
                  have hsd_1425 : SD en_1401 en_1425 := SD_same i1_1418 (show en_1425 0 = en_1418 0 from by rw [hen_1425, va_up_ne _ _ (by decide)]) (show en_1425 7 = en_1418 7 from by rw [hen_1425, va_up_ne _ _ (by decide)])
                  refine lv_iinc (v := (nI (j1418 + 1))) (lv' := [(4, .int (nI (j1418 + 1))), (2, .long r_1404), (0, .ref (ad 0)), (1, .int (nI n))]) hx hb dX12_goThrough_140 hl (k := 0) rfl (nI_1 _) (by decide) rfl (fun ls hl => ?_)
                  refine lv_goto (tgt := 120) hx hb dX12_goThrough_143 (by decide) ?_
                  exact ih_1418 ((j1418 + 1))  en_1425 ls H locs (by omega) (by omega) (by omega) hI_1425 hf_1425 (hkp_1425) (hsd_1425) (lv_sub hl [0, 1, 2, 3] rfl) hh
            exact loop_1418 (n + 1) 0  en_1417 ls _ _ (Nat.le_refl _) (by omega) (by omega) hI_1417 hf_1417 (hkp_1417) (hsd_1417) (lv_sub hl [0, 1, 2, 3] rfl) hh
          · refine lv_lload_n hx hb dX12_goThrough_103 rfl (lv_at hl 0 rfl) ?_
            refine lv_aload_n hx hb dX12_goThrough_104 rfl (lv_at hl 1 rfl) ?_
            refine hp_get hx hb hts ix12 hown hK hh (q := 0) rfl (hI.1 _ (by decide)) es1414 rfl 17 (by decide) (hts _ tw_896) (fun _ h9 => h9) rfl dX12_goThrough_105 ?_
            refine W.lcmp hx hb dX12_goThrough_108 ?_
            refine lv_if_ge (tgt := 146) hx hb dX12_goThrough_109 (by decide) (fun c_1426 => ?_) (fun c_1426 => ?_)
            · exact join_1406  en_1405 ls _ _ hI_1405 hf_1405 hkp_1405 hsd_1405 (lv_sub hl [0, 1, 2] rfl) hh
            · refine lv_aload_n hx hb dX12_goThrough_112 rfl (lv_at hl 1 rfl) ?_
              refine lv_lload_n hx hb dX12_goThrough_113 rfl (lv_at hl 0 rfl) ?_
              refine hp_put hx hb hts ix12 tyX12 tyX12_ok nmX12 hown hK hh (q := 0) rfl (hI.1 _ (by decide)) es1414 rfl 17 (by decide) (hts _ tw_896) (fun _ h9 => h9) rfl (ty := .long) (by decide +kernel) rfl rfl (Nat.le_of_ble_eq_true rfl) dX12_goThrough_114 (fun H locs en_1427 hen_1427 hh => ?_)
              have es1414_1427 : en_1427 0 = .inr (11, [.int fa_1414, .int hi_1414, .int (nI wd), .int (nI mo), .int (nI tb), .ref (ad 1), .ref (ad 2), .ref (ad 3), .ref (ad 4), .ref (ad 5), .ref (ad 6), .ref (ad 7), .ref (ad 8), .ref (ad 9), .int dp_1414, .long many_1414, .long grt_1414, .long r_1404, .long nou_1414, .ref (ad 10), .ref (ad 11), .ref (ad 12), .int rm_1414, .long rb_1414, .ref (ad 13), .int pr_1414, .ref (ad 14), .ref (ad 15), .ref (ad 16), .ref (ad 17), .int (nI wo), .ref (ad 18), .ref (ad 19)]) := by rw [hen_1427]; exact va_up_self _ _ _
              have hI_1427 : RX cy cs ad en_1427 := by rw [hen_1427]; exact upr_M hI_1405 ⟨fa_1414, hi_1414, wd, mo, tb, dp_1414, many_1414, grt_1414, r_1404, nou_1414, rm_1414, rb_1414, pr_1414, wo, rfl, hwd2, hwd3, hmo, htb, hwo⟩
              have hf_1427 : ∀ c, (c ≠ 0 ∧ c ≠ 6 ∧ c ≠ 7 ∧ c ≠ 10 ∧ c ≠ 11) → en_1427 c = en c := fun c hc => Eq.trans (show en_1427 c = en_1405 c from by rw [hen_1427, va_up_ne _ _ (by omega)]) (hf_1405 c hc)
              have hkp_1427 : KP en en_1427 := KP_fv hkp_1405 es1414 es1414_1427 hi_1414 (nI wd) (nI mo) (nI tb) pr_1414 (nI wo) rfl rfl rfl rfl rfl rfl rfl rfl rfl rfl rfl rfl
              have hsd_1427 : SD en_1401 en_1427 := SD_fv hsd_1405 es1414 es1414_1427 (show en_1427 7 = en_1405 7 from by rw [hen_1427, va_up_ne _ _ (by decide)]) dp_1414 rfl rfl
              refine lv_iconst (v := 0) hx hb dX12_goThrough_117 (by decide) ?_
              refine lv_istore (lv' := [(4, .int 0), (2, .long r_1404), (0, .ref (ad 0)), (1, .int (nI n))]) hx hb dX12_goThrough_118 hl (by decide) rfl (fun ls hl => ?_)
              have loop_1428 : ∀ (fu j1428 : Nat)  (en_1428 : Nat → va_E) (ls : Array Slot) (H : Heap) (locs : List Loc), 0 ≤ j1428 → j1428 ≤ n → n < j1428 + fu → RX cy cs ad en_1428 → (∀ c, (c ≠ 0 ∧ c ≠ 6 ∧ c ≠ 7 ∧ c ≠ 10 ∧ c ≠ 11) → en_1428 c = en c) → (KP en en_1428) → (SD en_1401 en_1428) → lv_has ls 5 [(4, .int (nI j1428)), (2, .long r_1404), (0, .ref (ad 0)), (1, .int (nI n))] → Hp D (Af cs ad sz) (Af cs ad sz) s.heap H locs cs ad en_1428 → W p l e (headSpec (Cond.code yX12_goThrough cX12_goThrough 5 none :: TB) (rmN 3)).room s m ([.ref (ad 0), .int (nI n)] : List Value).toArray below meth c H locs 0 0 (MQ below (va_Qv (S := Nat → va_E) (fun en1 => RX cy cs ad en1 ∧ (∀ c, (c ≠ 0 ∧ c ≠ 6 ∧ c ≠ 7 ∧ c ≠ 10 ∧ c ≠ 11) → en1 c = en c) ∧ KP en en1) (PostM D cs ad) (Af cs ad sz)) ([.ref (ad 0), .int (nI n)] : List Value).toArray s 0 0 (Af cs ad sz)) (F0 m 120 ls []) := by
                intro fu
                induction fu with
                | zero => intro j1428  en_1428 ls H locs h0 h1 h2; exact absurd h2 (by omega)
                | succ fu ih_1428 =>
                  intro j1428  en_1428 ls H locs hj0_1428 hj_1428 hfu_1428 hI_1428 hf_1428 i0_1428 i1_1428 hl hh
                  refine lv_iload hx hb dX12_goThrough_120 (lv_at hl 0 rfl) ?_
                  refine lv_iload_n hx hb dX12_goThrough_122 rfl (lv_at hl 3 rfl) ?_
                  refine lv_icmp_ge (tgt := 146) hx hb dX12_goThrough_123 (by decide) (fun c_1429 => ?_) (fun c_1429 => ?_)
                  · have n_1429 : n ≤ j1428 := n_le (a := n) (b := j1428) c_1429 (by omega) (by omega)
                    exact join_1406  en_1428 ls _ _ hI_1428 hf_1428 i0_1428 i1_1428 (lv_sub hl [1, 2, 3] rfl) hh
                  · have n_1429 : j1428 < n := n_nle (a := n) (b := j1428) c_1429 (by omega) (by omega)
                    refine lv_aload_n hx hb dX12_goThrough_126 rfl (lv_at hl 2 rfl) ?_
                    obtain ⟨fa_1430, hi_1430, wd_1430, mo_1430, tb_1430, dp_1430, many_1430, grt_1430, lst_1430, nou_1430, rm_1430, rb_1430, pr_1430, wo_1430, es1430, p0_1430, p1_1430, p2_1430, p3_1430, p4_1430⟩ := getr_M hI_1428
                    have hq2_1431 : wd_1430 = wd := n_eq ((show nI wd_1430 = rdI (en_1428 0) 2 from by rw [es1430]; rfl).trans (i0_1428.2.1.trans (show rdI (en 0) 2 = nI wd from by rw [es1392]; rfl))) (by omega) (by omega)
                    have hq3_1431 : mo_1430 = mo := n_eq ((show nI mo_1430 = rdI (en_1428 0) 3 from by rw [es1430]; rfl).trans (i0_1428.2.2.1.trans (show rdI (en 0) 3 = nI mo from by rw [es1392]; rfl))) (by omega) (by omega)
                    have hq4_1431 : tb_1430 = tb := n_eq ((show nI tb_1430 = rdI (en_1428 0) 4 from by rw [es1430]; rfl).trans (i0_1428.2.2.2.1.trans (show rdI (en 0) 4 = nI tb from by rw [es1392]; rfl))) (by omega) (by omega)
                    have hq30_1431 : wo_1430 = wo := n_eq ((show nI wo_1430 = rdI (en_1428 0) 30 from by rw [es1430]; rfl).trans (i0_1428.2.2.2.2.2.trans (show rdI (en 0) 30 = nI wo from by rw [es1392]; rfl))) (by omega) (by omega)
                    rw [hq2_1431, hq3_1431, hq4_1431, hq30_1431] at es1430
                    refine hp_get hx hb hts ix12 hown hK hh (q := 0) rfl (hI.1 _ (by decide)) es1430 rfl 20 (by decide) (hts _ tw_899) (fun _ h9 => h9) rfl dX12_goThrough_127 ?_
                    refine lv_iload hx hb dX12_goThrough_130 (lv_at hl 0 rfl) ?_
                    refine lv_aload_n hx hb dX12_goThrough_132 rfl (lv_at hl 2 rfl) ?_
                    refine hp_get hx hb hts ix12 hown hK hh (q := 0) rfl (hI.1 _ (by decide)) es1430 rfl 11 (by decide) (hts _ tw_890) (fun _ h9 => h9) rfl dX12_goThrough_133 ?_
                    refine lv_iload hx hb dX12_goThrough_136 (lv_at hl 0 rfl) ?_
                    obtain ⟨f_1432, es1432⟩ := getr_nw hI_1428
                    refine hp_iald hx hb hK hh (q := 7) rfl (hI.1 _ (by decide)) es1432 (vp_in_nI (n := j1428) (by omega) (by decide)) dX12_goThrough_138 ?_
                    rw [nI_clamp (n := j1428) (by omega)]
                    obtain ⟨v_1433, hv_1433, hve_1433⟩ := hall_1401 j1428 (by omega)
                    rw [show f_1432 j1428 = nI v_1433 from (show f_1432 j1428 = rdF (en_1401 7) j1428 from by rw [← i1_1428.2, es1432]; rfl).trans hve_1433]
                    obtain ⟨f_1434, es1434⟩ := getr_sm hI_1428
                    refine hp_iast hx hb hK hh (q := 11) rfl (hI.1 _ (by decide)) es1434 (vp_in_nI (n := j1428) (by omega) (by decide)) dX12_goThrough_139 (fun H locs en_1435 hen_1435 hh => ?_)
                    rw [nI_clamp (n := j1428) (by omega)] at hen_1435
                    have es1430_1435 : en_1435 0 = .inr (11, [.int fa_1430, .int hi_1430, .int (nI wd), .int (nI mo), .int (nI tb), .ref (ad 1), .ref (ad 2), .ref (ad 3), .ref (ad 4), .ref (ad 5), .ref (ad 6), .ref (ad 7), .ref (ad 8), .ref (ad 9), .int dp_1430, .long many_1430, .long grt_1430, .long lst_1430, .long nou_1430, .ref (ad 10), .ref (ad 11), .ref (ad 12), .int rm_1430, .long rb_1430, .ref (ad 13), .int pr_1430, .ref (ad 14), .ref (ad 15), .ref (ad 16), .ref (ad 17), .int (nI wo), .ref (ad 18), .ref (ad 19)]) := by rw [hen_1435, va_up_ne _ _ (by decide)]; exact es1430
                    have es1432_1435 : en_1435 7 = .inl (cy 0, 13, .inl f_1432) := by rw [hen_1435, va_up_ne _ _ (by decide)]; exact es1432
                    have es1434_1435 : en_1435 11 = .inl (cy 0, 12, .inl (upd f_1434 j1428 (nI v_1433))) := by rw [hen_1435]; exact va_up_self _ _ _
                    have hI_1435 : RX cy cs ad en_1435 := by rw [hen_1435]; exact upr_sm hI_1428 ⟨(upd f_1434 j1428 (nI v_1433)), rfl⟩
                    have hf_1435 : ∀ c, (c ≠ 0 ∧ c ≠ 6 ∧ c ≠ 7 ∧ c ≠ 10 ∧ c ≠ 11) → en_1435 c = en c := fun c hc => Eq.trans (show en_1435 c = en_1428 c from by rw [hen_1435, va_up_ne _ _ (by omega)]) (hf_1428 c hc)
                    have hkp_1435 : KP en en_1435 := KP_same i0_1428 (show en_1435 0 = en_1428 0 from by rw [hen_1435, va_up_ne _ _ (by decide)])
                    have hsd_1435 : SD en_1401 en_1435 := SD_same i1_1428 (show en_1435 0 = en_1428 0 from by rw [hen_1435, va_up_ne _ _ (by decide)]) (show en_1435 7 = en_1428 7 from by rw [hen_1435, va_up_ne _ _ (by decide)])
                    refine lv_iinc (v := (nI (j1428 + 1))) (lv' := [(4, .int (nI (j1428 + 1))), (2, .long r_1404), (0, .ref (ad 0)), (1, .int (nI n))]) hx hb dX12_goThrough_140 hl (k := 0) rfl (nI_1 _) (by decide) rfl (fun ls hl => ?_)
                    refine lv_goto (tgt := 120) hx hb dX12_goThrough_143 (by decide) ?_
                    exact ih_1428 ((j1428 + 1))  en_1435 ls H locs (by omega) (by omega) (by omega) hI_1435 hf_1435 (hkp_1435) (hsd_1435) (lv_sub hl [0, 1, 2, 3] rfl) hh
              exact loop_1428 (n + 1) 0  en_1427 ls _ _ (Nat.le_refl _) (by omega) (by omega) hI_1427 hf_1427 (hkp_1427) (hsd_1427) (lv_sub hl [0, 1, 2, 3] rfl) hh
        refine lv_aload_n hx hb dX12_goThrough_42 rfl (lv_at hl 1 rfl) ?_
        refine hp_get hx hb hts ix12 hown hK hh (q := 0) rfl (hI.1 _ (by decide)) es1402 rfl 15 (by decide) (hts _ tw_894) (fun _ h9 => h9) rfl dX12_goThrough_43 ?_
        refine lv_lconst (v := 0) hx hb dX12_goThrough_46 (by decide) ?_
        refine W.lcmp hx hb dX12_goThrough_47 ?_
        refine lv_if_eq (tgt := 60) hx hb dX12_goThrough_48 (by decide) (fun c_1436 => ?_) (fun c_1436 => ?_)
        · refine lv_aload_n hx hb dX12_goThrough_60 rfl (lv_at hl 1 rfl) ?_
          refine lv_lload_n hx hb dX12_goThrough_61 rfl (lv_at hl 0 rfl) ?_
          refine hp_put hx hb hts ix12 tyX12 tyX12_ok nmX12 hown hK hh (q := 0) rfl (hI.1 _ (by decide)) es1402 rfl 16 (by decide) (hts _ tw_895) (fun _ h9 => h9) rfl (ty := .long) (by decide +kernel) rfl rfl (Nat.le_of_ble_eq_true rfl) dX12_goThrough_62 (fun H locs en_1437 hen_1437 hh => ?_)
          have es1402_1437 : en_1437 0 = .inr (11, [.int fa_1402, .int hi_1402, .int (nI wd), .int (nI mo), .int (nI tb), .ref (ad 1), .ref (ad 2), .ref (ad 3), .ref (ad 4), .ref (ad 5), .ref (ad 6), .ref (ad 7), .ref (ad 8), .ref (ad 9), .int dp_1402, .long many_1402, .long r_1404, .long lst_1402, .long nou_1402, .ref (ad 10), .ref (ad 11), .ref (ad 12), .int rm_1402, .long rb_1402, .ref (ad 13), .int pr_1402, .ref (ad 14), .ref (ad 15), .ref (ad 16), .ref (ad 17), .int (nI wo), .ref (ad 18), .ref (ad 19)]) := by rw [hen_1437]; exact va_up_self _ _ _
          have hI_1437 : RX cy cs ad en_1437 := by rw [hen_1437]; exact upr_M hI_1401 ⟨fa_1402, hi_1402, wd, mo, tb, dp_1402, many_1402, r_1404, lst_1402, nou_1402, rm_1402, rb_1402, pr_1402, wo, rfl, hwd2, hwd3, hmo, htb, hwo⟩
          have hf_1437 : ∀ c, (c ≠ 0 ∧ c ≠ 6 ∧ c ≠ 7 ∧ c ≠ 10 ∧ c ≠ 11) → en_1437 c = en c := fun c hc => Eq.trans (show en_1437 c = en_1401 c from by rw [hen_1437, va_up_ne _ _ (by omega)]) (hf_1401 c hc)
          have hkp_1437 : KP en en_1437 := KP_fv hkp_1401 es1402 es1402_1437 hi_1402 (nI wd) (nI mo) (nI tb) pr_1402 (nI wo) rfl rfl rfl rfl rfl rfl rfl rfl rfl rfl rfl rfl
          have hsd_1437 : SD en_1401 en_1437 := SD_fv (SD_rf en_1401) es1402 es1402_1437 (show en_1437 7 = en_1401 7 from by rw [hen_1437, va_up_ne _ _ (by decide)]) dp_1402 rfl rfl
          refine lv_iconst (v := 0) hx hb dX12_goThrough_65 (by decide) ?_
          refine lv_istore (lv' := [(4, .int 0), (2, .long r_1404), (0, .ref (ad 0)), (1, .int (nI n))]) hx hb dX12_goThrough_66 hl (by decide) rfl (fun ls hl => ?_)
          have loop_1438 : ∀ (fu j1438 : Nat)  (en_1438 : Nat → va_E) (ls : Array Slot) (H : Heap) (locs : List Loc), 0 ≤ j1438 → j1438 ≤ n → n < j1438 + fu → RX cy cs ad en_1438 → (∀ c, (c ≠ 0 ∧ c ≠ 6 ∧ c ≠ 7 ∧ c ≠ 10 ∧ c ≠ 11) → en_1438 c = en c) → (KP en en_1438) → (SD en_1401 en_1438) → lv_has ls 5 [(4, .int (nI j1438)), (2, .long r_1404), (0, .ref (ad 0)), (1, .int (nI n))] → Hp D (Af cs ad sz) (Af cs ad sz) s.heap H locs cs ad en_1438 → W p l e (headSpec (Cond.code yX12_goThrough cX12_goThrough 5 none :: TB) (rmN 3)).room s m ([.ref (ad 0), .int (nI n)] : List Value).toArray below meth c H locs 0 0 (MQ below (va_Qv (S := Nat → va_E) (fun en1 => RX cy cs ad en1 ∧ (∀ c, (c ≠ 0 ∧ c ≠ 6 ∧ c ≠ 7 ∧ c ≠ 10 ∧ c ≠ 11) → en1 c = en c) ∧ KP en en1) (PostM D cs ad) (Af cs ad sz)) ([.ref (ad 0), .int (nI n)] : List Value).toArray s 0 0 (Af cs ad sz)) (F0 m 68 ls []) := by
            intro fu
            induction fu with
            | zero => intro j1438  en_1438 ls H locs h0 h1 h2; exact absurd h2 (by omega)
            | succ fu ih_1438 =>
              intro j1438  en_1438 ls H locs hj0_1438 hj_1438 hfu_1438 hI_1438 hf_1438 i0_1438 i1_1438 hl hh
              refine lv_iload hx hb dX12_goThrough_68 (lv_at hl 0 rfl) ?_
              refine lv_iload_n hx hb dX12_goThrough_70 rfl (lv_at hl 3 rfl) ?_
              refine lv_icmp_ge (tgt := 94) hx hb dX12_goThrough_71 (by decide) (fun c_1439 => ?_) (fun c_1439 => ?_)
              · have n_1439 : n ≤ j1438 := n_le (a := n) (b := j1438) c_1439 (by omega) (by omega)
                exact join_1405  en_1438 ls _ _ hI_1438 hf_1438 i0_1438 i1_1438 (lv_sub hl [1, 2, 3] rfl) hh
              · have n_1439 : j1438 < n := n_nle (a := n) (b := j1438) c_1439 (by omega) (by omega)
                refine lv_aload_n hx hb dX12_goThrough_74 rfl (lv_at hl 2 rfl) ?_
                obtain ⟨fa_1440, hi_1440, wd_1440, mo_1440, tb_1440, dp_1440, many_1440, grt_1440, lst_1440, nou_1440, rm_1440, rb_1440, pr_1440, wo_1440, es1440, p0_1440, p1_1440, p2_1440, p3_1440, p4_1440⟩ := getr_M hI_1438
                have hq2_1441 : wd_1440 = wd := n_eq ((show nI wd_1440 = rdI (en_1438 0) 2 from by rw [es1440]; rfl).trans (i0_1438.2.1.trans (show rdI (en 0) 2 = nI wd from by rw [es1392]; rfl))) (by omega) (by omega)
                have hq3_1441 : mo_1440 = mo := n_eq ((show nI mo_1440 = rdI (en_1438 0) 3 from by rw [es1440]; rfl).trans (i0_1438.2.2.1.trans (show rdI (en 0) 3 = nI mo from by rw [es1392]; rfl))) (by omega) (by omega)
                have hq4_1441 : tb_1440 = tb := n_eq ((show nI tb_1440 = rdI (en_1438 0) 4 from by rw [es1440]; rfl).trans (i0_1438.2.2.2.1.trans (show rdI (en 0) 4 = nI tb from by rw [es1392]; rfl))) (by omega) (by omega)
                have hq30_1441 : wo_1440 = wo := n_eq ((show nI wo_1440 = rdI (en_1438 0) 30 from by rw [es1440]; rfl).trans (i0_1438.2.2.2.2.2.trans (show rdI (en 0) 30 = nI wo from by rw [es1392]; rfl))) (by omega) (by omega)
                rw [hq2_1441, hq3_1441, hq4_1441, hq30_1441] at es1440
                refine hp_get hx hb hts ix12 hown hK hh (q := 0) rfl (hI.1 _ (by decide)) es1440 rfl 19 (by decide) (hts _ tw_898) (fun _ h9 => h9) rfl dX12_goThrough_75 ?_
                refine lv_iload hx hb dX12_goThrough_78 (lv_at hl 0 rfl) ?_
                refine lv_aload_n hx hb dX12_goThrough_80 rfl (lv_at hl 2 rfl) ?_
                refine hp_get hx hb hts ix12 hown hK hh (q := 0) rfl (hI.1 _ (by decide)) es1440 rfl 11 (by decide) (hts _ tw_890) (fun _ h9 => h9) rfl dX12_goThrough_81 ?_
                refine lv_iload hx hb dX12_goThrough_84 (lv_at hl 0 rfl) ?_
                obtain ⟨f_1442, es1442⟩ := getr_nw hI_1438
                refine hp_iald hx hb hK hh (q := 7) rfl (hI.1 _ (by decide)) es1442 (vp_in_nI (n := j1438) (by omega) (by decide)) dX12_goThrough_86 ?_
                rw [nI_clamp (n := j1438) (by omega)]
                obtain ⟨v_1443, hv_1443, hve_1443⟩ := hall_1401 j1438 (by omega)
                rw [show f_1442 j1438 = nI v_1443 from (show f_1442 j1438 = rdF (en_1401 7) j1438 from by rw [← i1_1438.2, es1442]; rfl).trans hve_1443]
                obtain ⟨f_1444, es1444⟩ := getr_gt hI_1438
                refine hp_iast hx hb hK hh (q := 10) rfl (hI.1 _ (by decide)) es1444 (vp_in_nI (n := j1438) (by omega) (by decide)) dX12_goThrough_87 (fun H locs en_1445 hen_1445 hh => ?_)
                rw [nI_clamp (n := j1438) (by omega)] at hen_1445
                have es1440_1445 : en_1445 0 = .inr (11, [.int fa_1440, .int hi_1440, .int (nI wd), .int (nI mo), .int (nI tb), .ref (ad 1), .ref (ad 2), .ref (ad 3), .ref (ad 4), .ref (ad 5), .ref (ad 6), .ref (ad 7), .ref (ad 8), .ref (ad 9), .int dp_1440, .long many_1440, .long grt_1440, .long lst_1440, .long nou_1440, .ref (ad 10), .ref (ad 11), .ref (ad 12), .int rm_1440, .long rb_1440, .ref (ad 13), .int pr_1440, .ref (ad 14), .ref (ad 15), .ref (ad 16), .ref (ad 17), .int (nI wo), .ref (ad 18), .ref (ad 19)]) := by rw [hen_1445, va_up_ne _ _ (by decide)]; exact es1440
                have es1442_1445 : en_1445 7 = .inl (cy 0, 13, .inl f_1442) := by rw [hen_1445, va_up_ne _ _ (by decide)]; exact es1442
                have es1444_1445 : en_1445 10 = .inl (cy 0, 12, .inl (upd f_1444 j1438 (nI v_1443))) := by rw [hen_1445]; exact va_up_self _ _ _
                have hI_1445 : RX cy cs ad en_1445 := by rw [hen_1445]; exact upr_gt hI_1438 ⟨(upd f_1444 j1438 (nI v_1443)), rfl⟩
                have hf_1445 : ∀ c, (c ≠ 0 ∧ c ≠ 6 ∧ c ≠ 7 ∧ c ≠ 10 ∧ c ≠ 11) → en_1445 c = en c := fun c hc => Eq.trans (show en_1445 c = en_1438 c from by rw [hen_1445, va_up_ne _ _ (by omega)]) (hf_1438 c hc)
                have hkp_1445 : KP en en_1445 := KP_same i0_1438 (show en_1445 0 = en_1438 0 from by rw [hen_1445, va_up_ne _ _ (by decide)])
                have hsd_1445 : SD en_1401 en_1445 := SD_same i1_1438 (show en_1445 0 = en_1438 0 from by rw [hen_1445, va_up_ne _ _ (by decide)]) (show en_1445 7 = en_1438 7 from by rw [hen_1445, va_up_ne _ _ (by decide)])
                refine lv_iinc (v := (nI (j1438 + 1))) (lv' := [(4, .int (nI (j1438 + 1))), (2, .long r_1404), (0, .ref (ad 0)), (1, .int (nI n))]) hx hb dX12_goThrough_88 hl (k := 0) rfl (nI_1 _) (by decide) rfl (fun ls hl => ?_)
                refine lv_goto (tgt := 68) hx hb dX12_goThrough_91 (by decide) ?_
                exact ih_1438 ((j1438 + 1))  en_1445 ls H locs (by omega) (by omega) (by omega) hI_1445 hf_1445 (hkp_1445) (hsd_1445) (lv_sub hl [0, 1, 2, 3] rfl) hh
          exact loop_1438 (n + 1) 0  en_1437 ls _ _ (Nat.le_refl _) (by omega) (by omega) hI_1437 hf_1437 (hkp_1437) (hsd_1437) (lv_sub hl [0, 1, 2, 3] rfl) hh
        · refine lv_lload_n hx hb dX12_goThrough_51 rfl (lv_at hl 0 rfl) ?_
          refine lv_aload_n hx hb dX12_goThrough_52 rfl (lv_at hl 1 rfl) ?_
          refine hp_get hx hb hts ix12 hown hK hh (q := 0) rfl (hI.1 _ (by decide)) es1402 rfl 16 (by decide) (hts _ tw_895) (fun _ h9 => h9) rfl dX12_goThrough_53 ?_
          refine W.lcmp hx hb dX12_goThrough_56 ?_
          refine lv_if_le (tgt := 94) hx hb dX12_goThrough_57 (by decide) (fun c_1446 => ?_) (fun c_1446 => ?_)
          · exact join_1405  en_1401 ls _ _ hI_1401 hf_1401 hkp_1401 (SD_rf en_1401) (lv_sub hl [0, 1, 2] rfl) hh
          · refine lv_aload_n hx hb dX12_goThrough_60 rfl (lv_at hl 1 rfl) ?_
            refine lv_lload_n hx hb dX12_goThrough_61 rfl (lv_at hl 0 rfl) ?_
            refine hp_put hx hb hts ix12 tyX12 tyX12_ok nmX12 hown hK hh (q := 0) rfl (hI.1 _ (by decide)) es1402 rfl 16 (by decide) (hts _ tw_895) (fun _ h9 => h9) rfl (ty := .long) (by decide +kernel) rfl rfl (Nat.le_of_ble_eq_true rfl) dX12_goThrough_62 (fun H locs en_1447 hen_1447 hh => ?_)
            have es1402_1447 : en_1447 0 = .inr (11, [.int fa_1402, .int hi_1402, .int (nI wd), .int (nI mo), .int (nI tb), .ref (ad 1), .ref (ad 2), .ref (ad 3), .ref (ad 4), .ref (ad 5), .ref (ad 6), .ref (ad 7), .ref (ad 8), .ref (ad 9), .int dp_1402, .long many_1402, .long r_1404, .long lst_1402, .long nou_1402, .ref (ad 10), .ref (ad 11), .ref (ad 12), .int rm_1402, .long rb_1402, .ref (ad 13), .int pr_1402, .ref (ad 14), .ref (ad 15), .ref (ad 16), .ref (ad 17), .int (nI wo), .ref (ad 18), .ref (ad 19)]) := by rw [hen_1447]; exact va_up_self _ _ _
            have hI_1447 : RX cy cs ad en_1447 := by rw [hen_1447]; exact upr_M hI_1401 ⟨fa_1402, hi_1402, wd, mo, tb, dp_1402, many_1402, r_1404, lst_1402, nou_1402, rm_1402, rb_1402, pr_1402, wo, rfl, hwd2, hwd3, hmo, htb, hwo⟩
            have hf_1447 : ∀ c, (c ≠ 0 ∧ c ≠ 6 ∧ c ≠ 7 ∧ c ≠ 10 ∧ c ≠ 11) → en_1447 c = en c := fun c hc => Eq.trans (show en_1447 c = en_1401 c from by rw [hen_1447, va_up_ne _ _ (by omega)]) (hf_1401 c hc)
            have hkp_1447 : KP en en_1447 := KP_fv hkp_1401 es1402 es1402_1447 hi_1402 (nI wd) (nI mo) (nI tb) pr_1402 (nI wo) rfl rfl rfl rfl rfl rfl rfl rfl rfl rfl rfl rfl
            have hsd_1447 : SD en_1401 en_1447 := SD_fv (SD_rf en_1401) es1402 es1402_1447 (show en_1447 7 = en_1401 7 from by rw [hen_1447, va_up_ne _ _ (by decide)]) dp_1402 rfl rfl
            refine lv_iconst (v := 0) hx hb dX12_goThrough_65 (by decide) ?_
            refine lv_istore (lv' := [(4, .int 0), (2, .long r_1404), (0, .ref (ad 0)), (1, .int (nI n))]) hx hb dX12_goThrough_66 hl (by decide) rfl (fun ls hl => ?_)
            have loop_1448 : ∀ (fu j1448 : Nat)  (en_1448 : Nat → va_E) (ls : Array Slot) (H : Heap) (locs : List Loc), 0 ≤ j1448 → j1448 ≤ n → n < j1448 + fu → RX cy cs ad en_1448 → (∀ c, (c ≠ 0 ∧ c ≠ 6 ∧ c ≠ 7 ∧ c ≠ 10 ∧ c ≠ 11) → en_1448 c = en c) → (KP en en_1448) → (SD en_1401 en_1448) → lv_has ls 5 [(4, .int (nI j1448)), (2, .long r_1404), (0, .ref (ad 0)), (1, .int (nI n))] → Hp D (Af cs ad sz) (Af cs ad sz) s.heap H locs cs ad en_1448 → W p l e (headSpec (Cond.code yX12_goThrough cX12_goThrough 5 none :: TB) (rmN 3)).room s m ([.ref (ad 0), .int (nI n)] : List Value).toArray below meth c H locs 0 0 (MQ below (va_Qv (S := Nat → va_E) (fun en1 => RX cy cs ad en1 ∧ (∀ c, (c ≠ 0 ∧ c ≠ 6 ∧ c ≠ 7 ∧ c ≠ 10 ∧ c ≠ 11) → en1 c = en c) ∧ KP en en1) (PostM D cs ad) (Af cs ad sz)) ([.ref (ad 0), .int (nI n)] : List Value).toArray s 0 0 (Af cs ad sz)) (F0 m 68 ls []) := by
              intro fu
              induction fu with
              | zero => intro j1448  en_1448 ls H locs h0 h1 h2; exact absurd h2 (by omega)
              | succ fu ih_1448 =>
                intro j1448  en_1448 ls H locs hj0_1448 hj_1448 hfu_1448 hI_1448 hf_1448 i0_1448 i1_1448 hl hh
                refine lv_iload hx hb dX12_goThrough_68 (lv_at hl 0 rfl) ?_
                refine lv_iload_n hx hb dX12_goThrough_70 rfl (lv_at hl 3 rfl) ?_
                refine lv_icmp_ge (tgt := 94) hx hb dX12_goThrough_71 (by decide) (fun c_1449 => ?_) (fun c_1449 => ?_)
                · have n_1449 : n ≤ j1448 := n_le (a := n) (b := j1448) c_1449 (by omega) (by omega)
                  exact join_1405  en_1448 ls _ _ hI_1448 hf_1448 i0_1448 i1_1448 (lv_sub hl [1, 2, 3] rfl) hh
                · have n_1449 : j1448 < n := n_nle (a := n) (b := j1448) c_1449 (by omega) (by omega)
                  refine lv_aload_n hx hb dX12_goThrough_74 rfl (lv_at hl 2 rfl) ?_
                  obtain ⟨fa_1450, hi_1450, wd_1450, mo_1450, tb_1450, dp_1450, many_1450, grt_1450, lst_1450, nou_1450, rm_1450, rb_1450, pr_1450, wo_1450, es1450, p0_1450, p1_1450, p2_1450, p3_1450, p4_1450⟩ := getr_M hI_1448
                  have hq2_1451 : wd_1450 = wd := n_eq ((show nI wd_1450 = rdI (en_1448 0) 2 from by rw [es1450]; rfl).trans (i0_1448.2.1.trans (show rdI (en 0) 2 = nI wd from by rw [es1392]; rfl))) (by omega) (by omega)
                  have hq3_1451 : mo_1450 = mo := n_eq ((show nI mo_1450 = rdI (en_1448 0) 3 from by rw [es1450]; rfl).trans (i0_1448.2.2.1.trans (show rdI (en 0) 3 = nI mo from by rw [es1392]; rfl))) (by omega) (by omega)
                  have hq4_1451 : tb_1450 = tb := n_eq ((show nI tb_1450 = rdI (en_1448 0) 4 from by rw [es1450]; rfl).trans (i0_1448.2.2.2.1.trans (show rdI (en 0) 4 = nI tb from by rw [es1392]; rfl))) (by omega) (by omega)
                  have hq30_1451 : wo_1450 = wo := n_eq ((show nI wo_1450 = rdI (en_1448 0) 30 from by rw [es1450]; rfl).trans (i0_1448.2.2.2.2.2.trans (show rdI (en 0) 30 = nI wo from by rw [es1392]; rfl))) (by omega) (by omega)
                  rw [hq2_1451, hq3_1451, hq4_1451, hq30_1451] at es1450
                  refine hp_get hx hb hts ix12 hown hK hh (q := 0) rfl (hI.1 _ (by decide)) es1450 rfl 19 (by decide) (hts _ tw_898) (fun _ h9 => h9) rfl dX12_goThrough_75 ?_
                  refine lv_iload hx hb dX12_goThrough_78 (lv_at hl 0 rfl) ?_
                  refine lv_aload_n hx hb dX12_goThrough_80 rfl (lv_at hl 2 rfl) ?_
                  refine hp_get hx hb hts ix12 hown hK hh (q := 0) rfl (hI.1 _ (by decide)) es1450 rfl 11 (by decide) (hts _ tw_890) (fun _ h9 => h9) rfl dX12_goThrough_81 ?_
                  refine lv_iload hx hb dX12_goThrough_84 (lv_at hl 0 rfl) ?_
                  obtain ⟨f_1452, es1452⟩ := getr_nw hI_1448
                  refine hp_iald hx hb hK hh (q := 7) rfl (hI.1 _ (by decide)) es1452 (vp_in_nI (n := j1448) (by omega) (by decide)) dX12_goThrough_86 ?_
                  rw [nI_clamp (n := j1448) (by omega)]
                  obtain ⟨v_1453, hv_1453, hve_1453⟩ := hall_1401 j1448 (by omega)
                  rw [show f_1452 j1448 = nI v_1453 from (show f_1452 j1448 = rdF (en_1401 7) j1448 from by rw [← i1_1448.2, es1452]; rfl).trans hve_1453]
                  obtain ⟨f_1454, es1454⟩ := getr_gt hI_1448
                  refine hp_iast hx hb hK hh (q := 10) rfl (hI.1 _ (by decide)) es1454 (vp_in_nI (n := j1448) (by omega) (by decide)) dX12_goThrough_87 (fun H locs en_1455 hen_1455 hh => ?_)
                  rw [nI_clamp (n := j1448) (by omega)] at hen_1455
                  have es1450_1455 : en_1455 0 = .inr (11, [.int fa_1450, .int hi_1450, .int (nI wd), .int (nI mo), .int (nI tb), .ref (ad 1), .ref (ad 2), .ref (ad 3), .ref (ad 4), .ref (ad 5), .ref (ad 6), .ref (ad 7), .ref (ad 8), .ref (ad 9), .int dp_1450, .long many_1450, .long grt_1450, .long lst_1450, .long nou_1450, .ref (ad 10), .ref (ad 11), .ref (ad 12), .int rm_1450, .long rb_1450, .ref (ad 13), .int pr_1450, .ref (ad 14), .ref (ad 15), .ref (ad 16), .ref (ad 17), .int (nI wo), .ref (ad 18), .ref (ad 19)]) := by rw [hen_1455, va_up_ne _ _ (by decide)]; exact es1450
                  have es1452_1455 : en_1455 7 = .inl (cy 0, 13, .inl f_1452) := by rw [hen_1455, va_up_ne _ _ (by decide)]; exact es1452
                  have es1454_1455 : en_1455 10 = .inl (cy 0, 12, .inl (upd f_1454 j1448 (nI v_1453))) := by rw [hen_1455]; exact va_up_self _ _ _
                  have hI_1455 : RX cy cs ad en_1455 := by rw [hen_1455]; exact upr_gt hI_1448 ⟨(upd f_1454 j1448 (nI v_1453)), rfl⟩
                  have hf_1455 : ∀ c, (c ≠ 0 ∧ c ≠ 6 ∧ c ≠ 7 ∧ c ≠ 10 ∧ c ≠ 11) → en_1455 c = en c := fun c hc => Eq.trans (show en_1455 c = en_1448 c from by rw [hen_1455, va_up_ne _ _ (by omega)]) (hf_1448 c hc)
                  have hkp_1455 : KP en en_1455 := KP_same i0_1448 (show en_1455 0 = en_1448 0 from by rw [hen_1455, va_up_ne _ _ (by decide)])
                  have hsd_1455 : SD en_1401 en_1455 := SD_same i1_1448 (show en_1455 0 = en_1448 0 from by rw [hen_1455, va_up_ne _ _ (by decide)]) (show en_1455 7 = en_1448 7 from by rw [hen_1455, va_up_ne _ _ (by decide)])
                  refine lv_iinc (v := (nI (j1448 + 1))) (lv' := [(4, .int (nI (j1448 + 1))), (2, .long r_1404), (0, .ref (ad 0)), (1, .int (nI n))]) hx hb dX12_goThrough_88 hl (k := 0) rfl (nI_1 _) (by decide) rfl (fun ls hl => ?_)
                  refine lv_goto (tgt := 68) hx hb dX12_goThrough_91 (by decide) ?_
                  exact ih_1448 ((j1448 + 1))  en_1455 ls H locs (by omega) (by omega) (by omega) hI_1455 hf_1455 (hkp_1455) (hsd_1455) (lv_sub hl [0, 1, 2, 3] rfl) hh
            exact loop_1448 (n + 1) 0  en_1447 ls _ _ (Nat.le_refl _) (by omega) (by omega) hI_1447 hf_1447 (hkp_1447) (hsd_1447) (lv_sub hl [0, 1, 2, 3] rfl) hh
  exact loop_1398 (134217728 + 1) 134217728 0 0 en_1397 ls _ _ (by omega) hI_1397 hf_1397 (hND_1397) (by omega) (hkp_1397) (lv_sub hl [0, 1] rfl) hh
theorem kw_X12_goThrough {R : Room} {s : State} {args : Array Value} {own : String} {idx : Nat} (hts : ∀ w ∈ TB, w.before args s = true) (hl : Cond.methodLink own idx yX12_goThrough ∈ TB) (hR : 3 + 1 ≤ R.frames ∧ 8 + (5 + 11) + 40 * 3 ≤ R.locals) : CallW R s args own RX12 idx yX12_goThrough cX12_goThrough 5 none (Cond.code yX12_goThrough cX12_goThrough 5 none :: TB) (rmN 3) 0 0 1 := cwV 1 hts (TB_V hl tw_1036 ts_37 tw_9 tw_1037) rfl rfl rfl (by decide +kernel) hR
set_option maxHeartbeats 4000000 in
set_option maxRecDepth 100000 in
/-- X12_length -/
theorem c_X12_length (l : Launch) (D : va_G) (cy : Nat → ClassId) (sz : Nat) (cs : List Nat) (ad : Nat → Nat) (en : Nat → va_E) (hI : RX cy cs ad en) (n9 w9 : Int32)   : Met l yX12_length (Cond.code yX12_length cX12_length 3 (some .long) :: TB) (rmN 4) (va_Pc [.ref (ad 0), .int n9, .int w9] (Pre D cy cs ad en sz)) (va_Ql (S := Nat → va_E) (fun r en1 => RX cy cs ad en1 ∧ (∀ c, (c ≠ 0 ∧ c ≠ 6 ∧ c ≠ 7 ∧ c ≠ 8 ∧ c ≠ 9 ∧ c ≠ 10 ∧ c ≠ 11) → en1 c = en c) ∧ KP en en1) (PostM D cs ad) (Af cs ad sz)) 0 0 (Af cs ad sz) := by
  refine Met.ofW (cc := cX12_length) (maxL := 3) (ret := (some .long)) (by decide) rfl ?_
  intro p e s m args below meth c s₁ B hml hv
  obtain ⟨rfl, hsz, hP, hK, hD0⟩ := hv
  have hx := B.exec
  have hb := B.bytes
  have hr := B.returns
  have hts : ∀ w ∈ TB, w.before _ s = true := fun w h => atoms_spec (ws := _ :: TB) B.pre w (List.mem_cons_of_mem _ h)
  have hown : s.vm.findClass RX12 = some m.cls := findClass_of_methodNamed B.named
  have hlocks := B.notSynchronized
  have hh : Hp D (Af cs ad sz) (Af cs ad sz) s.heap s.heap [] cs ad en := ⟨hP, Af_self hD0, va_S.rf⟩
  have hA : ∀ q : Nat, s.heap.size ≤ q → Af cs ad sz q := fun q h => Or.inr (by rw [hsz] at h; exact h)
  have hl := lv_entry ([.ref (ad 0), .int n9, .int w9]) (n := 3) (Nat.le_of_ble_eq_true rfl)
  rw [lg_entry_eq]
  generalize (lg_sl ([.ref (ad 0), .int n9, .int w9]) ++ List.replicate (3 - (lg_sl ([.ref (ad 0), .int n9, .int w9])).length) Slot.unset).toArray = ls at hl ⊢
  have hl : lv_has ls 3 [(0, .ref (ad 0)), (1, .int n9), (2, .int w9)] := hl
  have hf0 : ∀ c, (c ≠ 0 ∧ c ≠ 6 ∧ c ≠ 7 ∧ c ≠ 8 ∧ c ≠ 9 ∧ c ≠ 10 ∧ c ≠ 11) → en c = en c := fun _ _ => rfl
  obtain ⟨fa, hi, wd, mo, tb, dp, many, grt, lst, nou, rm, rb, pr, wo, es1456, hwd2, hwd3, hmo, htb, hwo⟩ := getr_M hI
  refine lv_iload_n hx hb dX12_length_0 rfl (lv_at hl 1 rfl) ?_
  refine lv_i2l hx hb dX12_length_1 rfl ?_
  refine lv_lconst (v := 1) hx hb dX12_length_2 (by decide) ?_
  refine lv_ldc2 hx hb hown (hts _ tw_1024) dX12_length_3 ?_
  refine hp_callRi (va_runS (As := [.long n9.toInt64, .long 1, .long 8]) (rest := []) ⟨hx, hb, hml, hown, hts⟩ (c_X12_within l D cy _ cs ad en n9.toInt64 1 8) (kw_X12_within hts tw_985 ⟨by decide, by decide⟩) (preS_of hh hK) rfl rfl hl.1 rfl (lv_room (Nat.le_of_ble_eq_true rfl)) dX12_length_6 ⟨Nat.le_of_ble_eq_true rfl, Nat.le_of_ble_eq_true rfl⟩) hh hA (fun r_1457 H locs hw_1457 hh => ?_)
  rcases Decidable.em (wi n9 1 8) with hp_1457 | hp_1457
  · obtain rfl : r_1457 = 1 := Eq.trans hw_1457 (if_pos ((wj_32 (by decide) (by decide)).mpr hp_1457))
    obtain ⟨N_1457, rfl, hA_1457, hB_1457⟩ := wi_natB hp_1457 1 8 (by decide) (by decide)
    refine lv_if_eq (tgt := 32) hx hb dX12_length_9 (by decide) (fun c_0 => absurd c_0 (by decide)) (fun _ => ?_)
    refine lv_iload_n hx hb dX12_length_12 rfl (lv_at hl 2 rfl) ?_
    refine lv_i2l hx hb dX12_length_13 rfl ?_
    refine lv_lconst (v := 0) hx hb dX12_length_14 (by decide) ?_
    refine lv_ldc2 hx hb hown (hts _ tw_984) dX12_length_15 ?_
    refine hp_callRi (va_runS (As := [.long w9.toInt64, .long 0, .long 3]) (rest := []) ⟨hx, hb, hml, hown, hts⟩ (c_X12_within l D cy _ cs ad en w9.toInt64 0 3) (kw_X12_within hts tw_985 ⟨by decide, by decide⟩) (preS_of hh hK) rfl rfl hl.1 rfl (lv_room (Nat.le_of_ble_eq_true rfl)) dX12_length_18 ⟨Nat.le_of_ble_eq_true rfl, Nat.le_of_ble_eq_true rfl⟩) hh hA (fun r_1458 H locs hw_1458 hh => ?_)
    rcases Decidable.em (wi w9 0 3) with hp_1458 | hp_1458
    · obtain rfl : r_1458 = 1 := Eq.trans hw_1458 (if_pos ((wj_32 (by decide) (by decide)).mpr hp_1458))
      obtain ⟨N_1458, rfl, hA_1458, hB_1458⟩ := wi_natB hp_1458 0 3 (by decide) (by decide)
      refine lv_if_eq (tgt := 32) hx hb dX12_length_21 (by decide) (fun c_0 => absurd c_0 (by decide)) (fun _ => ?_)
      refine lv_aload_n hx hb dX12_length_24 rfl (lv_at hl 0 rfl) ?_
      refine lv_iload_n hx hb dX12_length_25 rfl (lv_at hl 1 rfl) ?_
      refine hp_callMi (va_runV (As := [.int (nI N_1457)]) (rest := []) ⟨hx, hb, hml, hown, hts⟩ (c_X12_isSpent l D cy _ cs ad en hI N_1457 (by omega)) (kw_X12_isSpent hts tw_1025 ⟨by decide, by decide⟩) (preV_of hh hK (hI.1 _ (by decide)) es1456 rfl) rfl rfl hl.1 rfl (lv_room (Nat.le_of_ble_eq_true rfl)) dX12_length_26 ⟨Nat.le_of_ble_eq_true rfl, Nat.le_of_ble_eq_true rfl⟩) hh hA (fun r_1459 H locs en_1459 hw_1459 hh => ?_)
      obtain ⟨hI_1459, hu_1459, hx_1459⟩ := hw_1459
      have es1456_1459 : en_1459 0 = .inr (11, [.int fa, .int hi, .int (nI wd), .int (nI mo), .int (nI tb), .ref (ad 1), .ref (ad 2), .ref (ad 3), .ref (ad 4), .ref (ad 5), .ref (ad 6), .ref (ad 7), .ref (ad 8), .ref (ad 9), .int dp, .long many, .long grt, .long lst, .long nou, .ref (ad 10), .ref (ad 11), .ref (ad 12), .int rm, .long rb, .ref (ad 13), .int pr, .ref (ad 14), .ref (ad 15), .ref (ad 16), .ref (ad 17), .int (nI wo), .ref (ad 18), .ref (ad 19)]) := (hu_1459 0 (by omega)).trans es1456
      have hf_1459 : ∀ c, (c ≠ 0 ∧ c ≠ 6 ∧ c ≠ 7 ∧ c ≠ 8 ∧ c ≠ 9 ∧ c ≠ 10 ∧ c ≠ 11) → en_1459 c = en c := fun c hc => (hu_1459 c (by omega)).trans (hf0 c hc)
      have hkp_1459 : KP en en_1459 := KP_same (KP_rf en) (hu_1459 0 (by omega))
      have hw_1459 := hx_1459
      rcases hw_1459 with hb_1459 | hb_1459
      · obtain rfl : r_1459 = 0 := hb_1459
        refine lv_if_eq (tgt := 36) hx hb dX12_length_29 (by decide) (fun _ => ?_) (fun c_0 => absurd c_0 (by decide))
        refine lv_aload_n hx hb dX12_length_36 rfl (lv_at hl 0 rfl) ?_
        refine lv_iload_n hx hb dX12_length_37 rfl (lv_at hl 1 rfl) ?_
        refine hp_callMv (va_runV (As := [.int (nI N_1457)]) (rest := []) ⟨hx, hb, hml, hown, hts⟩ (c_X12_goThrough l D cy _ cs ad en_1459 hI_1459 N_1457 (by omega) (by omega)) (kw_X12_goThrough hts tw_1034 ⟨by decide, by decide⟩) (preV_of hh hK (hI.1 _ (by decide)) es1456_1459 rfl) rfl rfl hl.1 rfl (lv_room (Nat.le_of_ble_eq_true rfl)) dX12_length_38 ⟨Nat.le_of_ble_eq_true rfl, Nat.le_of_ble_eq_true rfl⟩) hh hA (fun H locs en_1460 hw_1460 hh => ?_)
        obtain ⟨hI_1460, hu_1460, hx_1460⟩ := hw_1460
        have hf_1460 : ∀ c, (c ≠ 0 ∧ c ≠ 6 ∧ c ≠ 7 ∧ c ≠ 8 ∧ c ≠ 9 ∧ c ≠ 10 ∧ c ≠ 11) → en_1460 c = en c := fun c hc => (hu_1460 c (by omega)).trans (hf_1459 c hc)
        have hkp_1460 : KP en en_1460 := KP_tr hkp_1459 hx_1460
        refine lv_iload_n hx hb dX12_length_41 rfl (lv_at hl 2 rfl) ?_
        refine lv_if_ne (tgt := 52) hx hb dX12_length_42 (by decide) (fun c_1461 => ?_) (fun c_1461 => ?_)
        · have n_1461 : N_1458 ≠ 0 := n_neq (a := N_1458) (b := 0) c_1461 (by omega) (by decide)
          refine lv_iload_n hx hb dX12_length_52 rfl (lv_at hl 2 rfl) ?_
          refine lv_iconst (v := 1) hx hb dX12_length_53 (by decide) ?_
          refine lv_icmp_ne (tgt := 64) hx hb dX12_length_54 (by decide) (fun c_1462 => ?_) (fun c_1462 => ?_)
          · have n_1462 : N_1458 ≠ 1 := n_neq (a := N_1458) (b := 1) c_1462 (by omega) (by decide)
            refine lv_iload_n hx hb dX12_length_64 rfl (lv_at hl 2 rfl) ?_
            refine lv_iconst (v := 2) hx hb dX12_length_65 (by decide) ?_
            refine lv_icmp_ne (tgt := 76) hx hb dX12_length_66 (by decide) (fun c_1463 => ?_) (fun c_1463 => ?_)
            · have n_1463 : N_1458 ≠ 2 := n_neq (a := N_1458) (b := 2) c_1463 (by omega) (by decide)
              refine lv_aload_n hx hb dX12_length_76 rfl (lv_at hl 0 rfl) ?_
              obtain ⟨fa_1464, hi_1464, wd_1464, mo_1464, tb_1464, dp_1464, many_1464, grt_1464, lst_1464, nou_1464, rm_1464, rb_1464, pr_1464, wo_1464, es1464, p0_1464, p1_1464, p2_1464, p3_1464, p4_1464⟩ := getr_M hI_1460
              have hq2_1465 : wd_1464 = wd := n_eq ((show nI wd_1464 = rdI (en_1460 0) 2 from by rw [es1464]; rfl).trans (hkp_1460.2.1.trans (show rdI (en 0) 2 = nI wd from by rw [es1456]; rfl))) (by omega) (by omega)
              have hq3_1465 : mo_1464 = mo := n_eq ((show nI mo_1464 = rdI (en_1460 0) 3 from by rw [es1464]; rfl).trans (hkp_1460.2.2.1.trans (show rdI (en 0) 3 = nI mo from by rw [es1456]; rfl))) (by omega) (by omega)
              have hq4_1465 : tb_1464 = tb := n_eq ((show nI tb_1464 = rdI (en_1460 0) 4 from by rw [es1464]; rfl).trans (hkp_1460.2.2.2.1.trans (show rdI (en 0) 4 = nI tb from by rw [es1456]; rfl))) (by omega) (by omega)
              have hq30_1465 : wo_1464 = wo := n_eq ((show nI wo_1464 = rdI (en_1460 0) 30 from by rw [es1464]; rfl).trans (hkp_1460.2.2.2.2.2.trans (show rdI (en 0) 30 = nI wo from by rw [es1456]; rfl))) (by omega) (by omega)
              rw [hq2_1465, hq3_1465, hq4_1465, hq30_1465] at es1464
              refine hp_get hx hb hts ix12 hown hK hh (q := 0) rfl (hI.1 _ (by decide)) es1464 rfl 18 (by decide) (hts _ tw_897) (fun _ h9 => h9) rfl dX12_length_77 ?_
              exact hp_lretM hx hb hr hlocks hh (⟨hI_1460, hf_1460, hkp_1460⟩) dX12_length_80
            · have n_1463 : N_1458 = 2 := n_eq (a := N_1458) (b := 2) c_1463 (by omega) (by decide)
              refine lv_aload_n hx hb dX12_length_69 rfl (lv_at hl 0 rfl) ?_
              obtain ⟨fa_1466, hi_1466, wd_1466, mo_1466, tb_1466, dp_1466, many_1466, grt_1466, lst_1466, nou_1466, rm_1466, rb_1466, pr_1466, wo_1466, es1466, p0_1466, p1_1466, p2_1466, p3_1466, p4_1466⟩ := getr_M hI_1460
              have hq2_1467 : wd_1466 = wd := n_eq ((show nI wd_1466 = rdI (en_1460 0) 2 from by rw [es1466]; rfl).trans (hkp_1460.2.1.trans (show rdI (en 0) 2 = nI wd from by rw [es1456]; rfl))) (by omega) (by omega)
              have hq3_1467 : mo_1466 = mo := n_eq ((show nI mo_1466 = rdI (en_1460 0) 3 from by rw [es1466]; rfl).trans (hkp_1460.2.2.1.trans (show rdI (en 0) 3 = nI mo from by rw [es1456]; rfl))) (by omega) (by omega)
              have hq4_1467 : tb_1466 = tb := n_eq ((show nI tb_1466 = rdI (en_1460 0) 4 from by rw [es1466]; rfl).trans (hkp_1460.2.2.2.1.trans (show rdI (en 0) 4 = nI tb from by rw [es1456]; rfl))) (by omega) (by omega)
              have hq30_1467 : wo_1466 = wo := n_eq ((show nI wo_1466 = rdI (en_1460 0) 30 from by rw [es1466]; rfl).trans (hkp_1460.2.2.2.2.2.trans (show rdI (en 0) 30 = nI wo from by rw [es1456]; rfl))) (by omega) (by omega)
              rw [hq2_1467, hq3_1467, hq4_1467, hq30_1467] at es1466
              refine hp_get hx hb hts ix12 hown hK hh (q := 0) rfl (hI.1 _ (by decide)) es1466 rfl 17 (by decide) (hts _ tw_896) (fun _ h9 => h9) rfl dX12_length_70 ?_
              refine lv_goto (tgt := 80) hx hb dX12_length_73 (by decide) ?_
              exact hp_lretM hx hb hr hlocks hh (⟨hI_1460, hf_1460, hkp_1460⟩) dX12_length_80
          · have n_1462 : N_1458 = 1 := n_eq (a := N_1458) (b := 1) c_1462 (by omega) (by decide)
            refine lv_aload_n hx hb dX12_length_57 rfl (lv_at hl 0 rfl) ?_
            obtain ⟨fa_1468, hi_1468, wd_1468, mo_1468, tb_1468, dp_1468, many_1468, grt_1468, lst_1468, nou_1468, rm_1468, rb_1468, pr_1468, wo_1468, es1468, p0_1468, p1_1468, p2_1468, p3_1468, p4_1468⟩ := getr_M hI_1460
            have hq2_1469 : wd_1468 = wd := n_eq ((show nI wd_1468 = rdI (en_1460 0) 2 from by rw [es1468]; rfl).trans (hkp_1460.2.1.trans (show rdI (en 0) 2 = nI wd from by rw [es1456]; rfl))) (by omega) (by omega)
            have hq3_1469 : mo_1468 = mo := n_eq ((show nI mo_1468 = rdI (en_1460 0) 3 from by rw [es1468]; rfl).trans (hkp_1460.2.2.1.trans (show rdI (en 0) 3 = nI mo from by rw [es1456]; rfl))) (by omega) (by omega)
            have hq4_1469 : tb_1468 = tb := n_eq ((show nI tb_1468 = rdI (en_1460 0) 4 from by rw [es1468]; rfl).trans (hkp_1460.2.2.2.1.trans (show rdI (en 0) 4 = nI tb from by rw [es1456]; rfl))) (by omega) (by omega)
            have hq30_1469 : wo_1468 = wo := n_eq ((show nI wo_1468 = rdI (en_1460 0) 30 from by rw [es1468]; rfl).trans (hkp_1460.2.2.2.2.2.trans (show rdI (en 0) 30 = nI wo from by rw [es1456]; rfl))) (by omega) (by omega)
            rw [hq2_1469, hq3_1469, hq4_1469, hq30_1469] at es1468
            refine hp_get hx hb hts ix12 hown hK hh (q := 0) rfl (hI.1 _ (by decide)) es1468 rfl 16 (by decide) (hts _ tw_895) (fun _ h9 => h9) rfl dX12_length_58 ?_
            refine lv_goto (tgt := 80) hx hb dX12_length_61 (by decide) ?_
            exact hp_lretM hx hb hr hlocks hh (⟨hI_1460, hf_1460, hkp_1460⟩) dX12_length_80
        · have n_1461 : N_1458 = 0 := n_eq (a := N_1458) (b := 0) c_1461 (by omega) (by decide)
          refine lv_aload_n hx hb dX12_length_45 rfl (lv_at hl 0 rfl) ?_
          obtain ⟨fa_1470, hi_1470, wd_1470, mo_1470, tb_1470, dp_1470, many_1470, grt_1470, lst_1470, nou_1470, rm_1470, rb_1470, pr_1470, wo_1470, es1470, p0_1470, p1_1470, p2_1470, p3_1470, p4_1470⟩ := getr_M hI_1460
          have hq2_1471 : wd_1470 = wd := n_eq ((show nI wd_1470 = rdI (en_1460 0) 2 from by rw [es1470]; rfl).trans (hkp_1460.2.1.trans (show rdI (en 0) 2 = nI wd from by rw [es1456]; rfl))) (by omega) (by omega)
          have hq3_1471 : mo_1470 = mo := n_eq ((show nI mo_1470 = rdI (en_1460 0) 3 from by rw [es1470]; rfl).trans (hkp_1460.2.2.1.trans (show rdI (en 0) 3 = nI mo from by rw [es1456]; rfl))) (by omega) (by omega)
          have hq4_1471 : tb_1470 = tb := n_eq ((show nI tb_1470 = rdI (en_1460 0) 4 from by rw [es1470]; rfl).trans (hkp_1460.2.2.2.1.trans (show rdI (en 0) 4 = nI tb from by rw [es1456]; rfl))) (by omega) (by omega)
          have hq30_1471 : wo_1470 = wo := n_eq ((show nI wo_1470 = rdI (en_1460 0) 30 from by rw [es1470]; rfl).trans (hkp_1460.2.2.2.2.2.trans (show rdI (en 0) 30 = nI wo from by rw [es1456]; rfl))) (by omega) (by omega)
          rw [hq2_1471, hq3_1471, hq4_1471, hq30_1471] at es1470
          refine hp_get hx hb hts ix12 hown hK hh (q := 0) rfl (hI.1 _ (by decide)) es1470 rfl 15 (by decide) (hts _ tw_894) (fun _ h9 => h9) rfl dX12_length_46 ?_
          refine lv_goto (tgt := 80) hx hb dX12_length_49 (by decide) ?_
          exact hp_lretM hx hb hr hlocks hh (⟨hI_1460, hf_1460, hkp_1460⟩) dX12_length_80
      · obtain rfl : r_1459 = 1 := hb_1459
        refine lv_if_eq (tgt := 36) hx hb dX12_length_29 (by decide) (fun c_0 => absurd c_0 (by decide)) (fun _ => ?_)
        refine lv_ldc2 hx hb hown (hts _ tw_1015) dX12_length_32 ?_
        exact hp_lretM hx hb hr hlocks hh (⟨hI_1459, hf_1459, hkp_1459⟩) dX12_length_35
    · obtain rfl : r_1458 = 0 := Eq.trans hw_1458 (if_neg (fun q => hp_1458 ((wj_32 (by decide) (by decide)).mp q)))
      refine lv_if_eq (tgt := 32) hx hb dX12_length_21 (by decide) (fun _ => ?_) (fun c_0 => absurd c_0 (by decide))
      refine lv_ldc2 hx hb hown (hts _ tw_1015) dX12_length_32 ?_
      exact hp_lretM hx hb hr hlocks hh (⟨hI, hf0, (KP_rf en)⟩) dX12_length_35
  · obtain rfl : r_1457 = 0 := Eq.trans hw_1457 (if_neg (fun q => hp_1457 ((wj_32 (by decide) (by decide)).mp q)))
    refine lv_if_eq (tgt := 32) hx hb dX12_length_9 (by decide) (fun _ => ?_) (fun c_0 => absurd c_0 (by decide))
    refine lv_ldc2 hx hb hown (hts _ tw_1015) dX12_length_32 ?_
    exact hp_lretM hx hb hr hlocks hh (⟨hI, hf0, (KP_rf en)⟩) dX12_length_35
theorem kw_X12_length {R : Room} {s : State} {args : Array Value} {own : String} {idx : Nat} (hts : ∀ w ∈ TB, w.before args s = true) (hl : Cond.methodLink own idx yX12_length ∈ TB) (hR : 4 + 1 ≤ R.frames ∧ 8 + (3 + 11) + 40 * 4 ≤ R.locals) : CallW R s args own RX12 idx yX12_length cX12_length 3 (some .long) (Cond.code yX12_length cX12_length 3 (some .long) :: TB) (rmN 4) 0 0 2 := cwV 2 hts (TB_V hl tw_1021 tw_1022 tw_9 tw_1023) rfl rfl rfl (by decide +kernel) hR
set_option maxHeartbeats 4000000 in
set_option maxRecDepth 100000 in
/-- X12_extreme -/
theorem c_X12_extreme (l : Launch) (D : va_G) (cy : Nat → ClassId) (sz : Nat) (cs : List Nat) (ad : Nat → Nat) (en : Nat → va_E) (hI : RX cy cs ad en) (n9 z9 i9 : Int32)   : Met l yX12_extreme (Cond.code yX12_extreme cX12_extreme 4 (some .int) :: TB) (rmN 4) (va_Pc [.ref (ad 0), .int n9, .int z9, .int i9] (Pre D cy cs ad en sz)) (va_Qi (S := Nat → va_E) (fun r en1 => RX cy cs ad en1 ∧ (∀ c, (c ≠ 0 ∧ c ≠ 6 ∧ c ≠ 7 ∧ c ≠ 8 ∧ c ≠ 9 ∧ c ≠ 10 ∧ c ≠ 11) → en1 c = en c) ∧ KP en en1) (PostM D cs ad) (Af cs ad sz)) 0 0 (Af cs ad sz) := by
  refine Met.ofW (cc := cX12_extreme) (maxL := 4) (ret := (some .int)) (by decide) rfl ?_
  intro p e s m args below meth c s₁ B hml hv
  obtain ⟨rfl, hsz, hP, hK, hD0⟩ := hv
  have hx := B.exec
  have hb := B.bytes
  have hr := B.returns
  have hts : ∀ w ∈ TB, w.before _ s = true := fun w h => atoms_spec (ws := _ :: TB) B.pre w (List.mem_cons_of_mem _ h)
  have hown : s.vm.findClass RX12 = some m.cls := findClass_of_methodNamed B.named
  have hlocks := B.notSynchronized
  have hh : Hp D (Af cs ad sz) (Af cs ad sz) s.heap s.heap [] cs ad en := ⟨hP, Af_self hD0, va_S.rf⟩
  have hA : ∀ q : Nat, s.heap.size ≤ q → Af cs ad sz q := fun q h => Or.inr (by rw [hsz] at h; exact h)
  have hl := lv_entry ([.ref (ad 0), .int n9, .int z9, .int i9]) (n := 4) (Nat.le_of_ble_eq_true rfl)
  rw [lg_entry_eq]
  generalize (lg_sl ([.ref (ad 0), .int n9, .int z9, .int i9]) ++ List.replicate (4 - (lg_sl ([.ref (ad 0), .int n9, .int z9, .int i9])).length) Slot.unset).toArray = ls at hl ⊢
  have hl : lv_has ls 4 [(0, .ref (ad 0)), (1, .int n9), (2, .int z9), (3, .int i9)] := hl
  have hf0 : ∀ c, (c ≠ 0 ∧ c ≠ 6 ∧ c ≠ 7 ∧ c ≠ 8 ∧ c ≠ 9 ∧ c ≠ 10 ∧ c ≠ 11) → en c = en c := fun _ _ => rfl
  obtain ⟨fa, hi, wd, mo, tb, dp, many, grt, lst, nou, rm, rb, pr, wo, es1472, hwd2, hwd3, hmo, htb, hwo⟩ := getr_M hI
  refine lv_iload_n hx hb dX12_extreme_0 rfl (lv_at hl 1 rfl) ?_
  refine lv_i2l hx hb dX12_extreme_1 rfl ?_
  refine lv_lconst (v := 1) hx hb dX12_extreme_2 (by decide) ?_
  refine lv_ldc2 hx hb hown (hts _ tw_1024) dX12_extreme_3 ?_
  refine hp_callRi (va_runS (As := [.long n9.toInt64, .long 1, .long 8]) (rest := []) ⟨hx, hb, hml, hown, hts⟩ (c_X12_within l D cy _ cs ad en n9.toInt64 1 8) (kw_X12_within hts tw_985 ⟨by decide, by decide⟩) (preS_of hh hK) rfl rfl hl.1 rfl (lv_room (Nat.le_of_ble_eq_true rfl)) dX12_extreme_6 ⟨Nat.le_of_ble_eq_true rfl, Nat.le_of_ble_eq_true rfl⟩) hh hA (fun r_1473 H locs hw_1473 hh => ?_)
  rcases Decidable.em (wi n9 1 8) with hp_1473 | hp_1473
  · obtain rfl : r_1473 = 1 := Eq.trans hw_1473 (if_pos ((wj_32 (by decide) (by decide)).mpr hp_1473))
    obtain ⟨N_1473, rfl, hA_1473, hB_1473⟩ := wi_natB hp_1473 1 8 (by decide) (by decide)
    refine lv_if_eq (tgt := 35) hx hb dX12_extreme_9 (by decide) (fun c_0 => absurd c_0 (by decide)) (fun _ => ?_)
    refine lv_iload_n hx hb dX12_extreme_12 rfl (lv_at hl 2 rfl) ?_
    refine lv_i2l hx hb dX12_extreme_13 rfl ?_
    refine lv_lconst (v := 0) hx hb dX12_extreme_14 (by decide) ?_
    refine lv_lconst (v := 1) hx hb dX12_extreme_15 (by decide) ?_
    refine hp_callRi (va_runS (As := [.long z9.toInt64, .long 0, .long 1]) (rest := []) ⟨hx, hb, hml, hown, hts⟩ (c_X12_within l D cy _ cs ad en z9.toInt64 0 1) (kw_X12_within hts tw_985 ⟨by decide, by decide⟩) (preS_of hh hK) rfl rfl hl.1 rfl (lv_room (Nat.le_of_ble_eq_true rfl)) dX12_extreme_16 ⟨Nat.le_of_ble_eq_true rfl, Nat.le_of_ble_eq_true rfl⟩) hh hA (fun r_1474 H locs hw_1474 hh => ?_)
    rcases Decidable.em (wi z9 0 1) with hp_1474 | hp_1474
    · obtain rfl : r_1474 = 1 := Eq.trans hw_1474 (if_pos ((wj_32 (by decide) (by decide)).mpr hp_1474))
      obtain ⟨N_1474, rfl, hA_1474, hB_1474⟩ := wi_natB hp_1474 0 1 (by decide) (by decide)
      refine lv_if_eq (tgt := 35) hx hb dX12_extreme_19 (by decide) (fun c_0 => absurd c_0 (by decide)) (fun _ => ?_)
      refine lv_iload_n hx hb dX12_extreme_22 rfl (lv_at hl 3 rfl) ?_
      refine lv_i2l hx hb dX12_extreme_23 rfl ?_
      refine lv_lconst (v := 0) hx hb dX12_extreme_24 (by decide) ?_
      refine lv_iload_n hx hb dX12_extreme_25 rfl (lv_at hl 1 rfl) ?_
      refine lv_i2l hx hb dX12_extreme_26 rfl ?_
      refine lv_lconst (v := 1) hx hb dX12_extreme_27 (by decide) ?_
      refine lv_lsub hx hb dX12_extreme_28 ?_
      refine hp_callRi (va_runS (As := [.long i9.toInt64, .long 0, .long ((nI N_1473).toInt64 - 1)]) (rest := []) ⟨hx, hb, hml, hown, hts⟩ (c_X12_within l D cy _ cs ad en i9.toInt64 0 ((nI N_1473).toInt64 - 1)) (kw_X12_within hts tw_985 ⟨by decide, by decide⟩) (preS_of hh hK) rfl rfl hl.1 rfl (lv_room (Nat.le_of_ble_eq_true rfl)) dX12_extreme_29 ⟨Nat.le_of_ble_eq_true rfl, Nat.le_of_ble_eq_true rfl⟩) hh hA (fun r_1475 H locs hw_1475 hh => ?_)
      rcases Decidable.em (0 ≤ i9.toInt ∧ i9.toInt < (N_1473 : Int)) with hp_1475 | hp_1475
      · obtain rfl : r_1475 = 1 := Eq.trans hw_1475 (if_pos ((wj_m1 (by omega)).mpr hp_1475))
        obtain ⟨N_1475, rfl, hB_1475⟩ := has_nat hp_1475
        refine lv_if_ne (tgt := 38) hx hb dX12_extreme_32 (by decide) (fun _ => ?_) (fun c_0 => absurd c_0 (by decide))
        refine lv_aload_n hx hb dX12_extreme_38 rfl (lv_at hl 0 rfl) ?_
        refine lv_iload_n hx hb dX12_extreme_39 rfl (lv_at hl 1 rfl) ?_
        refine hp_callMi (va_runV (As := [.int (nI N_1473)]) (rest := []) ⟨hx, hb, hml, hown, hts⟩ (c_X12_isSpent l D cy _ cs ad en hI N_1473 (by omega)) (kw_X12_isSpent hts tw_1025 ⟨by decide, by decide⟩) (preV_of hh hK (hI.1 _ (by decide)) es1472 rfl) rfl rfl hl.1 rfl (lv_room (Nat.le_of_ble_eq_true rfl)) dX12_extreme_40 ⟨Nat.le_of_ble_eq_true rfl, Nat.le_of_ble_eq_true rfl⟩) hh hA (fun r_1476 H locs en_1476 hw_1476 hh => ?_)
        obtain ⟨hI_1476, hu_1476, hx_1476⟩ := hw_1476
        have es1472_1476 : en_1476 0 = .inr (11, [.int fa, .int hi, .int (nI wd), .int (nI mo), .int (nI tb), .ref (ad 1), .ref (ad 2), .ref (ad 3), .ref (ad 4), .ref (ad 5), .ref (ad 6), .ref (ad 7), .ref (ad 8), .ref (ad 9), .int dp, .long many, .long grt, .long lst, .long nou, .ref (ad 10), .ref (ad 11), .ref (ad 12), .int rm, .long rb, .ref (ad 13), .int pr, .ref (ad 14), .ref (ad 15), .ref (ad 16), .ref (ad 17), .int (nI wo), .ref (ad 18), .ref (ad 19)]) := (hu_1476 0 (by omega)).trans es1472
        have hf_1476 : ∀ c, (c ≠ 0 ∧ c ≠ 6 ∧ c ≠ 7 ∧ c ≠ 8 ∧ c ≠ 9 ∧ c ≠ 10 ∧ c ≠ 11) → en_1476 c = en c := fun c hc => (hu_1476 c (by omega)).trans (hf0 c hc)
        have hkp_1476 : KP en en_1476 := KP_same (KP_rf en) (hu_1476 0 (by omega))
        have hw_1476 := hx_1476
        rcases hw_1476 with hb_1476 | hb_1476
        · obtain rfl : r_1476 = 0 := hb_1476
          refine lv_if_eq (tgt := 49) hx hb dX12_extreme_43 (by decide) (fun _ => ?_) (fun c_0 => absurd c_0 (by decide))
          refine lv_aload_n hx hb dX12_extreme_49 rfl (lv_at hl 0 rfl) ?_
          refine lv_iload_n hx hb dX12_extreme_50 rfl (lv_at hl 1 rfl) ?_
          refine hp_callMv (va_runV (As := [.int (nI N_1473)]) (rest := []) ⟨hx, hb, hml, hown, hts⟩ (c_X12_goThrough l D cy _ cs ad en_1476 hI_1476 N_1473 (by omega) (by omega)) (kw_X12_goThrough hts tw_1034 ⟨by decide, by decide⟩) (preV_of hh hK (hI.1 _ (by decide)) es1472_1476 rfl) rfl rfl hl.1 rfl (lv_room (Nat.le_of_ble_eq_true rfl)) dX12_extreme_51 ⟨Nat.le_of_ble_eq_true rfl, Nat.le_of_ble_eq_true rfl⟩) hh hA (fun H locs en_1477 hw_1477 hh => ?_)
          obtain ⟨hI_1477, hu_1477, hx_1477⟩ := hw_1477
          have hf_1477 : ∀ c, (c ≠ 0 ∧ c ≠ 6 ∧ c ≠ 7 ∧ c ≠ 8 ∧ c ≠ 9 ∧ c ≠ 10 ∧ c ≠ 11) → en_1477 c = en c := fun c hc => (hu_1477 c (by omega)).trans (hf_1476 c hc)
          have hkp_1477 : KP en en_1477 := KP_tr hkp_1476 hx_1477
          refine lv_aload_n hx hb dX12_extreme_54 rfl (lv_at hl 0 rfl) ?_
          obtain ⟨fa_1478, hi_1478, wd_1478, mo_1478, tb_1478, dp_1478, many_1478, grt_1478, lst_1478, nou_1478, rm_1478, rb_1478, pr_1478, wo_1478, es1478, p0_1478, p1_1478, p2_1478, p3_1478, p4_1478⟩ := getr_M hI_1477
          have hq2_1479 : wd_1478 = wd := n_eq ((show nI wd_1478 = rdI (en_1477 0) 2 from by rw [es1478]; rfl).trans (hkp_1477.2.1.trans (show rdI (en 0) 2 = nI wd from by rw [es1472]; rfl))) (by omega) (by omega)
          have hq3_1479 : mo_1478 = mo := n_eq ((show nI mo_1478 = rdI (en_1477 0) 3 from by rw [es1478]; rfl).trans (hkp_1477.2.2.1.trans (show rdI (en 0) 3 = nI mo from by rw [es1472]; rfl))) (by omega) (by omega)
          have hq4_1479 : tb_1478 = tb := n_eq ((show nI tb_1478 = rdI (en_1477 0) 4 from by rw [es1478]; rfl).trans (hkp_1477.2.2.2.1.trans (show rdI (en 0) 4 = nI tb from by rw [es1472]; rfl))) (by omega) (by omega)
          have hq30_1479 : wo_1478 = wo := n_eq ((show nI wo_1478 = rdI (en_1477 0) 30 from by rw [es1478]; rfl).trans (hkp_1477.2.2.2.2.2.trans (show rdI (en 0) 30 = nI wo from by rw [es1472]; rfl))) (by omega) (by omega)
          rw [hq2_1479, hq3_1479, hq4_1479, hq30_1479] at es1478
          refine hp_get hx hb hts ix12 hown hK hh (q := 0) rfl (hI.1 _ (by decide)) es1478 rfl 15 (by decide) (hts _ tw_894) (fun _ h9 => h9) rfl dX12_extreme_55 ?_
          refine lv_lconst (v := 0) hx hb dX12_extreme_58 (by decide) ?_
          refine W.lcmp hx hb dX12_extreme_59 ?_
          refine lv_if_ne (tgt := 68) hx hb dX12_extreme_60 (by decide) (fun c_1480 => ?_) (fun c_1480 => ?_)
          · refine lv_iload_n hx hb dX12_extreme_68 rfl (lv_at hl 2 rfl) ?_
            refine lv_if_ne (tgt := 81) hx hb dX12_extreme_69 (by decide) (fun c_1481 => ?_) (fun c_1481 => ?_)
            · have n_1481 : N_1474 ≠ 0 := n_neq (a := N_1474) (b := 0) c_1481 (by omega) (by decide)
              refine lv_aload_n hx hb dX12_extreme_81 rfl (lv_at hl 0 rfl) ?_
              refine hp_get hx hb hts ix12 hown hK hh (q := 0) rfl (hI.1 _ (by decide)) es1478 rfl 20 (by decide) (hts _ tw_899) (fun _ h9 => h9) rfl dX12_extreme_82 ?_
              refine lv_iload_n hx hb dX12_extreme_85 rfl (lv_at hl 3 rfl) ?_
              obtain ⟨f_1482, es1482⟩ := getr_sm hI_1477
              refine hp_iald hx hb hK hh (q := 11) rfl (hI.1 _ (by decide)) es1482 (vp_in_nI (n := N_1475) (by omega) (by decide)) dX12_extreme_86 ?_
              rw [nI_clamp (n := N_1475) (by omega)]
              exact hp_iretM hx hb hr rfl hlocks hh (⟨hI_1477, hf_1477, hkp_1477⟩) dX12_extreme_87
            · have n_1481 : N_1474 = 0 := n_eq (a := N_1474) (b := 0) c_1481 (by omega) (by decide)
              refine lv_aload_n hx hb dX12_extreme_72 rfl (lv_at hl 0 rfl) ?_
              refine hp_get hx hb hts ix12 hown hK hh (q := 0) rfl (hI.1 _ (by decide)) es1478 rfl 19 (by decide) (hts _ tw_898) (fun _ h9 => h9) rfl dX12_extreme_73 ?_
              refine lv_iload_n hx hb dX12_extreme_76 rfl (lv_at hl 3 rfl) ?_
              obtain ⟨f_1483, es1483⟩ := getr_gt hI_1477
              refine hp_iald hx hb hK hh (q := 10) rfl (hI.1 _ (by decide)) es1483 (vp_in_nI (n := N_1475) (by omega) (by decide)) dX12_extreme_77 ?_
              rw [nI_clamp (n := N_1475) (by omega)]
              refine lv_goto (tgt := 87) hx hb dX12_extreme_78 (by decide) ?_
              exact hp_iretM hx hb hr rfl hlocks hh (⟨hI_1477, hf_1477, hkp_1477⟩) dX12_extreme_87
          · refine lv_bipush (v := (-9)) hx hb dX12_extreme_63 (by decide) ?_
            refine lv_goto (tgt := 87) hx hb dX12_extreme_65 (by decide) ?_
            exact hp_iretM hx hb hr rfl hlocks hh (⟨hI_1477, hf_1477, hkp_1477⟩) dX12_extreme_87
        · obtain rfl : r_1476 = 1 := hb_1476
          refine lv_if_eq (tgt := 49) hx hb dX12_extreme_43 (by decide) (fun c_0 => absurd c_0 (by decide)) (fun _ => ?_)
          refine lv_bipush (v := (-6)) hx hb dX12_extreme_46 (by decide) ?_
          exact hp_iretM hx hb hr rfl hlocks hh (⟨hI_1476, hf_1476, hkp_1476⟩) dX12_extreme_48
      · obtain rfl : r_1475 = 0 := Eq.trans hw_1475 (if_neg (fun q => hp_1475 ((wj_m1 (by omega)).mp q)))
        refine lv_if_ne (tgt := 38) hx hb dX12_extreme_32 (by decide) (fun c_0 => absurd c_0 (by decide)) (fun _ => ?_)
        refine lv_bipush (v := (-2)) hx hb dX12_extreme_35 (by decide) ?_
        exact hp_iretM hx hb hr rfl hlocks hh (⟨hI, hf0, (KP_rf en)⟩) dX12_extreme_37
    · obtain rfl : r_1474 = 0 := Eq.trans hw_1474 (if_neg (fun q => hp_1474 ((wj_32 (by decide) (by decide)).mp q)))
      refine lv_if_eq (tgt := 35) hx hb dX12_extreme_19 (by decide) (fun _ => ?_) (fun c_0 => absurd c_0 (by decide))
      refine lv_bipush (v := (-2)) hx hb dX12_extreme_35 (by decide) ?_
      exact hp_iretM hx hb hr rfl hlocks hh (⟨hI, hf0, (KP_rf en)⟩) dX12_extreme_37
  · obtain rfl : r_1473 = 0 := Eq.trans hw_1473 (if_neg (fun q => hp_1473 ((wj_32 (by decide) (by decide)).mp q)))
    refine lv_if_eq (tgt := 35) hx hb dX12_extreme_9 (by decide) (fun _ => ?_) (fun c_0 => absurd c_0 (by decide))
    refine lv_bipush (v := (-2)) hx hb dX12_extreme_35 (by decide) ?_
    exact hp_iretM hx hb hr rfl hlocks hh (⟨hI, hf0, (KP_rf en)⟩) dX12_extreme_37
theorem kw_X12_extreme {R : Room} {s : State} {args : Array Value} {own : String} {idx : Nat} (hts : ∀ w ∈ TB, w.before args s = true) (hl : Cond.methodLink own idx yX12_extreme ∈ TB) (hR : 4 + 1 ≤ R.frames ∧ 8 + (4 + 11) + 40 * 4 ≤ R.locals) : CallW R s args own RX12 idx yX12_extreme cX12_extreme 4 (some .int) (Cond.code yX12_extreme cX12_extreme 4 (some .int) :: TB) (rmN 4) 0 0 3 := cwV 3 hts (TB_V hl tw_1066 tw_1067 tw_9 tw_1068) rfl rfl rfl (by decide +kernel) hR
set_option maxHeartbeats 4000000 in
set_option maxRecDepth 100000 in
/-- findRings -/
theorem c_X12_findRings (l : Launch) (D : va_G) (cy : Nat → ClassId) (sz : Nat) (cs : List Nat) (ad : Nat → Nat) (en : Nat → va_E) (hI : RX cy cs ad en) (n : Nat) (hn1 : 1 ≤ n) (hn8 : n ≤ 8)   : Met l yX12_findRings (Cond.code yX12_findRings cX12_findRings 3 none :: TB) (rmN 3) (va_Pc [.ref (ad 0), .int (nI n)] (Pre D cy cs ad en sz)) (va_Qv (S := Nat → va_E) (fun en1 => RX cy cs ad en1 ∧ (∀ c, (c ≠ 0 ∧ c ≠ 6 ∧ c ≠ 7 ∧ c ≠ 12 ∧ c ≠ 13) → en1 c = en c) ∧ KP en en1) (PostM D cs ad) (Af cs ad sz)) 0 0 (Af cs ad sz) := by
  refine Met.ofW (cc := cX12_findRings) (maxL := 3) (ret := none) (by decide) rfl ?_
  intro p e s m args below meth c s₁ B hml hv
  obtain ⟨rfl, hsz, hP, hK, hD0⟩ := hv
  have hx := B.exec
  have hb := B.bytes
  have hr := B.returns
  have hts : ∀ w ∈ TB, w.before _ s = true := fun w h => atoms_spec (ws := _ :: TB) B.pre w (List.mem_cons_of_mem _ h)
  have hown : s.vm.findClass RX12 = some m.cls := findClass_of_methodNamed B.named
  have hlocks := B.notSynchronized
  have hh : Hp D (Af cs ad sz) (Af cs ad sz) s.heap s.heap [] cs ad en := ⟨hP, Af_self hD0, va_S.rf⟩
  have hA : ∀ q : Nat, s.heap.size ≤ q → Af cs ad sz q := fun q h => Or.inr (by rw [hsz] at h; exact h)
  have hl := lv_entry ([.ref (ad 0), .int (nI n)]) (n := 3) (Nat.le_of_ble_eq_true rfl)
  rw [lg_entry_eq]
  generalize (lg_sl ([.ref (ad 0), .int (nI n)]) ++ List.replicate (3 - (lg_sl ([.ref (ad 0), .int (nI n)])).length) Slot.unset).toArray = ls at hl ⊢
  have hl : lv_has ls 3 [(0, .ref (ad 0)), (1, .int (nI n))] := hl
  have hf0 : ∀ c, (c ≠ 0 ∧ c ≠ 6 ∧ c ≠ 7 ∧ c ≠ 12 ∧ c ≠ 13) → en c = en c := fun _ _ => rfl
  obtain ⟨fa, hi, wd, mo, tb, dp, many, grt, lst, nou, rm, rb, pr, wo, es1484, hwd2, hwd3, hmo, htb, hwo⟩ := getr_M hI
  refine lv_aload_n hx hb dX12_findRings_0 rfl (lv_at hl 0 rfl) ?_
  refine lv_iconst (v := 0) hx hb dX12_findRings_1 (by decide) ?_
  refine hp_put hx hb hts ix12 tyX12 tyX12_ok nmX12 hown hK hh (q := 0) rfl (hI.1 _ (by decide)) es1484 rfl 22 (by decide) (hts _ tw_901) (fun _ h9 => h9) rfl (ty := .int) (by decide +kernel) rfl rfl (Nat.le_of_ble_eq_true rfl) dX12_findRings_2 (fun H locs en_1485 hen_1485 hh => ?_)
  have es1484_1485 : en_1485 0 = .inr (11, [.int fa, .int hi, .int (nI wd), .int (nI mo), .int (nI tb), .ref (ad 1), .ref (ad 2), .ref (ad 3), .ref (ad 4), .ref (ad 5), .ref (ad 6), .ref (ad 7), .ref (ad 8), .ref (ad 9), .int dp, .long many, .long grt, .long lst, .long nou, .ref (ad 10), .ref (ad 11), .ref (ad 12), .int 0, .long rb, .ref (ad 13), .int pr, .ref (ad 14), .ref (ad 15), .ref (ad 16), .ref (ad 17), .int (nI wo), .ref (ad 18), .ref (ad 19)]) := by rw [hen_1485]; exact va_up_self _ _ _
  have hI_1485 : RX cy cs ad en_1485 := by rw [hen_1485]; exact upr_M hI ⟨fa, hi, wd, mo, tb, dp, many, grt, lst, nou, 0, rb, pr, wo, rfl, hwd2, hwd3, hmo, htb, hwo⟩
  have hf_1485 : ∀ c, (c ≠ 0 ∧ c ≠ 6 ∧ c ≠ 7 ∧ c ≠ 12 ∧ c ≠ 13) → en_1485 c = en c := fun c hc => Eq.trans (show en_1485 c = en c from by rw [hen_1485, va_up_ne _ _ (by omega)]) (hf0 c hc)
  have hkp_1485 : KP en en_1485 := KP_fv (KP_rf en) es1484 es1484_1485 hi (nI wd) (nI mo) (nI tb) pr (nI wo) rfl rfl rfl rfl rfl rfl rfl rfl rfl rfl rfl rfl
  refine lv_aload_n hx hb dX12_findRings_5 rfl (lv_at hl 0 rfl) ?_
  refine lv_lconst (v := 0) hx hb dX12_findRings_6 (by decide) ?_
  refine hp_put hx hb hts ix12 tyX12 tyX12_ok nmX12 hown hK hh (q := 0) rfl (hI.1 _ (by decide)) es1484_1485 rfl 23 (by decide) (hts _ tw_902) (fun _ h9 => h9) rfl (ty := .long) (by decide +kernel) rfl rfl (Nat.le_of_ble_eq_true rfl) dX12_findRings_7 (fun H locs en_1486 hen_1486 hh => ?_)
  have es1484_1486 : en_1486 0 = .inr (11, [.int fa, .int hi, .int (nI wd), .int (nI mo), .int (nI tb), .ref (ad 1), .ref (ad 2), .ref (ad 3), .ref (ad 4), .ref (ad 5), .ref (ad 6), .ref (ad 7), .ref (ad 8), .ref (ad 9), .int dp, .long many, .long grt, .long lst, .long nou, .ref (ad 10), .ref (ad 11), .ref (ad 12), .int 0, .long 0, .ref (ad 13), .int pr, .ref (ad 14), .ref (ad 15), .ref (ad 16), .ref (ad 17), .int (nI wo), .ref (ad 18), .ref (ad 19)]) := by rw [hen_1486]; exact va_up_self _ _ _
  have hI_1486 : RX cy cs ad en_1486 := by rw [hen_1486]; exact upr_M hI_1485 ⟨fa, hi, wd, mo, tb, dp, many, grt, lst, nou, 0, 0, pr, wo, rfl, hwd2, hwd3, hmo, htb, hwo⟩
  have hf_1486 : ∀ c, (c ≠ 0 ∧ c ≠ 6 ∧ c ≠ 7 ∧ c ≠ 12 ∧ c ≠ 13) → en_1486 c = en c := fun c hc => Eq.trans (show en_1486 c = en_1485 c from by rw [hen_1486, va_up_ne _ _ (by omega)]) (hf_1485 c hc)
  have hkp_1486 : KP en en_1486 := KP_fv hkp_1485 es1484_1485 es1484_1486 hi (nI wd) (nI mo) (nI tb) pr (nI wo) rfl rfl rfl rfl rfl rfl rfl rfl rfl rfl rfl rfl
  refine lv_aload_n hx hb dX12_findRings_10 rfl (lv_at hl 0 rfl) ?_
  refine hp_callMv (va_runV (As := []) (rest := []) ⟨hx, hb, hml, hown, hts⟩ (c_X12_beginWords l D cy _ cs ad en_1486 hI_1486  ) (kw_X12_beginWords hts tw_1038 ⟨by decide, by decide⟩) (preV_of hh hK (hI.1 _ (by decide)) es1484_1486 rfl) rfl rfl hl.1 rfl (lv_room (Nat.le_of_ble_eq_true rfl)) dX12_findRings_11 ⟨Nat.le_of_ble_eq_true rfl, Nat.le_of_ble_eq_true rfl⟩) hh hA (fun H locs en_1487 hw_1487 hh => ?_)
  obtain ⟨hI_1487, hu_1487, hd0_1487, hg0_1487, hx_1487⟩ := hw_1487
  have hND_1487 : ND en_1487 n 0 0 := ⟨by omega, Or.inl hd0_1487, fun i h => absurd h (Nat.not_lt_zero i), by rw [hg0_1487]; decide, by omega⟩
  have hf_1487 : ∀ c, (c ≠ 0 ∧ c ≠ 6 ∧ c ≠ 7 ∧ c ≠ 12 ∧ c ≠ 13) → en_1487 c = en c := fun c hc => (hu_1487 c (by omega)).trans (hf_1486 c hc)
  have hkp_1487 : KP en en_1487 := KP_tr hkp_1486 hx_1487
  have loop_1488 : ∀ (fu mm1488 : Nat)  (d1488 : Nat) (u1488 : Nat) (en_1488 : Nat → va_E) (ls : Array Slot) (H : Heap) (locs : List Loc), mm1488 < fu → RX cy cs ad en_1488 → (∀ c, (c ≠ 0 ∧ c ≠ 6 ∧ c ≠ 7 ∧ c ≠ 12 ∧ c ≠ 13) → en_1488 c = en c) → (ND en_1488 n d1488 u1488) → (134217728 ≤ nmv (rdF (en_1488 7)) d1488 u1488 + mm1488) → (KP en en_1488) → lv_has ls 3 [(0, .ref (ad 0)), (1, .int (nI n))] → Hp D (Af cs ad sz) (Af cs ad sz) s.heap H locs cs ad en_1488 → W p l e (headSpec (Cond.code yX12_findRings cX12_findRings 3 none :: TB) (rmN 3)).room s m ([.ref (ad 0), .int (nI n)] : List Value).toArray below meth c H locs 0 0 (MQ below (va_Qv (S := Nat → va_E) (fun en1 => RX cy cs ad en1 ∧ (∀ c, (c ≠ 0 ∧ c ≠ 6 ∧ c ≠ 7 ∧ c ≠ 12 ∧ c ≠ 13) → en1 c = en c) ∧ KP en en1) (PostM D cs ad) (Af cs ad sz)) ([.ref (ad 0), .int (nI n)] : List Value).toArray s 0 0 (Af cs ad sz)) (F0 m 14 ls []) := by
    intro fu
    induction fu with
    | zero => intro mm1488 d1488 u1488 en_1488 ls H locs h2; exact absurd h2 (by omega)
    | succ fu ih_1488 =>
      intro mm1488 d1488 u1488 en_1488 ls H locs hmm_1488 hI_1488 hf_1488 i0_1488 i1_1488 i2_1488 hl hh
      have hlt_1488 := nmv_lt i0_1488.2.2 (by have h9 := i0_1488.1; omega)
      have hwd_1488 := i0_1488.1
      refine lv_aload_n hx hb dX12_findRings_14 rfl (lv_at hl 0 rfl) ?_
      refine lv_iload_n hx hb dX12_findRings_15 rfl (lv_at hl 1 rfl) ?_
      obtain ⟨fa_1489, hi_1489, wd_1489, mo_1489, tb_1489, dp_1489, many_1489, grt_1489, lst_1489, nou_1489, rm_1489, rb_1489, pr_1489, wo_1489, es1489, p0_1489, p1_1489, p2_1489, p3_1489, p4_1489⟩ := getr_M hI_1488
      have hq2_1490 : wd_1489 = wd := n_eq ((show nI wd_1489 = rdI (en_1488 0) 2 from by rw [es1489]; rfl).trans (i2_1488.2.1.trans (show rdI (en 0) 2 = nI wd from by rw [es1484]; rfl))) (by omega) (by omega)
      have hq3_1490 : mo_1489 = mo := n_eq ((show nI mo_1489 = rdI (en_1488 0) 3 from by rw [es1489]; rfl).trans (i2_1488.2.2.1.trans (show rdI (en 0) 3 = nI mo from by rw [es1484]; rfl))) (by omega) (by omega)
      have hq4_1490 : tb_1489 = tb := n_eq ((show nI tb_1489 = rdI (en_1488 0) 4 from by rw [es1489]; rfl).trans (i2_1488.2.2.2.1.trans (show rdI (en 0) 4 = nI tb from by rw [es1484]; rfl))) (by omega) (by omega)
      have hq30_1490 : wo_1489 = wo := n_eq ((show nI wo_1489 = rdI (en_1488 0) 30 from by rw [es1489]; rfl).trans (i2_1488.2.2.2.2.2.trans (show rdI (en 0) 30 = nI wo from by rw [es1484]; rfl))) (by omega) (by omega)
      rw [hq2_1490, hq3_1490, hq4_1490, hq30_1490] at es1489
      refine hp_callMi (va_runV (As := [.int (nI n)]) (rest := []) ⟨hx, hb, hml, hown, hts⟩ (c_X12_next l D cy _ cs ad en_1488 hI_1488 n (by omega) (by omega) d1488 u1488 i0_1488) (kw_X12_next hts tw_1046 ⟨by decide, by decide⟩) (preV_of hh hK (hI.1 _ (by decide)) es1489 rfl) rfl rfl hl.1 rfl (lv_room (Nat.le_of_ble_eq_true rfl)) dX12_findRings_16 ⟨Nat.le_of_ble_eq_true rfl, Nat.le_of_ble_eq_true rfl⟩) hh hA (fun r_1491 H locs en_1491 hw_1491 hh => ?_)
      obtain ⟨hI_1491, hu_1491, hx_1491, hkq_1491⟩ := hw_1491
      have hf_1491 : ∀ c, (c ≠ 0 ∧ c ≠ 6 ∧ c ≠ 7 ∧ c ≠ 12 ∧ c ≠ 13) → en_1491 c = en c := fun c hc => (hu_1491 c (by omega)).trans (hf_1488 c hc)
      have hkp_1491 : KP en en_1491 := KP_tr i2_1488 hkq_1491
      rcases hx_1491 with hr_1491 | ⟨hr_1491, u1_1491, hND_1491, hu1_1491, hnm_1491⟩
      · rw [hr_1491]
        refine lv_if_eq (tgt := 131) hx hb dX12_findRings_19 (by decide) (fun _ => ?_) (fun c_0 => absurd c_0 (by decide))
        exact hp_vretM hx hb hr hlocks hh (⟨hI_1491, hf_1491, hkp_1491⟩) dX12_findRings_131
      · rw [hr_1491]
        have hall_1491 := NW_all hND_1491.2.2 (by omega) hu1_1491
        refine lv_if_eq (tgt := 131) hx hb dX12_findRings_19 (by decide) (fun c_0 => absurd c_0 (by decide)) (fun _ => ?_)
        refine lv_iconst (v := 0) hx hb dX12_findRings_22 (by decide) ?_
        refine lv_istore_n (lv' := [(2, .int 0), (0, .ref (ad 0)), (1, .int (nI n))]) hx hb dX12_findRings_23 rfl hl (by decide) rfl (fun ls hl => ?_)
        have loop_1492 : ∀ (fu j1492 : Nat)  (en_1492 : Nat → va_E) (ls : Array Slot) (H : Heap) (locs : List Loc), 0 ≤ j1492 → j1492 ≤ n → n < j1492 + fu → RX cy cs ad en_1492 → (∀ c, (c ≠ 0 ∧ c ≠ 6 ∧ c ≠ 7 ∧ c ≠ 12 ∧ c ≠ 13) → en_1492 c = en c) → (KP en en_1492) → (SD en_1491 en_1492) → lv_has ls 3 [(2, .int (nI j1492)), (0, .ref (ad 0)), (1, .int (nI n))] → Hp D (Af cs ad sz) (Af cs ad sz) s.heap H locs cs ad en_1492 → W p l e (headSpec (Cond.code yX12_findRings cX12_findRings 3 none :: TB) (rmN 3)).room s m ([.ref (ad 0), .int (nI n)] : List Value).toArray below meth c H locs 0 0 (MQ below (va_Qv (S := Nat → va_E) (fun en1 => RX cy cs ad en1 ∧ (∀ c, (c ≠ 0 ∧ c ≠ 6 ∧ c ≠ 7 ∧ c ≠ 12 ∧ c ≠ 13) → en1 c = en c) ∧ KP en en1) (PostM D cs ad) (Af cs ad sz)) ([.ref (ad 0), .int (nI n)] : List Value).toArray s 0 0 (Af cs ad sz)) (F0 m 24 ls []) := by
          intro fu
          induction fu with
          | zero => intro j1492  en_1492 ls H locs h0 h1 h2; exact absurd h2 (by omega)
          | succ fu ih_1492 =>
            intro j1492  en_1492 ls H locs hj0_1492 hj_1492 hfu_1492 hI_1492 hf_1492 i0_1492 i1_1492 hl hh
            refine lv_iload_n hx hb dX12_findRings_24 rfl (lv_at hl 0 rfl) ?_
            refine lv_iload_n hx hb dX12_findRings_25 rfl (lv_at hl 2 rfl) ?_
            refine lv_icmp_ge (tgt := 47) hx hb dX12_findRings_26 (by decide) (fun c_1493 => ?_) (fun c_1493 => ?_)
            · have n_1493 : n ≤ j1492 := n_le (a := n) (b := j1492) c_1493 (by omega) (by omega)
              refine lv_aload_n hx hb dX12_findRings_47 rfl (lv_at hl 1 rfl) ?_
              refine lv_iload_n hx hb dX12_findRings_48 rfl (lv_at hl 2 rfl) ?_
              obtain ⟨fa_1494, hi_1494, wd_1494, mo_1494, tb_1494, dp_1494, many_1494, grt_1494, lst_1494, nou_1494, rm_1494, rb_1494, pr_1494, wo_1494, es1494, p0_1494, p1_1494, p2_1494, p3_1494, p4_1494⟩ := getr_M hI_1492
              have hq2_1495 : wd_1494 = wd := n_eq ((show nI wd_1494 = rdI (en_1492 0) 2 from by rw [es1494]; rfl).trans (i0_1492.2.1.trans (show rdI (en 0) 2 = nI wd from by rw [es1484]; rfl))) (by omega) (by omega)
              have hq3_1495 : mo_1494 = mo := n_eq ((show nI mo_1494 = rdI (en_1492 0) 3 from by rw [es1494]; rfl).trans (i0_1492.2.2.1.trans (show rdI (en 0) 3 = nI mo from by rw [es1484]; rfl))) (by omega) (by omega)
              have hq4_1495 : tb_1494 = tb := n_eq ((show nI tb_1494 = rdI (en_1492 0) 4 from by rw [es1494]; rfl).trans (i0_1492.2.2.2.1.trans (show rdI (en 0) 4 = nI tb from by rw [es1484]; rfl))) (by omega) (by omega)
              have hq30_1495 : wo_1494 = wo := n_eq ((show nI wo_1494 = rdI (en_1492 0) 30 from by rw [es1494]; rfl).trans (i0_1492.2.2.2.2.2.trans (show rdI (en 0) 30 = nI wo from by rw [es1484]; rfl))) (by omega) (by omega)
              rw [hq2_1495, hq3_1495, hq4_1495, hq30_1495] at es1494
              refine hp_callRi (va_runV (As := [.int (nI n)]) (rest := []) ⟨hx, hb, hml, hown, hts⟩ (c_X12_isRing l D cy _ cs ad en_1492 hI_1492 n (by omega) (by omega)) (kw_X12_isRing hts tw_1077 ⟨by decide, by decide⟩) (preV_of hh hK (hI.1 _ (by decide)) es1494 rfl) rfl rfl hl.1 rfl (lv_room (Nat.le_of_ble_eq_true rfl)) dX12_findRings_49 ⟨Nat.le_of_ble_eq_true rfl, Nat.le_of_ble_eq_true rfl⟩) hh hA (fun r_1496 H locs hw_1496 hh => ?_)
              rcases hw_1496 with ⟨hb_1496, hy_1496⟩ | ⟨hb_1496, hy_1496⟩
              · obtain rfl : r_1496 = 1 := hb_1496
                refine lv_if_ne (tgt := 58) hx hb dX12_findRings_52 (by decide) (fun _ => ?_) (fun c_0 => absurd c_0 (by decide))
                have join_1497 : ∀  (en_1497 : Nat → va_E) (ls : Array Slot) (H : Heap) (locs : List Loc), RX cy cs ad en_1497 → (∀ c, (c ≠ 0 ∧ c ≠ 6 ∧ c ≠ 7 ∧ c ≠ 12 ∧ c ≠ 13) → en_1497 c = en c) → KP en en_1497 → SD en_1491 en_1497 → lv_has ls 3 [(0, .ref (ad 0)), (1, .int (nI n))] → Hp D (Af cs ad sz) (Af cs ad sz) s.heap H locs cs ad en_1497 → W p l e (headSpec (Cond.code yX12_findRings cX12_findRings 3 none :: TB) (rmN 3)).room s m ([.ref (ad 0), .int (nI n)] : List Value).toArray below meth c H locs 0 0 (MQ below (va_Qv (S := Nat → va_E) (fun en1 => RX cy cs ad en1 ∧ (∀ c, (c ≠ 0 ∧ c ≠ 6 ∧ c ≠ 7 ∧ c ≠ 12 ∧ c ≠ 13) → en1 c = en c) ∧ KP en en1) (PostM D cs ad) (Af cs ad sz)) ([.ref (ad 0), .int (nI n)] : List Value).toArray s 0 0 (Af cs ad sz)) (F0 m 118 ls []) := by
                  intro  en_1497 ls H locs hI_1497 hf_1497 hkp_1497 hsd_1497  hl hh
                  refine lv_aload_n hx hb dX12_findRings_118 rfl (lv_at hl 0 rfl) ?_
                  refine lv_dup hx hb dX12_findRings_119 rfl ?_
                  obtain ⟨fa_1498, hi_1498, wd_1498, mo_1498, tb_1498, dp_1498, many_1498, grt_1498, lst_1498, nou_1498, rm_1498, rb_1498, pr_1498, wo_1498, es1498, p0_1498, p1_1498, p2_1498, p3_1498, p4_1498⟩ := getr_M hI_1497
                  have hq2_1499 : wd_1498 = wd := n_eq ((show nI wd_1498 = rdI (en_1497 0) 2 from by rw [es1498]; rfl).trans (hkp_1497.2.1.trans (show rdI (en 0) 2 = nI wd from by rw [es1484]; rfl))) (by omega) (by omega)
                  have hq3_1499 : mo_1498 = mo := n_eq ((show nI mo_1498 = rdI (en_1497 0) 3 from by rw [es1498]; rfl).trans (hkp_1497.2.2.1.trans (show rdI (en 0) 3 = nI mo from by rw [es1484]; rfl))) (by omega) (by omega)
                  have hq4_1499 : tb_1498 = tb := n_eq ((show nI tb_1498 = rdI (en_1497 0) 4 from by rw [es1498]; rfl).trans (hkp_1497.2.2.2.1.trans (show rdI (en 0) 4 = nI tb from by rw [es1484]; rfl))) (by omega) (by omega)
                  have hq30_1499 : wo_1498 = wo := n_eq ((show nI wo_1498 = rdI (en_1497 0) 30 from by rw [es1498]; rfl).trans (hkp_1497.2.2.2.2.2.trans (show rdI (en 0) 30 = nI wo from by rw [es1484]; rfl))) (by omega) (by omega)
                  rw [hq2_1499, hq3_1499, hq4_1499, hq30_1499] at es1498
                  refine hp_get hx hb hts ix12 hown hK hh (q := 0) rfl (hI.1 _ (by decide)) es1498 rfl 22 (by decide) (hts _ tw_901) (fun _ h9 => h9) rfl dX12_findRings_120 ?_
                  refine lv_iconst (v := 1) hx hb dX12_findRings_123 (by decide) ?_
                  refine lv_iadd hx hb dX12_findRings_124 ?_
                  refine hp_put hx hb hts ix12 tyX12 tyX12_ok nmX12 hown hK hh (q := 0) rfl (hI.1 _ (by decide)) es1498 rfl 22 (by decide) (hts _ tw_901) (fun _ h9 => h9) rfl (ty := .int) (by decide +kernel) rfl rfl (Nat.le_of_ble_eq_true rfl) dX12_findRings_125 (fun H locs en_1500 hen_1500 hh => ?_)
                  have es1498_1500 : en_1500 0 = .inr (11, [.int fa_1498, .int hi_1498, .int (nI wd), .int (nI mo), .int (nI tb), .ref (ad 1), .ref (ad 2), .ref (ad 3), .ref (ad 4), .ref (ad 5), .ref (ad 6), .ref (ad 7), .ref (ad 8), .ref (ad 9), .int dp_1498, .long many_1498, .long grt_1498, .long lst_1498, .long nou_1498, .ref (ad 10), .ref (ad 11), .ref (ad 12), .int (rm_1498 + 1), .long rb_1498, .ref (ad 13), .int pr_1498, .ref (ad 14), .ref (ad 15), .ref (ad 16), .ref (ad 17), .int (nI wo), .ref (ad 18), .ref (ad 19)]) := by rw [hen_1500]; exact va_up_self _ _ _
                  have hI_1500 : RX cy cs ad en_1500 := by rw [hen_1500]; exact upr_M hI_1497 ⟨fa_1498, hi_1498, wd, mo, tb, dp_1498, many_1498, grt_1498, lst_1498, nou_1498, (rm_1498 + 1), rb_1498, pr_1498, wo, rfl, hwd2, hwd3, hmo, htb, hwo⟩
                  have hf_1500 : ∀ c, (c ≠ 0 ∧ c ≠ 6 ∧ c ≠ 7 ∧ c ≠ 12 ∧ c ≠ 13) → en_1500 c = en c := fun c hc => Eq.trans (show en_1500 c = en_1497 c from by rw [hen_1500, va_up_ne _ _ (by omega)]) (hf_1497 c hc)
                  have hkp_1500 : KP en en_1500 := KP_fv hkp_1497 es1498 es1498_1500 hi_1498 (nI wd) (nI mo) (nI tb) pr_1498 (nI wo) rfl rfl rfl rfl rfl rfl rfl rfl rfl rfl rfl rfl
                  have hsd_1500 : SD en_1491 en_1500 := SD_fv hsd_1497 es1498 es1498_1500 (show en_1500 7 = en_1497 7 from by rw [hen_1500, va_up_ne _ _ (by decide)]) dp_1498 rfl rfl
                  refine lv_goto (tgt := 14) hx hb dX12_findRings_128 (by decide) ?_
                  exact ih_1488 (mm1488 - 1) (n - 1) u1_1491 en_1500 ls H locs (by omega) hI_1500 hf_1500 (ND_sd hND_1491 hsd_1500) (by rw [hsd_1500.2]; have h1 := hnm_1491; have h2 := i1_1488; omega) (hkp_1500) (lv_sub hl [0, 1] rfl) hh
                refine lv_aload_n hx hb dX12_findRings_58 rfl (lv_at hl 1 rfl) ?_
                refine hp_get hx hb hts ix12 hown hK hh (q := 0) rfl (hI.1 _ (by decide)) es1494 rfl 22 (by decide) (hts _ tw_901) (fun _ h9 => h9) rfl dX12_findRings_59 ?_
                refine lv_if_eq (tgt := 84) hx hb dX12_findRings_62 (by decide) (fun c_1501 => ?_) (fun c_1501 => ?_)
                · refine lv_aload_n hx hb dX12_findRings_84 rfl (lv_at hl 1 rfl) ?_
                  refine lv_aload_n hx hb dX12_findRings_85 rfl (lv_at hl 1 rfl) ?_
                  refine lv_iload_n hx hb dX12_findRings_86 rfl (lv_at hl 2 rfl) ?_
                  refine hp_callRl (va_runV (As := [.int (nI n)]) (rest := [.ref (ad 0)]) ⟨hx, hb, hml, hown, hts⟩ (c_X12_trackAt l D cy _ cs ad en_1492 hI_1492 n (by omega)) (kw_X12_trackAt hts tw_1093 ⟨by decide, by decide⟩) (preV_of hh hK (hI.1 _ (by decide)) es1494 rfl) rfl rfl hl.1 rfl (lv_room (Nat.le_of_ble_eq_true rfl)) dX12_findRings_87 ⟨Nat.le_of_ble_eq_true rfl, Nat.le_of_ble_eq_true rfl⟩) hh hA (fun r_1502 H locs hw_1502 hh => ?_)
                  refine hp_put hx hb hts ix12 tyX12 tyX12_ok nmX12 hown hK hh (q := 0) rfl (hI.1 _ (by decide)) es1494 rfl 23 (by decide) (hts _ tw_902) (fun _ h9 => h9) rfl (ty := .long) (by decide +kernel) rfl rfl (Nat.le_of_ble_eq_true rfl) dX12_findRings_90 (fun H locs en_1503 hen_1503 hh => ?_)
                  have es1494_1503 : en_1503 0 = .inr (11, [.int fa_1494, .int hi_1494, .int (nI wd), .int (nI mo), .int (nI tb), .ref (ad 1), .ref (ad 2), .ref (ad 3), .ref (ad 4), .ref (ad 5), .ref (ad 6), .ref (ad 7), .ref (ad 8), .ref (ad 9), .int dp_1494, .long many_1494, .long grt_1494, .long lst_1494, .long nou_1494, .ref (ad 10), .ref (ad 11), .ref (ad 12), .int rm_1494, .long r_1502, .ref (ad 13), .int pr_1494, .ref (ad 14), .ref (ad 15), .ref (ad 16), .ref (ad 17), .int (nI wo), .ref (ad 18), .ref (ad 19)]) := by rw [hen_1503]; exact va_up_self _ _ _
                  have hI_1503 : RX cy cs ad en_1503 := by rw [hen_1503]; exact upr_M hI_1492 ⟨fa_1494, hi_1494, wd, mo, tb, dp_1494, many_1494, grt_1494, lst_1494, nou_1494, rm_1494, r_1502, pr_1494, wo, rfl, hwd2, hwd3, hmo, htb, hwo⟩
                  have hf_1503 : ∀ c, (c ≠ 0 ∧ c ≠ 6 ∧ c ≠ 7 ∧ c ≠ 12 ∧ c ≠ 13) → en_1503 c = en c := fun c hc => Eq.trans (show en_1503 c = en_1492 c from by rw [hen_1503, va_up_ne _ _ (by omega)]) (hf_1492 c hc)
                  have hkp_1503 : KP en en_1503 := KP_fv i0_1492 es1494 es1494_1503 hi_1494 (nI wd) (nI mo) (nI tb) pr_1494 (nI wo) rfl rfl rfl rfl rfl rfl rfl rfl rfl rfl rfl rfl
                  have hsd_1503 : SD en_1491 en_1503 := SD_fv i1_1492 es1494 es1494_1503 (show en_1503 7 = en_1492 7 from by rw [hen_1503, va_up_ne _ _ (by decide)]) dp_1494 rfl rfl
                  refine lv_iconst (v := 0) hx hb dX12_findRings_93 (by decide) ?_
                  refine lv_istore_n (lv' := [(2, .int 0), (0, .ref (ad 0)), (1, .int (nI n))]) hx hb dX12_findRings_94 rfl hl (by decide) rfl (fun ls hl => ?_)
                  have loop_1504 : ∀ (fu j1504 : Nat)  (en_1504 : Nat → va_E) (ls : Array Slot) (H : Heap) (locs : List Loc), 0 ≤ j1504 → j1504 ≤ n → n < j1504 + fu → RX cy cs ad en_1504 → (∀ c, (c ≠ 0 ∧ c ≠ 6 ∧ c ≠ 7 ∧ c ≠ 12 ∧ c ≠ 13) → en_1504 c = en c) → (KP en en_1504) → (SD en_1491 en_1504) → lv_has ls 3 [(2, .int (nI j1504)), (0, .ref (ad 0)), (1, .int (nI n))] → Hp D (Af cs ad sz) (Af cs ad sz) s.heap H locs cs ad en_1504 → W p l e (headSpec (Cond.code yX12_findRings cX12_findRings 3 none :: TB) (rmN 3)).room s m ([.ref (ad 0), .int (nI n)] : List Value).toArray below meth c H locs 0 0 (MQ below (va_Qv (S := Nat → va_E) (fun en1 => RX cy cs ad en1 ∧ (∀ c, (c ≠ 0 ∧ c ≠ 6 ∧ c ≠ 7 ∧ c ≠ 12 ∧ c ≠ 13) → en1 c = en c) ∧ KP en en1) (PostM D cs ad) (Af cs ad sz)) ([.ref (ad 0), .int (nI n)] : List Value).toArray s 0 0 (Af cs ad sz)) (F0 m 95 ls []) := by
                    intro fu
                    induction fu with
                    | zero => intro j1504  en_1504 ls H locs h0 h1 h2; exact absurd h2 (by omega)
                    | succ fu ih_1504 =>
                      intro j1504  en_1504 ls H locs hj0_1504 hj_1504 hfu_1504 hI_1504 hf_1504 i0_1504 i1_1504 hl hh
                      refine lv_iload_n hx hb dX12_findRings_95 rfl (lv_at hl 0 rfl) ?_
                      refine lv_iload_n hx hb dX12_findRings_96 rfl (lv_at hl 2 rfl) ?_
                      refine lv_icmp_ge (tgt := 118) hx hb dX12_findRings_97 (by decide) (fun c_1505 => ?_) (fun c_1505 => ?_)
                      · have n_1505 : n ≤ j1504 := n_le (a := n) (b := j1504) c_1505 (by omega) (by omega)
                        exact join_1497  en_1504 ls _ _ hI_1504 hf_1504 i0_1504 i1_1504 (lv_sub hl [1, 2] rfl) hh
                      · have n_1505 : j1504 < n := n_nle (a := n) (b := j1504) c_1505 (by omega) (by omega)
                        refine lv_aload_n hx hb dX12_findRings_100 rfl (lv_at hl 1 rfl) ?_
                        obtain ⟨fa_1506, hi_1506, wd_1506, mo_1506, tb_1506, dp_1506, many_1506, grt_1506, lst_1506, nou_1506, rm_1506, rb_1506, pr_1506, wo_1506, es1506, p0_1506, p1_1506, p2_1506, p3_1506, p4_1506⟩ := getr_M hI_1504
                        have hq2_1507 : wd_1506 = wd := n_eq ((show nI wd_1506 = rdI (en_1504 0) 2 from by rw [es1506]; rfl).trans (i0_1504.2.1.trans (show rdI (en 0) 2 = nI wd from by rw [es1484]; rfl))) (by omega) (by omega)
                        have hq3_1507 : mo_1506 = mo := n_eq ((show nI mo_1506 = rdI (en_1504 0) 3 from by rw [es1506]; rfl).trans (i0_1504.2.2.1.trans (show rdI (en 0) 3 = nI mo from by rw [es1484]; rfl))) (by omega) (by omega)
                        have hq4_1507 : tb_1506 = tb := n_eq ((show nI tb_1506 = rdI (en_1504 0) 4 from by rw [es1506]; rfl).trans (i0_1504.2.2.2.1.trans (show rdI (en 0) 4 = nI tb from by rw [es1484]; rfl))) (by omega) (by omega)
                        have hq30_1507 : wo_1506 = wo := n_eq ((show nI wo_1506 = rdI (en_1504 0) 30 from by rw [es1506]; rfl).trans (i0_1504.2.2.2.2.2.trans (show rdI (en 0) 30 = nI wo from by rw [es1484]; rfl))) (by omega) (by omega)
                        rw [hq2_1507, hq3_1507, hq4_1507, hq30_1507] at es1506
                        refine hp_get hx hb hts ix12 hown hK hh (q := 0) rfl (hI.1 _ (by decide)) es1506 rfl 24 (by decide) (hts _ tw_903) (fun _ h9 => h9) rfl dX12_findRings_101 ?_
                        refine lv_iload_n hx hb dX12_findRings_104 rfl (lv_at hl 0 rfl) ?_
                        refine lv_aload_n hx hb dX12_findRings_105 rfl (lv_at hl 1 rfl) ?_
                        refine hp_get hx hb hts ix12 hown hK hh (q := 0) rfl (hI.1 _ (by decide)) es1506 rfl 11 (by decide) (hts _ tw_890) (fun _ h9 => h9) rfl dX12_findRings_106 ?_
                        refine lv_iload_n hx hb dX12_findRings_109 rfl (lv_at hl 0 rfl) ?_
                        obtain ⟨f_1508, es1508⟩ := getr_nw hI_1504
                        refine hp_iald hx hb hK hh (q := 7) rfl (hI.1 _ (by decide)) es1508 (vp_in_nI (n := j1504) (by omega) (by decide)) dX12_findRings_110 ?_
                        rw [nI_clamp (n := j1504) (by omega)]
                        obtain ⟨v_1509, hv_1509, hve_1509⟩ := hall_1491 j1504 (by omega)
                        rw [show f_1508 j1504 = nI v_1509 from (show f_1508 j1504 = rdF (en_1491 7) j1504 from by rw [← i1_1504.2, es1508]; rfl).trans hve_1509]
                        obtain ⟨f_1510, es1510⟩ := getr_rw hI_1504
                        refine hp_iast hx hb hK hh (q := 13) rfl (hI.1 _ (by decide)) es1510 (vp_in_nI (n := j1504) (by omega) (by decide)) dX12_findRings_111 (fun H locs en_1511 hen_1511 hh => ?_)
                        rw [nI_clamp (n := j1504) (by omega)] at hen_1511
                        have es1506_1511 : en_1511 0 = .inr (11, [.int fa_1506, .int hi_1506, .int (nI wd), .int (nI mo), .int (nI tb), .ref (ad 1), .ref (ad 2), .ref (ad 3), .ref (ad 4), .ref (ad 5), .ref (ad 6), .ref (ad 7), .ref (ad 8), .ref (ad 9), .int dp_1506, .long many_1506, .long grt_1506, .long lst_1506, .long nou_1506, .ref (ad 10), .ref (ad 11), .ref (ad 12), .int rm_1506, .long rb_1506, .ref (ad 13), .int pr_1506, .ref (ad 14), .ref (ad 15), .ref (ad 16), .ref (ad 17), .int (nI wo), .ref (ad 18), .ref (ad 19)]) := by rw [hen_1511, va_up_ne _ _ (by decide)]; exact es1506
                        have es1508_1511 : en_1511 7 = .inl (cy 0, 13, .inl f_1508) := by rw [hen_1511, va_up_ne _ _ (by decide)]; exact es1508
                        have es1510_1511 : en_1511 13 = .inl (cy 0, 12, .inl (upd f_1510 j1504 (nI v_1509))) := by rw [hen_1511]; exact va_up_self _ _ _
                        have hI_1511 : RX cy cs ad en_1511 := by rw [hen_1511]; exact upr_rw hI_1504 ⟨(upd f_1510 j1504 (nI v_1509)), rfl⟩
                        have hf_1511 : ∀ c, (c ≠ 0 ∧ c ≠ 6 ∧ c ≠ 7 ∧ c ≠ 12 ∧ c ≠ 13) → en_1511 c = en c := fun c hc => Eq.trans (show en_1511 c = en_1504 c from by rw [hen_1511, va_up_ne _ _ (by omega)]) (hf_1504 c hc)
                        have hkp_1511 : KP en en_1511 := KP_same i0_1504 (show en_1511 0 = en_1504 0 from by rw [hen_1511, va_up_ne _ _ (by decide)])
                        have hsd_1511 : SD en_1491 en_1511 := SD_same i1_1504 (show en_1511 0 = en_1504 0 from by rw [hen_1511, va_up_ne _ _ (by decide)]) (show en_1511 7 = en_1504 7 from by rw [hen_1511, va_up_ne _ _ (by decide)])
                        refine lv_iinc (v := (nI (j1504 + 1))) (lv' := [(2, .int (nI (j1504 + 1))), (0, .ref (ad 0)), (1, .int (nI n))]) hx hb dX12_findRings_112 hl (k := 0) rfl (nI_1 _) (by decide) rfl (fun ls hl => ?_)
                        refine lv_goto (tgt := 95) hx hb dX12_findRings_115 (by decide) ?_
                        exact ih_1504 ((j1504 + 1))  en_1511 ls H locs (by omega) (by omega) (by omega) hI_1511 hf_1511 (hkp_1511) (hsd_1511) (lv_sub hl [0, 1, 2] rfl) hh
                  exact loop_1504 (n + 1) 0  en_1503 ls _ _ (Nat.le_refl _) (by omega) (by omega) hI_1503 hf_1503 (hkp_1503) (hsd_1503) (lv_sub hl [0, 1, 2] rfl) hh
                · refine lv_aload_n hx hb dX12_findRings_65 rfl (lv_at hl 1 rfl) ?_
                  refine lv_iload_n hx hb dX12_findRings_66 rfl (lv_at hl 2 rfl) ?_
                  refine hp_callRl (va_runV (As := [.int (nI n)]) (rest := []) ⟨hx, hb, hml, hown, hts⟩ (c_X12_trackAt l D cy _ cs ad en_1492 hI_1492 n (by omega)) (kw_X12_trackAt hts tw_1093 ⟨by decide, by decide⟩) (preV_of hh hK (hI.1 _ (by decide)) es1494 rfl) rfl rfl hl.1 rfl (lv_room (Nat.le_of_ble_eq_true rfl)) dX12_findRings_67 ⟨Nat.le_of_ble_eq_true rfl, Nat.le_of_ble_eq_true rfl⟩) hh hA (fun r_1512 H locs hw_1512 hh => ?_)
                  refine hp_callRl (va_runS (As := [.long r_1512]) (rest := []) ⟨hx, hb, hml, hown, hts⟩ (c_X12_sizeOf l D cy _ cs ad en_1492 hI_1492 r_1512 ) (kw_X12_sizeOf hts tw_1062 ⟨by decide, by decide⟩) (preS_of hh hK) rfl rfl hl.1 rfl (lv_room (Nat.le_of_ble_eq_true rfl)) dX12_findRings_70 ⟨Nat.le_of_ble_eq_true rfl, Nat.le_of_ble_eq_true rfl⟩) hh hA (fun r_1513 H locs hw_1513 hh => ?_)
                  obtain rfl : r_1513 = absR r_1512 := hw_1513
                  refine lv_aload_n hx hb dX12_findRings_73 rfl (lv_at hl 1 rfl) ?_
                  refine hp_get hx hb hts ix12 hown hK hh (q := 0) rfl (hI.1 _ (by decide)) es1494 rfl 23 (by decide) (hts _ tw_902) (fun _ h9 => h9) rfl dX12_findRings_74 ?_
                  refine hp_callRl (va_runS (As := [.long rb_1494]) (rest := [.long (absR r_1512)]) ⟨hx, hb, hml, hown, hts⟩ (c_X12_sizeOf l D cy _ cs ad en_1492 hI_1492 rb_1494 ) (kw_X12_sizeOf hts tw_1062 ⟨by decide, by decide⟩) (preS_of hh hK) rfl rfl hl.1 rfl (lv_room (Nat.le_of_ble_eq_true rfl)) dX12_findRings_77 ⟨Nat.le_of_ble_eq_true rfl, Nat.le_of_ble_eq_true rfl⟩) hh hA (fun r_1514 H locs hw_1514 hh => ?_)
                  obtain rfl : r_1514 = absR rb_1494 := hw_1514
                  refine W.lcmp hx hb dX12_findRings_80 ?_
                  refine lv_if_le (tgt := 118) hx hb dX12_findRings_81 (by decide) (fun c_1515 => ?_) (fun c_1515 => ?_)
                  · exact join_1497  en_1492 ls _ _ hI_1492 hf_1492 i0_1492 i1_1492 (lv_sub hl [1, 2] rfl) hh
                  · refine lv_aload_n hx hb dX12_findRings_84 rfl (lv_at hl 1 rfl) ?_
                    refine lv_aload_n hx hb dX12_findRings_85 rfl (lv_at hl 1 rfl) ?_
                    refine lv_iload_n hx hb dX12_findRings_86 rfl (lv_at hl 2 rfl) ?_
                    refine hp_callRl (va_runV (As := [.int (nI n)]) (rest := [.ref (ad 0)]) ⟨hx, hb, hml, hown, hts⟩ (c_X12_trackAt l D cy _ cs ad en_1492 hI_1492 n (by omega)) (kw_X12_trackAt hts tw_1093 ⟨by decide, by decide⟩) (preV_of hh hK (hI.1 _ (by decide)) es1494 rfl) rfl rfl hl.1 rfl (lv_room (Nat.le_of_ble_eq_true rfl)) dX12_findRings_87 ⟨Nat.le_of_ble_eq_true rfl, Nat.le_of_ble_eq_true rfl⟩) hh hA (fun r_1516 H locs hw_1516 hh => ?_)
                    refine hp_put hx hb hts ix12 tyX12 tyX12_ok nmX12 hown hK hh (q := 0) rfl (hI.1 _ (by decide)) es1494 rfl 23 (by decide) (hts _ tw_902) (fun _ h9 => h9) rfl (ty := .long) (by decide +kernel) rfl rfl (Nat.le_of_ble_eq_true rfl) dX12_findRings_90 (fun H locs en_1517 hen_1517 hh => ?_)
                    have es1494_1517 : en_1517 0 = .inr (11, [.int fa_1494, .int hi_1494, .int (nI wd), .int (nI mo), .int (nI tb), .ref (ad 1), .ref (ad 2), .ref (ad 3), .ref (ad 4), .ref (ad 5), .ref (ad 6), .ref (ad 7), .ref (ad 8), .ref (ad 9), .int dp_1494, .long many_1494, .long grt_1494, .long lst_1494, .long nou_1494, .ref (ad 10), .ref (ad 11), .ref (ad 12), .int rm_1494, .long r_1516, .ref (ad 13), .int pr_1494, .ref (ad 14), .ref (ad 15), .ref (ad 16), .ref (ad 17), .int (nI wo), .ref (ad 18), .ref (ad 19)]) := by rw [hen_1517]; exact va_up_self _ _ _
                    have hI_1517 : RX cy cs ad en_1517 := by rw [hen_1517]; exact upr_M hI_1492 ⟨fa_1494, hi_1494, wd, mo, tb, dp_1494, many_1494, grt_1494, lst_1494, nou_1494, rm_1494, r_1516, pr_1494, wo, rfl, hwd2, hwd3, hmo, htb, hwo⟩
                    have hf_1517 : ∀ c, (c ≠ 0 ∧ c ≠ 6 ∧ c ≠ 7 ∧ c ≠ 12 ∧ c ≠ 13) → en_1517 c = en c := fun c hc => Eq.trans (show en_1517 c = en_1492 c from by rw [hen_1517, va_up_ne _ _ (by omega)]) (hf_1492 c hc)
                    have hkp_1517 : KP en en_1517 := KP_fv i0_1492 es1494 es1494_1517 hi_1494 (nI wd) (nI mo) (nI tb) pr_1494 (nI wo) rfl rfl rfl rfl rfl rfl rfl rfl rfl rfl rfl rfl
                    have hsd_1517 : SD en_1491 en_1517 := SD_fv i1_1492 es1494 es1494_1517 (show en_1517 7 = en_1492 7 from by rw [hen_1517, va_up_ne _ _ (by decide)]) dp_1494 rfl rfl
                    refine lv_iconst (v := 0) hx hb dX12_findRings_93 (by decide) ?_
                    refine lv_istore_n (lv' := [(2, .int 0), (0, .ref (ad 0)), (1, .int (nI n))]) hx hb dX12_findRings_94 rfl hl (by decide) rfl (fun ls hl => ?_)
                    have loop_1518 : ∀ (fu j1518 : Nat)  (en_1518 : Nat → va_E) (ls : Array Slot) (H : Heap) (locs : List Loc), 0 ≤ j1518 → j1518 ≤ n → n < j1518 + fu → RX cy cs ad en_1518 → (∀ c, (c ≠ 0 ∧ c ≠ 6 ∧ c ≠ 7 ∧ c ≠ 12 ∧ c ≠ 13) → en_1518 c = en c) → (KP en en_1518) → (SD en_1491 en_1518) → lv_has ls 3 [(2, .int (nI j1518)), (0, .ref (ad 0)), (1, .int (nI n))] → Hp D (Af cs ad sz) (Af cs ad sz) s.heap H locs cs ad en_1518 → W p l e (headSpec (Cond.code yX12_findRings cX12_findRings 3 none :: TB) (rmN 3)).room s m ([.ref (ad 0), .int (nI n)] : List Value).toArray below meth c H locs 0 0 (MQ below (va_Qv (S := Nat → va_E) (fun en1 => RX cy cs ad en1 ∧ (∀ c, (c ≠ 0 ∧ c ≠ 6 ∧ c ≠ 7 ∧ c ≠ 12 ∧ c ≠ 13) → en1 c = en c) ∧ KP en en1) (PostM D cs ad) (Af cs ad sz)) ([.ref (ad 0), .int (nI n)] : List Value).toArray s 0 0 (Af cs ad sz)) (F0 m 95 ls []) := by
                      intro fu
                      induction fu with
                      | zero => intro j1518  en_1518 ls H locs h0 h1 h2; exact absurd h2 (by omega)
                      | succ fu ih_1518 =>
                        intro j1518  en_1518 ls H locs hj0_1518 hj_1518 hfu_1518 hI_1518 hf_1518 i0_1518 i1_1518 hl hh
                        refine lv_iload_n hx hb dX12_findRings_95 rfl (lv_at hl 0 rfl) ?_
                        refine lv_iload_n hx hb dX12_findRings_96 rfl (lv_at hl 2 rfl) ?_
                        refine lv_icmp_ge (tgt := 118) hx hb dX12_findRings_97 (by decide) (fun c_1519 => ?_) (fun c_1519 => ?_)
                        · have n_1519 : n ≤ j1518 := n_le (a := n) (b := j1518) c_1519 (by omega) (by omega)
                          exact join_1497  en_1518 ls _ _ hI_1518 hf_1518 i0_1518 i1_1518 (lv_sub hl [1, 2] rfl) hh
                        · have n_1519 : j1518 < n := n_nle (a := n) (b := j1518) c_1519 (by omega) (by omega)
                          refine lv_aload_n hx hb dX12_findRings_100 rfl (lv_at hl 1 rfl) ?_
                          obtain ⟨fa_1520, hi_1520, wd_1520, mo_1520, tb_1520, dp_1520, many_1520, grt_1520, lst_1520, nou_1520, rm_1520, rb_1520, pr_1520, wo_1520, es1520, p0_1520, p1_1520, p2_1520, p3_1520, p4_1520⟩ := getr_M hI_1518
                          have hq2_1521 : wd_1520 = wd := n_eq ((show nI wd_1520 = rdI (en_1518 0) 2 from by rw [es1520]; rfl).trans (i0_1518.2.1.trans (show rdI (en 0) 2 = nI wd from by rw [es1484]; rfl))) (by omega) (by omega)
                          have hq3_1521 : mo_1520 = mo := n_eq ((show nI mo_1520 = rdI (en_1518 0) 3 from by rw [es1520]; rfl).trans (i0_1518.2.2.1.trans (show rdI (en 0) 3 = nI mo from by rw [es1484]; rfl))) (by omega) (by omega)
                          have hq4_1521 : tb_1520 = tb := n_eq ((show nI tb_1520 = rdI (en_1518 0) 4 from by rw [es1520]; rfl).trans (i0_1518.2.2.2.1.trans (show rdI (en 0) 4 = nI tb from by rw [es1484]; rfl))) (by omega) (by omega)
                          have hq30_1521 : wo_1520 = wo := n_eq ((show nI wo_1520 = rdI (en_1518 0) 30 from by rw [es1520]; rfl).trans (i0_1518.2.2.2.2.2.trans (show rdI (en 0) 30 = nI wo from by rw [es1484]; rfl))) (by omega) (by omega)
                          rw [hq2_1521, hq3_1521, hq4_1521, hq30_1521] at es1520
                          refine hp_get hx hb hts ix12 hown hK hh (q := 0) rfl (hI.1 _ (by decide)) es1520 rfl 24 (by decide) (hts _ tw_903) (fun _ h9 => h9) rfl dX12_findRings_101 ?_
                          refine lv_iload_n hx hb dX12_findRings_104 rfl (lv_at hl 0 rfl) ?_
                          refine lv_aload_n hx hb dX12_findRings_105 rfl (lv_at hl 1 rfl) ?_
                          refine hp_get hx hb hts ix12 hown hK hh (q := 0) rfl (hI.1 _ (by decide)) es1520 rfl 11 (by decide) (hts _ tw_890) (fun _ h9 => h9) rfl dX12_findRings_106 ?_
                          refine lv_iload_n hx hb dX12_findRings_109 rfl (lv_at hl 0 rfl) ?_
                          obtain ⟨f_1522, es1522⟩ := getr_nw hI_1518
                          refine hp_iald hx hb hK hh (q := 7) rfl (hI.1 _ (by decide)) es1522 (vp_in_nI (n := j1518) (by omega) (by decide)) dX12_findRings_110 ?_
                          rw [nI_clamp (n := j1518) (by omega)]
                          obtain ⟨v_1523, hv_1523, hve_1523⟩ := hall_1491 j1518 (by omega)
                          rw [show f_1522 j1518 = nI v_1523 from (show f_1522 j1518 = rdF (en_1491 7) j1518 from by rw [← i1_1518.2, es1522]; rfl).trans hve_1523]
                          obtain ⟨f_1524, es1524⟩ := getr_rw hI_1518
                          refine hp_iast hx hb hK hh (q := 13) rfl (hI.1 _ (by decide)) es1524 (vp_in_nI (n := j1518) (by omega) (by decide)) dX12_findRings_111 (fun H locs en_1525 hen_1525 hh => ?_)
                          rw [nI_clamp (n := j1518) (by omega)] at hen_1525
                          have es1520_1525 : en_1525 0 = .inr (11, [.int fa_1520, .int hi_1520, .int (nI wd), .int (nI mo), .int (nI tb), .ref (ad 1), .ref (ad 2), .ref (ad 3), .ref (ad 4), .ref (ad 5), .ref (ad 6), .ref (ad 7), .ref (ad 8), .ref (ad 9), .int dp_1520, .long many_1520, .long grt_1520, .long lst_1520, .long nou_1520, .ref (ad 10), .ref (ad 11), .ref (ad 12), .int rm_1520, .long rb_1520, .ref (ad 13), .int pr_1520, .ref (ad 14), .ref (ad 15), .ref (ad 16), .ref (ad 17), .int (nI wo), .ref (ad 18), .ref (ad 19)]) := by rw [hen_1525, va_up_ne _ _ (by decide)]; exact es1520
                          have es1522_1525 : en_1525 7 = .inl (cy 0, 13, .inl f_1522) := by rw [hen_1525, va_up_ne _ _ (by decide)]; exact es1522
                          have es1524_1525 : en_1525 13 = .inl (cy 0, 12, .inl (upd f_1524 j1518 (nI v_1523))) := by rw [hen_1525]; exact va_up_self _ _ _
                          have hI_1525 : RX cy cs ad en_1525 := by rw [hen_1525]; exact upr_rw hI_1518 ⟨(upd f_1524 j1518 (nI v_1523)), rfl⟩
                          have hf_1525 : ∀ c, (c ≠ 0 ∧ c ≠ 6 ∧ c ≠ 7 ∧ c ≠ 12 ∧ c ≠ 13) → en_1525 c = en c := fun c hc => Eq.trans (show en_1525 c = en_1518 c from by rw [hen_1525, va_up_ne _ _ (by omega)]) (hf_1518 c hc)
                          have hkp_1525 : KP en en_1525 := KP_same i0_1518 (show en_1525 0 = en_1518 0 from by rw [hen_1525, va_up_ne _ _ (by decide)])
                          have hsd_1525 : SD en_1491 en_1525 := SD_same i1_1518 (show en_1525 0 = en_1518 0 from by rw [hen_1525, va_up_ne _ _ (by decide)]) (show en_1525 7 = en_1518 7 from by rw [hen_1525, va_up_ne _ _ (by decide)])
                          refine lv_iinc (v := (nI (j1518 + 1))) (lv' := [(2, .int (nI (j1518 + 1))), (0, .ref (ad 0)), (1, .int (nI n))]) hx hb dX12_findRings_112 hl (k := 0) rfl (nI_1 _) (by decide) rfl (fun ls hl => ?_)
                          refine lv_goto (tgt := 95) hx hb dX12_findRings_115 (by decide) ?_
                          exact ih_1518 ((j1518 + 1))  en_1525 ls H locs (by omega) (by omega) (by omega) hI_1525 hf_1525 (hkp_1525) (hsd_1525) (lv_sub hl [0, 1, 2] rfl) hh
                    exact loop_1518 (n + 1) 0  en_1517 ls _ _ (Nat.le_refl _) (by omega) (by omega) hI_1517 hf_1517 (hkp_1517) (hsd_1517) (lv_sub hl [0, 1, 2] rfl) hh
              · obtain rfl : r_1496 = 0 := hb_1496
                refine lv_if_ne (tgt := 58) hx hb dX12_findRings_52 (by decide) (fun c_0 => absurd c_0 (by decide)) (fun _ => ?_)
                refine lv_goto (tgt := 14) hx hb dX12_findRings_55 (by decide) ?_
                exact ih_1488 (mm1488 - 1) (n - 1) u1_1491 en_1492 ls H locs (by omega) hI_1492 hf_1492 (ND_sd hND_1491 i1_1492) (by rw [i1_1492.2]; have h1 := hnm_1491; have h2 := i1_1488; omega) (i0_1492) (lv_sub hl [1, 2] rfl) hh
            · have n_1493 : j1492 < n := n_nle (a := n) (b := j1492) c_1493 (by omega) (by omega)
              refine lv_aload_n hx hb dX12_findRings_29 rfl (lv_at hl 1 rfl) ?_
              obtain ⟨fa_1526, hi_1526, wd_1526, mo_1526, tb_1526, dp_1526, many_1526, grt_1526, lst_1526, nou_1526, rm_1526, rb_1526, pr_1526, wo_1526, es1526, p0_1526, p1_1526, p2_1526, p3_1526, p4_1526⟩ := getr_M hI_1492
              have hq2_1527 : wd_1526 = wd := n_eq ((show nI wd_1526 = rdI (en_1492 0) 2 from by rw [es1526]; rfl).trans (i0_1492.2.1.trans (show rdI (en 0) 2 = nI wd from by rw [es1484]; rfl))) (by omega) (by omega)
              have hq3_1527 : mo_1526 = mo := n_eq ((show nI mo_1526 = rdI (en_1492 0) 3 from by rw [es1526]; rfl).trans (i0_1492.2.2.1.trans (show rdI (en 0) 3 = nI mo from by rw [es1484]; rfl))) (by omega) (by omega)
              have hq4_1527 : tb_1526 = tb := n_eq ((show nI tb_1526 = rdI (en_1492 0) 4 from by rw [es1526]; rfl).trans (i0_1492.2.2.2.1.trans (show rdI (en 0) 4 = nI tb from by rw [es1484]; rfl))) (by omega) (by omega)
              have hq30_1527 : wo_1526 = wo := n_eq ((show nI wo_1526 = rdI (en_1492 0) 30 from by rw [es1526]; rfl).trans (i0_1492.2.2.2.2.2.trans (show rdI (en 0) 30 = nI wo from by rw [es1484]; rfl))) (by omega) (by omega)
              rw [hq2_1527, hq3_1527, hq4_1527, hq30_1527] at es1526
              refine hp_get hx hb hts ix12 hown hK hh (q := 0) rfl (hI.1 _ (by decide)) es1526 rfl 21 (by decide) (hts _ tw_900) (fun _ h9 => h9) rfl dX12_findRings_30 ?_
              refine lv_iload_n hx hb dX12_findRings_33 rfl (lv_at hl 0 rfl) ?_
              refine lv_aload_n hx hb dX12_findRings_34 rfl (lv_at hl 1 rfl) ?_
              refine hp_get hx hb hts ix12 hown hK hh (q := 0) rfl (hI.1 _ (by decide)) es1526 rfl 11 (by decide) (hts _ tw_890) (fun _ h9 => h9) rfl dX12_findRings_35 ?_
              refine lv_iload_n hx hb dX12_findRings_38 rfl (lv_at hl 0 rfl) ?_
              obtain ⟨f_1528, es1528⟩ := getr_nw hI_1492
              refine hp_iald hx hb hK hh (q := 7) rfl (hI.1 _ (by decide)) es1528 (vp_in_nI (n := j1492) (by omega) (by decide)) dX12_findRings_39 ?_
              rw [nI_clamp (n := j1492) (by omega)]
              obtain ⟨v_1529, hv_1529, hve_1529⟩ := hall_1491 j1492 (by omega)
              rw [show f_1528 j1492 = nI v_1529 from (show f_1528 j1492 = rdF (en_1491 7) j1492 from by rw [← i1_1492.2, es1528]; rfl).trans hve_1529]
              obtain ⟨f_1530, es1530, p0_1530⟩ := getr_ak hI_1492
              refine hp_iast hx hb hK hh (q := 12) rfl (hI.1 _ (by decide)) es1530 (vp_in_nI (n := j1492) (by omega) (by decide)) dX12_findRings_40 (fun H locs en_1531 hen_1531 hh => ?_)
              rw [nI_clamp (n := j1492) (by omega)] at hen_1531
              have es1526_1531 : en_1531 0 = .inr (11, [.int fa_1526, .int hi_1526, .int (nI wd), .int (nI mo), .int (nI tb), .ref (ad 1), .ref (ad 2), .ref (ad 3), .ref (ad 4), .ref (ad 5), .ref (ad 6), .ref (ad 7), .ref (ad 8), .ref (ad 9), .int dp_1526, .long many_1526, .long grt_1526, .long lst_1526, .long nou_1526, .ref (ad 10), .ref (ad 11), .ref (ad 12), .int rm_1526, .long rb_1526, .ref (ad 13), .int pr_1526, .ref (ad 14), .ref (ad 15), .ref (ad 16), .ref (ad 17), .int (nI wo), .ref (ad 18), .ref (ad 19)]) := by rw [hen_1531, va_up_ne _ _ (by decide)]; exact es1526
              have es1528_1531 : en_1531 7 = .inl (cy 0, 13, .inl f_1528) := by rw [hen_1531, va_up_ne _ _ (by decide)]; exact es1528
              have es1530_1531 : en_1531 12 = .inl (cy 0, 12, .inl (upd f_1530 j1492 (nI v_1529))) := by rw [hen_1531]; exact va_up_self _ _ _
              have hI_1531 : RX cy cs ad en_1531 := by rw [hen_1531]; exact upr_ak hI_1492 ⟨(upd f_1530 j1492 (nI v_1529)), rfl, (vals_updB p0_1530 (by omega))⟩
              have hf_1531 : ∀ c, (c ≠ 0 ∧ c ≠ 6 ∧ c ≠ 7 ∧ c ≠ 12 ∧ c ≠ 13) → en_1531 c = en c := fun c hc => Eq.trans (show en_1531 c = en_1492 c from by rw [hen_1531, va_up_ne _ _ (by omega)]) (hf_1492 c hc)
              have hkp_1531 : KP en en_1531 := KP_same i0_1492 (show en_1531 0 = en_1492 0 from by rw [hen_1531, va_up_ne _ _ (by decide)])
              have hsd_1531 : SD en_1491 en_1531 := SD_same i1_1492 (show en_1531 0 = en_1492 0 from by rw [hen_1531, va_up_ne _ _ (by decide)]) (show en_1531 7 = en_1492 7 from by rw [hen_1531, va_up_ne _ _ (by decide)])
              refine lv_iinc (v := (nI (j1492 + 1))) (lv' := [(2, .int (nI (j1492 + 1))), (0, .ref (ad 0)), (1, .int (nI n))]) hx hb dX12_findRings_41 hl (k := 0) rfl (nI_1 _) (by decide) rfl (fun ls hl => ?_)
              refine lv_goto (tgt := 24) hx hb dX12_findRings_44 (by decide) ?_
              exact ih_1492 ((j1492 + 1))  en_1531 ls H locs (by omega) (by omega) (by omega) hI_1531 hf_1531 (hkp_1531) (hsd_1531) (lv_sub hl [0, 1, 2] rfl) hh
        exact loop_1492 (n + 1) 0  en_1491 ls _ _ (Nat.le_refl _) (by omega) (by omega) hI_1491 hf_1491 (hkp_1491) ((SD_rf en_1491)) (lv_sub hl [0, 1, 2] rfl) hh
  exact loop_1488 (134217728 + 1) 134217728 0 0 en_1487 ls _ _ (by omega) hI_1487 hf_1487 (hND_1487) (by omega) (hkp_1487) (lv_sub hl [0, 1] rfl) hh
theorem kw_X12_findRings {R : Room} {s : State} {args : Array Value} {own : String} {idx : Nat} (hts : ∀ w ∈ TB, w.before args s = true) (hl : Cond.methodLink own idx yX12_findRings ∈ TB) (hR : 3 + 1 ≤ R.frames ∧ 8 + (3 + 11) + 40 * 3 ≤ R.locals) : CallW R s args own RX12 idx yX12_findRings cX12_findRings 3 none (Cond.code yX12_findRings cX12_findRings 3 none :: TB) (rmN 3) 0 0 1 := cwV 1 hts (TB_V hl tw_1075 ts_44 tw_9 tw_1076) rfl rfl rfl (by decide +kernel) hR
set_option maxHeartbeats 4000000 in
set_option maxRecDepth 100000 in
/-- X12_rings -/
theorem c_X12_rings (l : Launch) (D : va_G) (cy : Nat → ClassId) (sz : Nat) (cs : List Nat) (ad : Nat → Nat) (en : Nat → va_E) (hI : RX cy cs ad en) (n9 : Int32)   : Met l yX12_rings (Cond.code yX12_rings cX12_rings 2 (some .int) :: TB) (rmN 4) (va_Pc [.ref (ad 0), .int n9] (Pre D cy cs ad en sz)) (va_Qi (S := Nat → va_E) (fun r en1 => RX cy cs ad en1 ∧ (∀ c, (c ≠ 0 ∧ c ≠ 6 ∧ c ≠ 7 ∧ c ≠ 8 ∧ c ≠ 9 ∧ c ≠ 12 ∧ c ≠ 13) → en1 c = en c) ∧ KP en en1) (PostM D cs ad) (Af cs ad sz)) 0 0 (Af cs ad sz) := by
  refine Met.ofW (cc := cX12_rings) (maxL := 2) (ret := (some .int)) (by decide) rfl ?_
  intro p e s m args below meth c s₁ B hml hv
  obtain ⟨rfl, hsz, hP, hK, hD0⟩ := hv
  have hx := B.exec
  have hb := B.bytes
  have hr := B.returns
  have hts : ∀ w ∈ TB, w.before _ s = true := fun w h => atoms_spec (ws := _ :: TB) B.pre w (List.mem_cons_of_mem _ h)
  have hown : s.vm.findClass RX12 = some m.cls := findClass_of_methodNamed B.named
  have hlocks := B.notSynchronized
  have hh : Hp D (Af cs ad sz) (Af cs ad sz) s.heap s.heap [] cs ad en := ⟨hP, Af_self hD0, va_S.rf⟩
  have hA : ∀ q : Nat, s.heap.size ≤ q → Af cs ad sz q := fun q h => Or.inr (by rw [hsz] at h; exact h)
  have hl := lv_entry ([.ref (ad 0), .int n9]) (n := 2) (Nat.le_of_ble_eq_true rfl)
  rw [lg_entry_eq]
  generalize (lg_sl ([.ref (ad 0), .int n9]) ++ List.replicate (2 - (lg_sl ([.ref (ad 0), .int n9])).length) Slot.unset).toArray = ls at hl ⊢
  have hl : lv_has ls 2 [(0, .ref (ad 0)), (1, .int n9)] := hl
  have hf0 : ∀ c, (c ≠ 0 ∧ c ≠ 6 ∧ c ≠ 7 ∧ c ≠ 8 ∧ c ≠ 9 ∧ c ≠ 12 ∧ c ≠ 13) → en c = en c := fun _ _ => rfl
  obtain ⟨fa, hi, wd, mo, tb, dp, many, grt, lst, nou, rm, rb, pr, wo, es1532, hwd2, hwd3, hmo, htb, hwo⟩ := getr_M hI
  refine lv_iload_n hx hb dX12_rings_0 rfl (lv_at hl 1 rfl) ?_
  refine lv_i2l hx hb dX12_rings_1 rfl ?_
  refine lv_lconst (v := 1) hx hb dX12_rings_2 (by decide) ?_
  refine lv_ldc2 hx hb hown (hts _ tw_1024) dX12_rings_3 ?_
  refine hp_callRi (va_runS (As := [.long n9.toInt64, .long 1, .long 8]) (rest := []) ⟨hx, hb, hml, hown, hts⟩ (c_X12_within l D cy _ cs ad en n9.toInt64 1 8) (kw_X12_within hts tw_985 ⟨by decide, by decide⟩) (preS_of hh hK) rfl rfl hl.1 rfl (lv_room (Nat.le_of_ble_eq_true rfl)) dX12_rings_6 ⟨Nat.le_of_ble_eq_true rfl, Nat.le_of_ble_eq_true rfl⟩) hh hA (fun r_1533 H locs hw_1533 hh => ?_)
  rcases Decidable.em (wi n9 1 8) with hp_1533 | hp_1533
  · obtain rfl : r_1533 = 1 := Eq.trans hw_1533 (if_pos ((wj_32 (by decide) (by decide)).mpr hp_1533))
    obtain ⟨N_1533, rfl, hA_1533, hB_1533⟩ := wi_natB hp_1533 1 8 (by decide) (by decide)
    refine lv_if_ne (tgt := 15) hx hb dX12_rings_9 (by decide) (fun _ => ?_) (fun c_0 => absurd c_0 (by decide))
    refine lv_aload_n hx hb dX12_rings_15 rfl (lv_at hl 0 rfl) ?_
    refine lv_iload_n hx hb dX12_rings_16 rfl (lv_at hl 1 rfl) ?_
    refine hp_callMi (va_runV (As := [.int (nI N_1533)]) (rest := []) ⟨hx, hb, hml, hown, hts⟩ (c_X12_isSpent l D cy _ cs ad en hI N_1533 (by omega)) (kw_X12_isSpent hts tw_1025 ⟨by decide, by decide⟩) (preV_of hh hK (hI.1 _ (by decide)) es1532 rfl) rfl rfl hl.1 rfl (lv_room (Nat.le_of_ble_eq_true rfl)) dX12_rings_17 ⟨Nat.le_of_ble_eq_true rfl, Nat.le_of_ble_eq_true rfl⟩) hh hA (fun r_1534 H locs en_1534 hw_1534 hh => ?_)
    obtain ⟨hI_1534, hu_1534, hx_1534⟩ := hw_1534
    have es1532_1534 : en_1534 0 = .inr (11, [.int fa, .int hi, .int (nI wd), .int (nI mo), .int (nI tb), .ref (ad 1), .ref (ad 2), .ref (ad 3), .ref (ad 4), .ref (ad 5), .ref (ad 6), .ref (ad 7), .ref (ad 8), .ref (ad 9), .int dp, .long many, .long grt, .long lst, .long nou, .ref (ad 10), .ref (ad 11), .ref (ad 12), .int rm, .long rb, .ref (ad 13), .int pr, .ref (ad 14), .ref (ad 15), .ref (ad 16), .ref (ad 17), .int (nI wo), .ref (ad 18), .ref (ad 19)]) := (hu_1534 0 (by omega)).trans es1532
    have hf_1534 : ∀ c, (c ≠ 0 ∧ c ≠ 6 ∧ c ≠ 7 ∧ c ≠ 8 ∧ c ≠ 9 ∧ c ≠ 12 ∧ c ≠ 13) → en_1534 c = en c := fun c hc => (hu_1534 c (by omega)).trans (hf0 c hc)
    have hkp_1534 : KP en en_1534 := KP_same (KP_rf en) (hu_1534 0 (by omega))
    have hw_1534 := hx_1534
    rcases hw_1534 with hb_1534 | hb_1534
    · obtain rfl : r_1534 = 0 := hb_1534
      refine lv_if_eq (tgt := 26) hx hb dX12_rings_20 (by decide) (fun _ => ?_) (fun c_0 => absurd c_0 (by decide))
      refine lv_aload_n hx hb dX12_rings_26 rfl (lv_at hl 0 rfl) ?_
      refine lv_iload_n hx hb dX12_rings_27 rfl (lv_at hl 1 rfl) ?_
      refine hp_callMv (va_runV (As := [.int (nI N_1533)]) (rest := []) ⟨hx, hb, hml, hown, hts⟩ (c_X12_findRings l D cy _ cs ad en_1534 hI_1534 N_1533 (by omega) (by omega)) (kw_X12_findRings hts tw_1073 ⟨by decide, by decide⟩) (preV_of hh hK (hI.1 _ (by decide)) es1532_1534 rfl) rfl rfl hl.1 rfl (lv_room (Nat.le_of_ble_eq_true rfl)) dX12_rings_28 ⟨Nat.le_of_ble_eq_true rfl, Nat.le_of_ble_eq_true rfl⟩) hh hA (fun H locs en_1535 hw_1535 hh => ?_)
      obtain ⟨hI_1535, hu_1535, hx_1535⟩ := hw_1535
      have hf_1535 : ∀ c, (c ≠ 0 ∧ c ≠ 6 ∧ c ≠ 7 ∧ c ≠ 8 ∧ c ≠ 9 ∧ c ≠ 12 ∧ c ≠ 13) → en_1535 c = en c := fun c hc => (hu_1535 c (by omega)).trans (hf_1534 c hc)
      have hkp_1535 : KP en en_1535 := KP_tr hkp_1534 hx_1535
      refine lv_aload_n hx hb dX12_rings_31 rfl (lv_at hl 0 rfl) ?_
      obtain ⟨fa_1536, hi_1536, wd_1536, mo_1536, tb_1536, dp_1536, many_1536, grt_1536, lst_1536, nou_1536, rm_1536, rb_1536, pr_1536, wo_1536, es1536, p0_1536, p1_1536, p2_1536, p3_1536, p4_1536⟩ := getr_M hI_1535
      have hq2_1537 : wd_1536 = wd := n_eq ((show nI wd_1536 = rdI (en_1535 0) 2 from by rw [es1536]; rfl).trans (hkp_1535.2.1.trans (show rdI (en 0) 2 = nI wd from by rw [es1532]; rfl))) (by omega) (by omega)
      have hq3_1537 : mo_1536 = mo := n_eq ((show nI mo_1536 = rdI (en_1535 0) 3 from by rw [es1536]; rfl).trans (hkp_1535.2.2.1.trans (show rdI (en 0) 3 = nI mo from by rw [es1532]; rfl))) (by omega) (by omega)
      have hq4_1537 : tb_1536 = tb := n_eq ((show nI tb_1536 = rdI (en_1535 0) 4 from by rw [es1536]; rfl).trans (hkp_1535.2.2.2.1.trans (show rdI (en 0) 4 = nI tb from by rw [es1532]; rfl))) (by omega) (by omega)
      have hq30_1537 : wo_1536 = wo := n_eq ((show nI wo_1536 = rdI (en_1535 0) 30 from by rw [es1536]; rfl).trans (hkp_1535.2.2.2.2.2.trans (show rdI (en 0) 30 = nI wo from by rw [es1532]; rfl))) (by omega) (by omega)
      rw [hq2_1537, hq3_1537, hq4_1537, hq30_1537] at es1536
      refine hp_get hx hb hts ix12 hown hK hh (q := 0) rfl (hI.1 _ (by decide)) es1536 rfl 22 (by decide) (hts _ tw_901) (fun _ h9 => h9) rfl dX12_rings_32 ?_
      exact hp_iretM hx hb hr rfl hlocks hh (⟨hI_1535, hf_1535, hkp_1535⟩) dX12_rings_35
    · obtain rfl : r_1534 = 1 := hb_1534
      refine lv_if_eq (tgt := 26) hx hb dX12_rings_20 (by decide) (fun c_0 => absurd c_0 (by decide)) (fun _ => ?_)
      refine lv_bipush (v := (-6)) hx hb dX12_rings_23 (by decide) ?_
      exact hp_iretM hx hb hr rfl hlocks hh (⟨hI_1534, hf_1534, hkp_1534⟩) dX12_rings_25
  · obtain rfl : r_1533 = 0 := Eq.trans hw_1533 (if_neg (fun q => hp_1533 ((wj_32 (by decide) (by decide)).mp q)))
    refine lv_if_ne (tgt := 15) hx hb dX12_rings_9 (by decide) (fun c_0 => absurd c_0 (by decide)) (fun _ => ?_)
    refine lv_bipush (v := (-2)) hx hb dX12_rings_12 (by decide) ?_
    exact hp_iretM hx hb hr rfl hlocks hh (⟨hI, hf0, (KP_rf en)⟩) dX12_rings_14
theorem kw_X12_rings {R : Room} {s : State} {args : Array Value} {own : String} {idx : Nat} (hts : ∀ w ∈ TB, w.before args s = true) (hl : Cond.methodLink own idx yX12_rings ∈ TB) (hR : 4 + 1 ≤ R.frames ∧ 8 + (2 + 11) + 40 * 4 ≤ R.locals) : CallW R s args own RX12 idx yX12_rings cX12_rings 2 (some .int) (Cond.code yX12_rings cX12_rings 2 (some .int) :: TB) (rmN 4) 0 0 1 := cwV 1 hts (TB_V hl tw_1070 tw_1071 tw_9 tw_1072) rfl rfl rfl (by decide +kernel) hR
set_option maxHeartbeats 4000000 in
set_option maxRecDepth 100000 in
/-- X12_ringTrack -/
theorem c_X12_ringTrack (l : Launch) (D : va_G) (cy : Nat → ClassId) (sz : Nat) (cs : List Nat) (ad : Nat → Nat) (en : Nat → va_E) (hI : RX cy cs ad en) (n9 : Int32)   : Met l yX12_ringTrack (Cond.code yX12_ringTrack cX12_ringTrack 2 (some .long) :: TB) (rmN 4) (va_Pc [.ref (ad 0), .int n9] (Pre D cy cs ad en sz)) (va_Ql (S := Nat → va_E) (fun r en1 => RX cy cs ad en1 ∧ (∀ c, (c ≠ 0 ∧ c ≠ 6 ∧ c ≠ 7 ∧ c ≠ 8 ∧ c ≠ 9 ∧ c ≠ 12 ∧ c ≠ 13) → en1 c = en c) ∧ KP en en1) (PostM D cs ad) (Af cs ad sz)) 0 0 (Af cs ad sz) := by
  refine Met.ofW (cc := cX12_ringTrack) (maxL := 2) (ret := (some .long)) (by decide) rfl ?_
  intro p e s m args below meth c s₁ B hml hv
  obtain ⟨rfl, hsz, hP, hK, hD0⟩ := hv
  have hx := B.exec
  have hb := B.bytes
  have hr := B.returns
  have hts : ∀ w ∈ TB, w.before _ s = true := fun w h => atoms_spec (ws := _ :: TB) B.pre w (List.mem_cons_of_mem _ h)
  have hown : s.vm.findClass RX12 = some m.cls := findClass_of_methodNamed B.named
  have hlocks := B.notSynchronized
  have hh : Hp D (Af cs ad sz) (Af cs ad sz) s.heap s.heap [] cs ad en := ⟨hP, Af_self hD0, va_S.rf⟩
  have hA : ∀ q : Nat, s.heap.size ≤ q → Af cs ad sz q := fun q h => Or.inr (by rw [hsz] at h; exact h)
  have hl := lv_entry ([.ref (ad 0), .int n9]) (n := 2) (Nat.le_of_ble_eq_true rfl)
  rw [lg_entry_eq]
  generalize (lg_sl ([.ref (ad 0), .int n9]) ++ List.replicate (2 - (lg_sl ([.ref (ad 0), .int n9])).length) Slot.unset).toArray = ls at hl ⊢
  have hl : lv_has ls 2 [(0, .ref (ad 0)), (1, .int n9)] := hl
  have hf0 : ∀ c, (c ≠ 0 ∧ c ≠ 6 ∧ c ≠ 7 ∧ c ≠ 8 ∧ c ≠ 9 ∧ c ≠ 12 ∧ c ≠ 13) → en c = en c := fun _ _ => rfl
  obtain ⟨fa, hi, wd, mo, tb, dp, many, grt, lst, nou, rm, rb, pr, wo, es1538, hwd2, hwd3, hmo, htb, hwo⟩ := getr_M hI
  refine lv_iload_n hx hb dX12_ringTrack_0 rfl (lv_at hl 1 rfl) ?_
  refine lv_i2l hx hb dX12_ringTrack_1 rfl ?_
  refine lv_lconst (v := 1) hx hb dX12_ringTrack_2 (by decide) ?_
  refine lv_ldc2 hx hb hown (hts _ tw_1024) dX12_ringTrack_3 ?_
  refine hp_callRi (va_runS (As := [.long n9.toInt64, .long 1, .long 8]) (rest := []) ⟨hx, hb, hml, hown, hts⟩ (c_X12_within l D cy _ cs ad en n9.toInt64 1 8) (kw_X12_within hts tw_985 ⟨by decide, by decide⟩) (preS_of hh hK) rfl rfl hl.1 rfl (lv_room (Nat.le_of_ble_eq_true rfl)) dX12_ringTrack_6 ⟨Nat.le_of_ble_eq_true rfl, Nat.le_of_ble_eq_true rfl⟩) hh hA (fun r_1539 H locs hw_1539 hh => ?_)
  rcases Decidable.em (wi n9 1 8) with hp_1539 | hp_1539
  · obtain rfl : r_1539 = 1 := Eq.trans hw_1539 (if_pos ((wj_32 (by decide) (by decide)).mpr hp_1539))
    obtain ⟨N_1539, rfl, hA_1539, hB_1539⟩ := wi_natB hp_1539 1 8 (by decide) (by decide)
    refine lv_if_eq (tgt := 20) hx hb dX12_ringTrack_9 (by decide) (fun c_0 => absurd c_0 (by decide)) (fun _ => ?_)
    refine lv_aload_n hx hb dX12_ringTrack_12 rfl (lv_at hl 0 rfl) ?_
    refine lv_iload_n hx hb dX12_ringTrack_13 rfl (lv_at hl 1 rfl) ?_
    refine hp_callMi (va_runV (As := [.int (nI N_1539)]) (rest := []) ⟨hx, hb, hml, hown, hts⟩ (c_X12_isSpent l D cy _ cs ad en hI N_1539 (by omega)) (kw_X12_isSpent hts tw_1025 ⟨by decide, by decide⟩) (preV_of hh hK (hI.1 _ (by decide)) es1538 rfl) rfl rfl hl.1 rfl (lv_room (Nat.le_of_ble_eq_true rfl)) dX12_ringTrack_14 ⟨Nat.le_of_ble_eq_true rfl, Nat.le_of_ble_eq_true rfl⟩) hh hA (fun r_1540 H locs en_1540 hw_1540 hh => ?_)
    obtain ⟨hI_1540, hu_1540, hx_1540⟩ := hw_1540
    have es1538_1540 : en_1540 0 = .inr (11, [.int fa, .int hi, .int (nI wd), .int (nI mo), .int (nI tb), .ref (ad 1), .ref (ad 2), .ref (ad 3), .ref (ad 4), .ref (ad 5), .ref (ad 6), .ref (ad 7), .ref (ad 8), .ref (ad 9), .int dp, .long many, .long grt, .long lst, .long nou, .ref (ad 10), .ref (ad 11), .ref (ad 12), .int rm, .long rb, .ref (ad 13), .int pr, .ref (ad 14), .ref (ad 15), .ref (ad 16), .ref (ad 17), .int (nI wo), .ref (ad 18), .ref (ad 19)]) := (hu_1540 0 (by omega)).trans es1538
    have hf_1540 : ∀ c, (c ≠ 0 ∧ c ≠ 6 ∧ c ≠ 7 ∧ c ≠ 8 ∧ c ≠ 9 ∧ c ≠ 12 ∧ c ≠ 13) → en_1540 c = en c := fun c hc => (hu_1540 c (by omega)).trans (hf0 c hc)
    have hkp_1540 : KP en en_1540 := KP_same (KP_rf en) (hu_1540 0 (by omega))
    have hw_1540 := hx_1540
    rcases hw_1540 with hb_1540 | hb_1540
    · obtain rfl : r_1540 = 0 := hb_1540
      refine lv_if_eq (tgt := 24) hx hb dX12_ringTrack_17 (by decide) (fun _ => ?_) (fun c_0 => absurd c_0 (by decide))
      refine lv_aload_n hx hb dX12_ringTrack_24 rfl (lv_at hl 0 rfl) ?_
      refine lv_iload_n hx hb dX12_ringTrack_25 rfl (lv_at hl 1 rfl) ?_
      refine hp_callMv (va_runV (As := [.int (nI N_1539)]) (rest := []) ⟨hx, hb, hml, hown, hts⟩ (c_X12_findRings l D cy _ cs ad en_1540 hI_1540 N_1539 (by omega) (by omega)) (kw_X12_findRings hts tw_1073 ⟨by decide, by decide⟩) (preV_of hh hK (hI.1 _ (by decide)) es1538_1540 rfl) rfl rfl hl.1 rfl (lv_room (Nat.le_of_ble_eq_true rfl)) dX12_ringTrack_26 ⟨Nat.le_of_ble_eq_true rfl, Nat.le_of_ble_eq_true rfl⟩) hh hA (fun H locs en_1541 hw_1541 hh => ?_)
      obtain ⟨hI_1541, hu_1541, hx_1541⟩ := hw_1541
      have hf_1541 : ∀ c, (c ≠ 0 ∧ c ≠ 6 ∧ c ≠ 7 ∧ c ≠ 8 ∧ c ≠ 9 ∧ c ≠ 12 ∧ c ≠ 13) → en_1541 c = en c := fun c hc => (hu_1541 c (by omega)).trans (hf_1540 c hc)
      have hkp_1541 : KP en en_1541 := KP_tr hkp_1540 hx_1541
      refine lv_aload_n hx hb dX12_ringTrack_29 rfl (lv_at hl 0 rfl) ?_
      obtain ⟨fa_1542, hi_1542, wd_1542, mo_1542, tb_1542, dp_1542, many_1542, grt_1542, lst_1542, nou_1542, rm_1542, rb_1542, pr_1542, wo_1542, es1542, p0_1542, p1_1542, p2_1542, p3_1542, p4_1542⟩ := getr_M hI_1541
      have hq2_1543 : wd_1542 = wd := n_eq ((show nI wd_1542 = rdI (en_1541 0) 2 from by rw [es1542]; rfl).trans (hkp_1541.2.1.trans (show rdI (en 0) 2 = nI wd from by rw [es1538]; rfl))) (by omega) (by omega)
      have hq3_1543 : mo_1542 = mo := n_eq ((show nI mo_1542 = rdI (en_1541 0) 3 from by rw [es1542]; rfl).trans (hkp_1541.2.2.1.trans (show rdI (en 0) 3 = nI mo from by rw [es1538]; rfl))) (by omega) (by omega)
      have hq4_1543 : tb_1542 = tb := n_eq ((show nI tb_1542 = rdI (en_1541 0) 4 from by rw [es1542]; rfl).trans (hkp_1541.2.2.2.1.trans (show rdI (en 0) 4 = nI tb from by rw [es1538]; rfl))) (by omega) (by omega)
      have hq30_1543 : wo_1542 = wo := n_eq ((show nI wo_1542 = rdI (en_1541 0) 30 from by rw [es1542]; rfl).trans (hkp_1541.2.2.2.2.2.trans (show rdI (en 0) 30 = nI wo from by rw [es1538]; rfl))) (by omega) (by omega)
      rw [hq2_1543, hq3_1543, hq4_1543, hq30_1543] at es1542
      refine hp_get hx hb hts ix12 hown hK hh (q := 0) rfl (hI.1 _ (by decide)) es1542 rfl 22 (by decide) (hts _ tw_901) (fun _ h9 => h9) rfl dX12_ringTrack_30 ?_
      refine lv_if_ne (tgt := 42) hx hb dX12_ringTrack_33 (by decide) (fun c_1544 => ?_) (fun c_1544 => ?_)
      · refine lv_aload_n hx hb dX12_ringTrack_42 rfl (lv_at hl 0 rfl) ?_
        refine hp_get hx hb hts ix12 hown hK hh (q := 0) rfl (hI.1 _ (by decide)) es1542 rfl 23 (by decide) (hts _ tw_902) (fun _ h9 => h9) rfl dX12_ringTrack_43 ?_
        exact hp_lretM hx hb hr hlocks hh (⟨hI_1541, hf_1541, hkp_1541⟩) dX12_ringTrack_46
      · refine lv_ldc2 hx hb hown (hts _ tw_1015) dX12_ringTrack_36 ?_
        refine lv_goto (tgt := 46) hx hb dX12_ringTrack_39 (by decide) ?_
        exact hp_lretM hx hb hr hlocks hh (⟨hI_1541, hf_1541, hkp_1541⟩) dX12_ringTrack_46
    · obtain rfl : r_1540 = 1 := hb_1540
      refine lv_if_eq (tgt := 24) hx hb dX12_ringTrack_17 (by decide) (fun c_0 => absurd c_0 (by decide)) (fun _ => ?_)
      refine lv_ldc2 hx hb hown (hts _ tw_1015) dX12_ringTrack_20 ?_
      exact hp_lretM hx hb hr hlocks hh (⟨hI_1540, hf_1540, hkp_1540⟩) dX12_ringTrack_23
  · obtain rfl : r_1539 = 0 := Eq.trans hw_1539 (if_neg (fun q => hp_1539 ((wj_32 (by decide) (by decide)).mp q)))
    refine lv_if_eq (tgt := 20) hx hb dX12_ringTrack_9 (by decide) (fun _ => ?_) (fun c_0 => absurd c_0 (by decide))
    refine lv_ldc2 hx hb hown (hts _ tw_1015) dX12_ringTrack_20 ?_
    exact hp_lretM hx hb hr hlocks hh (⟨hI, hf0, (KP_rf en)⟩) dX12_ringTrack_23
theorem kw_X12_ringTrack {R : Room} {s : State} {args : Array Value} {own : String} {idx : Nat} (hts : ∀ w ∈ TB, w.before args s = true) (hl : Cond.methodLink own idx yX12_ringTrack ∈ TB) (hR : 4 + 1 ≤ R.frames ∧ 8 + (2 + 11) + 40 * 4 ≤ R.locals) : CallW R s args own RX12 idx yX12_ringTrack cX12_ringTrack 2 (some .long) (Cond.code yX12_ringTrack cX12_ringTrack 2 (some .long) :: TB) (rmN 4) 0 0 1 := cwV 1 hts (TB_V hl tw_1098 tw_1099 tw_9 tw_1100) rfl rfl rfl (by decide +kernel) hR
set_option maxHeartbeats 4000000 in
set_option maxRecDepth 100000 in
/-- X12_ring -/
theorem c_X12_ring (l : Launch) (D : va_G) (cy : Nat → ClassId) (sz : Nat) (cs : List Nat) (ad : Nat → Nat) (en : Nat → va_E) (hI : RX cy cs ad en) (n9 i9 : Int32)   : Met l yX12_ring (Cond.code yX12_ring cX12_ring 3 (some .int) :: TB) (rmN 4) (va_Pc [.ref (ad 0), .int n9, .int i9] (Pre D cy cs ad en sz)) (va_Qi (S := Nat → va_E) (fun r en1 => RX cy cs ad en1 ∧ (∀ c, (c ≠ 0 ∧ c ≠ 6 ∧ c ≠ 7 ∧ c ≠ 8 ∧ c ≠ 9 ∧ c ≠ 12 ∧ c ≠ 13) → en1 c = en c) ∧ KP en en1) (PostM D cs ad) (Af cs ad sz)) 0 0 (Af cs ad sz) := by
  refine Met.ofW (cc := cX12_ring) (maxL := 3) (ret := (some .int)) (by decide) rfl ?_
  intro p e s m args below meth c s₁ B hml hv
  obtain ⟨rfl, hsz, hP, hK, hD0⟩ := hv
  have hx := B.exec
  have hb := B.bytes
  have hr := B.returns
  have hts : ∀ w ∈ TB, w.before _ s = true := fun w h => atoms_spec (ws := _ :: TB) B.pre w (List.mem_cons_of_mem _ h)
  have hown : s.vm.findClass RX12 = some m.cls := findClass_of_methodNamed B.named
  have hlocks := B.notSynchronized
  have hh : Hp D (Af cs ad sz) (Af cs ad sz) s.heap s.heap [] cs ad en := ⟨hP, Af_self hD0, va_S.rf⟩
  have hA : ∀ q : Nat, s.heap.size ≤ q → Af cs ad sz q := fun q h => Or.inr (by rw [hsz] at h; exact h)
  have hl := lv_entry ([.ref (ad 0), .int n9, .int i9]) (n := 3) (Nat.le_of_ble_eq_true rfl)
  rw [lg_entry_eq]
  generalize (lg_sl ([.ref (ad 0), .int n9, .int i9]) ++ List.replicate (3 - (lg_sl ([.ref (ad 0), .int n9, .int i9])).length) Slot.unset).toArray = ls at hl ⊢
  have hl : lv_has ls 3 [(0, .ref (ad 0)), (1, .int n9), (2, .int i9)] := hl
  have hf0 : ∀ c, (c ≠ 0 ∧ c ≠ 6 ∧ c ≠ 7 ∧ c ≠ 8 ∧ c ≠ 9 ∧ c ≠ 12 ∧ c ≠ 13) → en c = en c := fun _ _ => rfl
  obtain ⟨fa, hi, wd, mo, tb, dp, many, grt, lst, nou, rm, rb, pr, wo, es1545, hwd2, hwd3, hmo, htb, hwo⟩ := getr_M hI
  refine lv_iload_n hx hb dX12_ring_0 rfl (lv_at hl 1 rfl) ?_
  refine lv_i2l hx hb dX12_ring_1 rfl ?_
  refine lv_lconst (v := 1) hx hb dX12_ring_2 (by decide) ?_
  refine lv_ldc2 hx hb hown (hts _ tw_1024) dX12_ring_3 ?_
  refine hp_callRi (va_runS (As := [.long n9.toInt64, .long 1, .long 8]) (rest := []) ⟨hx, hb, hml, hown, hts⟩ (c_X12_within l D cy _ cs ad en n9.toInt64 1 8) (kw_X12_within hts tw_985 ⟨by decide, by decide⟩) (preS_of hh hK) rfl rfl hl.1 rfl (lv_room (Nat.le_of_ble_eq_true rfl)) dX12_ring_6 ⟨Nat.le_of_ble_eq_true rfl, Nat.le_of_ble_eq_true rfl⟩) hh hA (fun r_1546 H locs hw_1546 hh => ?_)
  rcases Decidable.em (wi n9 1 8) with hp_1546 | hp_1546
  · obtain rfl : r_1546 = 1 := Eq.trans hw_1546 (if_pos ((wj_32 (by decide) (by decide)).mpr hp_1546))
    obtain ⟨N_1546, rfl, hA_1546, hB_1546⟩ := wi_natB hp_1546 1 8 (by decide) (by decide)
    refine lv_if_eq (tgt := 25) hx hb dX12_ring_9 (by decide) (fun c_0 => absurd c_0 (by decide)) (fun _ => ?_)
    refine lv_iload_n hx hb dX12_ring_12 rfl (lv_at hl 2 rfl) ?_
    refine lv_i2l hx hb dX12_ring_13 rfl ?_
    refine lv_lconst (v := 0) hx hb dX12_ring_14 (by decide) ?_
    refine lv_iload_n hx hb dX12_ring_15 rfl (lv_at hl 1 rfl) ?_
    refine lv_i2l hx hb dX12_ring_16 rfl ?_
    refine lv_lconst (v := 1) hx hb dX12_ring_17 (by decide) ?_
    refine lv_lsub hx hb dX12_ring_18 ?_
    refine hp_callRi (va_runS (As := [.long i9.toInt64, .long 0, .long ((nI N_1546).toInt64 - 1)]) (rest := []) ⟨hx, hb, hml, hown, hts⟩ (c_X12_within l D cy _ cs ad en i9.toInt64 0 ((nI N_1546).toInt64 - 1)) (kw_X12_within hts tw_985 ⟨by decide, by decide⟩) (preS_of hh hK) rfl rfl hl.1 rfl (lv_room (Nat.le_of_ble_eq_true rfl)) dX12_ring_19 ⟨Nat.le_of_ble_eq_true rfl, Nat.le_of_ble_eq_true rfl⟩) hh hA (fun r_1547 H locs hw_1547 hh => ?_)
    rcases Decidable.em (0 ≤ i9.toInt ∧ i9.toInt < (N_1546 : Int)) with hp_1547 | hp_1547
    · obtain rfl : r_1547 = 1 := Eq.trans hw_1547 (if_pos ((wj_m1 (by omega)).mpr hp_1547))
      obtain ⟨N_1547, rfl, hB_1547⟩ := has_nat hp_1547
      refine lv_if_ne (tgt := 28) hx hb dX12_ring_22 (by decide) (fun _ => ?_) (fun c_0 => absurd c_0 (by decide))
      refine lv_aload_n hx hb dX12_ring_28 rfl (lv_at hl 0 rfl) ?_
      refine lv_iload_n hx hb dX12_ring_29 rfl (lv_at hl 1 rfl) ?_
      refine hp_callMi (va_runV (As := [.int (nI N_1546)]) (rest := []) ⟨hx, hb, hml, hown, hts⟩ (c_X12_isSpent l D cy _ cs ad en hI N_1546 (by omega)) (kw_X12_isSpent hts tw_1025 ⟨by decide, by decide⟩) (preV_of hh hK (hI.1 _ (by decide)) es1545 rfl) rfl rfl hl.1 rfl (lv_room (Nat.le_of_ble_eq_true rfl)) dX12_ring_30 ⟨Nat.le_of_ble_eq_true rfl, Nat.le_of_ble_eq_true rfl⟩) hh hA (fun r_1548 H locs en_1548 hw_1548 hh => ?_)
      obtain ⟨hI_1548, hu_1548, hx_1548⟩ := hw_1548
      have es1545_1548 : en_1548 0 = .inr (11, [.int fa, .int hi, .int (nI wd), .int (nI mo), .int (nI tb), .ref (ad 1), .ref (ad 2), .ref (ad 3), .ref (ad 4), .ref (ad 5), .ref (ad 6), .ref (ad 7), .ref (ad 8), .ref (ad 9), .int dp, .long many, .long grt, .long lst, .long nou, .ref (ad 10), .ref (ad 11), .ref (ad 12), .int rm, .long rb, .ref (ad 13), .int pr, .ref (ad 14), .ref (ad 15), .ref (ad 16), .ref (ad 17), .int (nI wo), .ref (ad 18), .ref (ad 19)]) := (hu_1548 0 (by omega)).trans es1545
      have hf_1548 : ∀ c, (c ≠ 0 ∧ c ≠ 6 ∧ c ≠ 7 ∧ c ≠ 8 ∧ c ≠ 9 ∧ c ≠ 12 ∧ c ≠ 13) → en_1548 c = en c := fun c hc => (hu_1548 c (by omega)).trans (hf0 c hc)
      have hkp_1548 : KP en en_1548 := KP_same (KP_rf en) (hu_1548 0 (by omega))
      have hw_1548 := hx_1548
      rcases hw_1548 with hb_1548 | hb_1548
      · obtain rfl : r_1548 = 0 := hb_1548
        refine lv_if_eq (tgt := 39) hx hb dX12_ring_33 (by decide) (fun _ => ?_) (fun c_0 => absurd c_0 (by decide))
        refine lv_aload_n hx hb dX12_ring_39 rfl (lv_at hl 0 rfl) ?_
        refine lv_iload_n hx hb dX12_ring_40 rfl (lv_at hl 1 rfl) ?_
        refine hp_callMv (va_runV (As := [.int (nI N_1546)]) (rest := []) ⟨hx, hb, hml, hown, hts⟩ (c_X12_findRings l D cy _ cs ad en_1548 hI_1548 N_1546 (by omega) (by omega)) (kw_X12_findRings hts tw_1073 ⟨by decide, by decide⟩) (preV_of hh hK (hI.1 _ (by decide)) es1545_1548 rfl) rfl rfl hl.1 rfl (lv_room (Nat.le_of_ble_eq_true rfl)) dX12_ring_41 ⟨Nat.le_of_ble_eq_true rfl, Nat.le_of_ble_eq_true rfl⟩) hh hA (fun H locs en_1549 hw_1549 hh => ?_)
        obtain ⟨hI_1549, hu_1549, hx_1549⟩ := hw_1549
        have hf_1549 : ∀ c, (c ≠ 0 ∧ c ≠ 6 ∧ c ≠ 7 ∧ c ≠ 8 ∧ c ≠ 9 ∧ c ≠ 12 ∧ c ≠ 13) → en_1549 c = en c := fun c hc => (hu_1549 c (by omega)).trans (hf_1548 c hc)
        have hkp_1549 : KP en en_1549 := KP_tr hkp_1548 hx_1549
        refine lv_aload_n hx hb dX12_ring_44 rfl (lv_at hl 0 rfl) ?_
        obtain ⟨fa_1550, hi_1550, wd_1550, mo_1550, tb_1550, dp_1550, many_1550, grt_1550, lst_1550, nou_1550, rm_1550, rb_1550, pr_1550, wo_1550, es1550, p0_1550, p1_1550, p2_1550, p3_1550, p4_1550⟩ := getr_M hI_1549
        have hq2_1551 : wd_1550 = wd := n_eq ((show nI wd_1550 = rdI (en_1549 0) 2 from by rw [es1550]; rfl).trans (hkp_1549.2.1.trans (show rdI (en 0) 2 = nI wd from by rw [es1545]; rfl))) (by omega) (by omega)
        have hq3_1551 : mo_1550 = mo := n_eq ((show nI mo_1550 = rdI (en_1549 0) 3 from by rw [es1550]; rfl).trans (hkp_1549.2.2.1.trans (show rdI (en 0) 3 = nI mo from by rw [es1545]; rfl))) (by omega) (by omega)
        have hq4_1551 : tb_1550 = tb := n_eq ((show nI tb_1550 = rdI (en_1549 0) 4 from by rw [es1550]; rfl).trans (hkp_1549.2.2.2.1.trans (show rdI (en 0) 4 = nI tb from by rw [es1545]; rfl))) (by omega) (by omega)
        have hq30_1551 : wo_1550 = wo := n_eq ((show nI wo_1550 = rdI (en_1549 0) 30 from by rw [es1550]; rfl).trans (hkp_1549.2.2.2.2.2.trans (show rdI (en 0) 30 = nI wo from by rw [es1545]; rfl))) (by omega) (by omega)
        rw [hq2_1551, hq3_1551, hq4_1551, hq30_1551] at es1550
        refine hp_get hx hb hts ix12 hown hK hh (q := 0) rfl (hI.1 _ (by decide)) es1550 rfl 22 (by decide) (hts _ tw_901) (fun _ h9 => h9) rfl dX12_ring_45 ?_
        refine lv_if_ne (tgt := 56) hx hb dX12_ring_48 (by decide) (fun c_1552 => ?_) (fun c_1552 => ?_)
        · refine lv_aload_n hx hb dX12_ring_56 rfl (lv_at hl 0 rfl) ?_
          refine hp_get hx hb hts ix12 hown hK hh (q := 0) rfl (hI.1 _ (by decide)) es1550 rfl 24 (by decide) (hts _ tw_903) (fun _ h9 => h9) rfl dX12_ring_57 ?_
          refine lv_iload_n hx hb dX12_ring_60 rfl (lv_at hl 2 rfl) ?_
          obtain ⟨f_1553, es1553⟩ := getr_rw hI_1549
          refine hp_iald hx hb hK hh (q := 13) rfl (hI.1 _ (by decide)) es1553 (vp_in_nI (n := N_1547) (by omega) (by decide)) dX12_ring_61 ?_
          rw [nI_clamp (n := N_1547) (by omega)]
          exact hp_iretM hx hb hr rfl hlocks hh (⟨hI_1549, hf_1549, hkp_1549⟩) dX12_ring_62
        · refine lv_bipush (v := (-9)) hx hb dX12_ring_51 (by decide) ?_
          refine lv_goto (tgt := 62) hx hb dX12_ring_53 (by decide) ?_
          exact hp_iretM hx hb hr rfl hlocks hh (⟨hI_1549, hf_1549, hkp_1549⟩) dX12_ring_62
      · obtain rfl : r_1548 = 1 := hb_1548
        refine lv_if_eq (tgt := 39) hx hb dX12_ring_33 (by decide) (fun c_0 => absurd c_0 (by decide)) (fun _ => ?_)
        refine lv_bipush (v := (-6)) hx hb dX12_ring_36 (by decide) ?_
        exact hp_iretM hx hb hr rfl hlocks hh (⟨hI_1548, hf_1548, hkp_1548⟩) dX12_ring_38
    · obtain rfl : r_1547 = 0 := Eq.trans hw_1547 (if_neg (fun q => hp_1547 ((wj_m1 (by omega)).mp q)))
      refine lv_if_ne (tgt := 28) hx hb dX12_ring_22 (by decide) (fun c_0 => absurd c_0 (by decide)) (fun _ => ?_)
      refine lv_bipush (v := (-2)) hx hb dX12_ring_25 (by decide) ?_
      exact hp_iretM hx hb hr rfl hlocks hh (⟨hI, hf0, (KP_rf en)⟩) dX12_ring_27
  · obtain rfl : r_1546 = 0 := Eq.trans hw_1546 (if_neg (fun q => hp_1546 ((wj_32 (by decide) (by decide)).mp q)))
    refine lv_if_eq (tgt := 25) hx hb dX12_ring_9 (by decide) (fun _ => ?_) (fun c_0 => absurd c_0 (by decide))
    refine lv_bipush (v := (-2)) hx hb dX12_ring_25 (by decide) ?_
    exact hp_iretM hx hb hr rfl hlocks hh (⟨hI, hf0, (KP_rf en)⟩) dX12_ring_27
theorem kw_X12_ring {R : Room} {s : State} {args : Array Value} {own : String} {idx : Nat} (hts : ∀ w ∈ TB, w.before args s = true) (hl : Cond.methodLink own idx yX12_ring ∈ TB) (hR : 4 + 1 ≤ R.frames ∧ 8 + (3 + 11) + 40 * 4 ≤ R.locals) : CallW R s args own RX12 idx yX12_ring cX12_ring 3 (some .int) (Cond.code yX12_ring cX12_ring 3 (some .int) :: TB) (rmN 4) 0 0 2 := cwV 2 hts (TB_V hl tw_1102 tw_1103 tw_9 tw_1104) rfl rfl rfl (by decide +kernel) hR
set_option maxHeartbeats 4000000 in
set_option maxRecDepth 100000 in
/-- power -/
theorem c_X12_power (l : Launch) (D : va_G) (cy : Nat → ClassId) (sz : Nat) (cs : List Nat) (ad : Nat → Nat) (en : Nat → va_E) (hI : RX cy cs ad en) (v : Int64) (n : Nat) (hn8 : n ≤ 8)   : Met l yX12_power (Cond.code yX12_power cX12_power 6 (some .long) :: TB) (rmN 0) (va_Pc [.long v, .int (nI n)] (Pre D cy cs ad en sz)) (va_Ql (S := Unit) (fun _ _ => True) (fun _ _ => True) (Nf sz)) 0 0 (Nf sz) := by
  refine Met.ofW (cc := cX12_power) (maxL := 6) (ret := (some .long)) (by decide) rfl ?_
  intro p e s m args below meth c s₁ B hml hv
  obtain ⟨rfl, hsz, hP, hK, hD0⟩ := hv
  have hx := B.exec
  have hb := B.bytes
  have hr := B.returns
  have hts : ∀ w ∈ TB, w.before _ s = true := fun w h => atoms_spec (ws := _ :: TB) B.pre w (List.mem_cons_of_mem _ h)
  have hown : s.vm.findClass RX12 = some m.cls := findClass_of_methodNamed B.named
  have hlocks := B.notSynchronized
  have hh : Hp D (Nf sz) (fun _ => True) s.heap s.heap [] cs ad en := ⟨hP, hD0, va_S.rf⟩
  have hA : ∀ q : Nat, s.heap.size ≤ q → Nf sz q := fun q h => by rw [hsz] at h; exact h
  have hl := lv_entry ([.long v, .int (nI n)]) (n := 6) (Nat.le_of_ble_eq_true rfl)
  rw [lg_entry_eq]
  generalize (lg_sl ([.long v, .int (nI n)]) ++ List.replicate (6 - (lg_sl ([.long v, .int (nI n)])).length) Slot.unset).toArray = ls at hl ⊢
  have hl : lv_has ls 6 [(0, .long v), (2, .int (nI n))] := hl
  refine lv_lconst (v := 1) hx hb dX12_power_0 (by decide) ?_
  refine lv_lstore_n (lv' := [(3, .long 1), (0, .long v), (2, .int (nI n))]) hx hb dX12_power_1 rfl hl (by decide) rfl (fun ls hl => ?_)
  refine lv_iconst (v := 0) hx hb dX12_power_2 (by decide) ?_
  refine lv_istore (lv' := [(5, .int 0), (3, .long 1), (0, .long v), (2, .int (nI n))]) hx hb dX12_power_3 hl (by decide) rfl (fun ls hl => ?_)
  have loop_1554 : ∀ (fu j1554 : Nat) (pw1554 : Int64)  (ls : Array Slot) (H : Heap) (locs : List Loc), 0 ≤ j1554 → j1554 ≤ n → n < j1554 + fu →   lv_has ls 6 [(5, .int (nI j1554)), (3, .long pw1554), (0, .long v), (2, .int (nI n))] → Hp D (Nf sz) (fun _ => True) s.heap H locs cs ad en → W p l e (headSpec (Cond.code yX12_power cX12_power 6 (some .long) :: TB) (rmN 0)).room s m ([.long v, .int (nI n)] : List Value).toArray below meth c H locs 0 0 (MQ below (va_Ql (S := Unit) (fun _ _ => True) (fun _ _ => True) (Nf sz)) ([.long v, .int (nI n)] : List Value).toArray s 0 0 (Nf sz)) (F0 m 5 ls []) := by
    intro fu
    induction fu with
    | zero => intro j1554 pw1554 ls H locs h0 h1 h2; exact absurd h2 (by omega)
    | succ fu ih_1554 =>
      intro j1554 pw1554 ls H locs hj0_1554 hj_1554 hfu_1554  hl hh
      refine lv_iload hx hb dX12_power_5 (lv_at hl 0 rfl) ?_
      refine lv_iload_n hx hb dX12_power_7 rfl (lv_at hl 3 rfl) ?_
      refine lv_icmp_ge (tgt := 21) hx hb dX12_power_8 (by decide) (fun c_1555 => ?_) (fun c_1555 => ?_)
      · have n_1555 : n ≤ j1554 := n_le (a := n) (b := j1554) c_1555 (by omega) (by omega)
        refine lv_lload_n hx hb dX12_power_21 rfl (lv_at hl 1 rfl) ?_
        exact hp_lretR hx hb hr hlocks hsz hh (trivial) dX12_power_22
      · have n_1555 : j1554 < n := n_nle (a := n) (b := j1554) c_1555 (by omega) (by omega)
        refine lv_lload_n hx hb dX12_power_11 rfl (lv_at hl 1 rfl) ?_
        refine lv_lload_n hx hb dX12_power_12 rfl (lv_at hl 2 rfl) ?_
        refine lv_lmul hx hb dX12_power_13 ?_
        refine lv_lstore_n (lv' := [(3, .long (pw1554 * v)), (5, .int (nI j1554)), (0, .long v), (2, .int (nI n))]) hx hb dX12_power_14 rfl hl (by decide) rfl (fun ls hl => ?_)
        refine lv_iinc (v := (nI (j1554 + 1))) (lv' := [(5, .int (nI (j1554 + 1))), (3, .long (pw1554 * v)), (0, .long v), (2, .int (nI n))]) hx hb dX12_power_15 hl (k := 1) rfl (nI_1 _) (by decide) rfl (fun ls hl => ?_)
        refine lv_goto (tgt := 5) hx hb dX12_power_18 (by decide) ?_
        exact ih_1554 ((j1554 + 1)) (pw1554 * v) ls H locs (by omega) (by omega) (by omega)  (lv_sub hl [0, 1, 2, 3] rfl) hh
  exact loop_1554 (n + 1) 0 1 ls _ _ (Nat.le_refl _) (by omega) (by omega)  (lv_sub hl [0, 1, 2, 3] rfl) hh
theorem kw_X12_power {R : Room} {s : State} {args : Array Value} {idx : Nat} (hts : ∀ w ∈ TB, w.before args s = true) (hl : Cond.methodLink RX12 idx yX12_power ∈ TB) (hR : 0 + 1 ≤ R.frames ∧ 8 + (6 + 11) + 40 * 0 ≤ R.locals) : CallB R s args RX12 idx yX12_power cX12_power 6 (some .long) (Cond.code yX12_power cX12_power 6 (some .long) :: TB) (rmN 0) 0 0 2 ∧ (Cond.static yX12_power).before args s = true := cwS 2 hts (TB_S hl tw_1111 tw_9 tw_1112) rfl rfl rfl (by decide +kernel) hR
set_option maxHeartbeats 4000000 in
set_option maxRecDepth 100000 in
/-- growth -/
theorem c_X12_growth (l : Launch) (D : va_G) (cy : Nat → ClassId) (sz : Nat) (cs : List Nat) (ad : Nat → Nat) (en : Nat → va_E) (hI : RX cy cs ad en) (a9 b9 n9 : Int32)   : Met l yX12_growth (Cond.code yX12_growth cX12_growth 7 (some .int) :: TB) (rmN 4) (va_Pc [.ref (ad 0), .int a9, .int b9, .int n9] (Pre D cy cs ad en sz)) (va_Qi (S := Nat → va_E) (fun r en1 => RX cy cs ad en1 ∧ (∀ c, (c ≠ 0 ∧ c ≠ 6 ∧ c ≠ 7 ∧ c ≠ 8 ∧ c ≠ 9) → en1 c = en c) ∧ KP en en1) (PostM D cs ad) (Af cs ad sz)) 0 0 (Af cs ad sz) := by
  refine Met.ofW (cc := cX12_growth) (maxL := 7) (ret := (some .int)) (by decide) rfl ?_
  intro p e s m args below meth c s₁ B hml hv
  obtain ⟨rfl, hsz, hP, hK, hD0⟩ := hv
  have hx := B.exec
  have hb := B.bytes
  have hr := B.returns
  have hts : ∀ w ∈ TB, w.before _ s = true := fun w h => atoms_spec (ws := _ :: TB) B.pre w (List.mem_cons_of_mem _ h)
  have hown : s.vm.findClass RX12 = some m.cls := findClass_of_methodNamed B.named
  have hlocks := B.notSynchronized
  have hh : Hp D (Af cs ad sz) (Af cs ad sz) s.heap s.heap [] cs ad en := ⟨hP, Af_self hD0, va_S.rf⟩
  have hA : ∀ q : Nat, s.heap.size ≤ q → Af cs ad sz q := fun q h => Or.inr (by rw [hsz] at h; exact h)
  have hl := lv_entry ([.ref (ad 0), .int a9, .int b9, .int n9]) (n := 7) (Nat.le_of_ble_eq_true rfl)
  rw [lg_entry_eq]
  generalize (lg_sl ([.ref (ad 0), .int a9, .int b9, .int n9]) ++ List.replicate (7 - (lg_sl ([.ref (ad 0), .int a9, .int b9, .int n9])).length) Slot.unset).toArray = ls at hl ⊢
  have hl : lv_has ls 7 [(0, .ref (ad 0)), (1, .int a9), (2, .int b9), (3, .int n9)] := hl
  have hf0 : ∀ c, (c ≠ 0 ∧ c ≠ 6 ∧ c ≠ 7 ∧ c ≠ 8 ∧ c ≠ 9) → en c = en c := fun _ _ => rfl
  obtain ⟨fa, hi, wd, mo, tb, dp, many, grt, lst, nou, rm, rb, pr, wo, es1556, hwd2, hwd3, hmo, htb, hwo⟩ := getr_M hI
  refine lv_iload_n hx hb dX12_growth_0 rfl (lv_at hl 1 rfl) ?_
  refine lv_i2l hx hb dX12_growth_1 rfl ?_
  refine lv_lconst (v := 1) hx hb dX12_growth_2 (by decide) ?_
  refine lv_ldc2 hx hb hown (hts _ tw_1002) dX12_growth_3 ?_
  refine hp_callRi (va_runS (As := [.long a9.toInt64, .long 1, .long 9]) (rest := []) ⟨hx, hb, hml, hown, hts⟩ (c_X12_within l D cy _ cs ad en a9.toInt64 1 9) (kw_X12_within hts tw_985 ⟨by decide, by decide⟩) (preS_of hh hK) rfl rfl hl.1 rfl (lv_room (Nat.le_of_ble_eq_true rfl)) dX12_growth_6 ⟨Nat.le_of_ble_eq_true rfl, Nat.le_of_ble_eq_true rfl⟩) hh hA (fun r_1557 H locs hw_1557 hh => ?_)
  rcases Decidable.em (wi a9 1 9) with hp_1557 | hp_1557
  · obtain rfl : r_1557 = 1 := Eq.trans hw_1557 (if_pos ((wj_32 (by decide) (by decide)).mpr hp_1557))
    obtain ⟨N_1557, rfl, hA_1557, hB_1557⟩ := wi_natB hp_1557 1 9 (by decide) (by decide)
    refine lv_if_eq (tgt := 36) hx hb dX12_growth_9 (by decide) (fun c_0 => absurd c_0 (by decide)) (fun _ => ?_)
    refine lv_iload_n hx hb dX12_growth_12 rfl (lv_at hl 2 rfl) ?_
    refine lv_i2l hx hb dX12_growth_13 rfl ?_
    refine lv_lconst (v := 1) hx hb dX12_growth_14 (by decide) ?_
    refine lv_ldc2 hx hb hown (hts _ tw_1002) dX12_growth_15 ?_
    refine hp_callRi (va_runS (As := [.long b9.toInt64, .long 1, .long 9]) (rest := []) ⟨hx, hb, hml, hown, hts⟩ (c_X12_within l D cy _ cs ad en b9.toInt64 1 9) (kw_X12_within hts tw_985 ⟨by decide, by decide⟩) (preS_of hh hK) rfl rfl hl.1 rfl (lv_room (Nat.le_of_ble_eq_true rfl)) dX12_growth_18 ⟨Nat.le_of_ble_eq_true rfl, Nat.le_of_ble_eq_true rfl⟩) hh hA (fun r_1558 H locs hw_1558 hh => ?_)
    rcases Decidable.em (wi b9 1 9) with hp_1558 | hp_1558
    · obtain rfl : r_1558 = 1 := Eq.trans hw_1558 (if_pos ((wj_32 (by decide) (by decide)).mpr hp_1558))
      obtain ⟨N_1558, rfl, hA_1558, hB_1558⟩ := wi_natB hp_1558 1 9 (by decide) (by decide)
      refine lv_if_eq (tgt := 36) hx hb dX12_growth_21 (by decide) (fun c_0 => absurd c_0 (by decide)) (fun _ => ?_)
      refine lv_iload_n hx hb dX12_growth_24 rfl (lv_at hl 3 rfl) ?_
      refine lv_i2l hx hb dX12_growth_25 rfl ?_
      refine lv_lconst (v := 1) hx hb dX12_growth_26 (by decide) ?_
      refine lv_ldc2 hx hb hown (hts _ tw_1109) dX12_growth_27 ?_
      refine hp_callRi (va_runS (As := [.long n9.toInt64, .long 1, .long 7]) (rest := []) ⟨hx, hb, hml, hown, hts⟩ (c_X12_within l D cy _ cs ad en n9.toInt64 1 7) (kw_X12_within hts tw_985 ⟨by decide, by decide⟩) (preS_of hh hK) rfl rfl hl.1 rfl (lv_room (Nat.le_of_ble_eq_true rfl)) dX12_growth_30 ⟨Nat.le_of_ble_eq_true rfl, Nat.le_of_ble_eq_true rfl⟩) hh hA (fun r_1559 H locs hw_1559 hh => ?_)
      rcases Decidable.em (wi n9 1 7) with hp_1559 | hp_1559
      · obtain rfl : r_1559 = 1 := Eq.trans hw_1559 (if_pos ((wj_32 (by decide) (by decide)).mpr hp_1559))
        obtain ⟨N_1559, rfl, hA_1559, hB_1559⟩ := wi_natB hp_1559 1 7 (by decide) (by decide)
        refine lv_if_ne (tgt := 39) hx hb dX12_growth_33 (by decide) (fun _ => ?_) (fun c_0 => absurd c_0 (by decide))
        refine lv_aload_n hx hb dX12_growth_39 rfl (lv_at hl 0 rfl) ?_
        refine hp_get hx hb hts ix12 hown hK hh (q := 0) rfl (hI.1 _ (by decide)) es1556 rfl 3 (by decide) (hts _ tw_882) (fun _ h9 => h9) rfl dX12_growth_40 ?_
        refine lv_if_gt (tgt := 53) hx hb dX12_growth_43 (by decide) (fun c_1560 => ?_) (fun c_1560 => ?_)
        · have n_1560 : 0 < mo := n_lt (a := 0) (b := mo) c_1560 (by decide) (by omega)
          refine lv_bipush (v := (-3)) hx hb dX12_growth_53 (by decide) ?_
          exact hp_iretM hx hb hr rfl hlocks hh (⟨hI, hf0, (KP_rf en)⟩) dX12_growth_55
        · have n_1560 : mo ≤ 0 := n_nlt (a := 0) (b := mo) c_1560 (by decide) (by omega)
          refine lv_aload_n hx hb dX12_growth_46 rfl (lv_at hl 0 rfl) ?_
          refine hp_get hx hb hts ix12 hown hK hh (q := 0) rfl (hI.1 _ (by decide)) es1556 rfl 4 (by decide) (hts _ tw_883) (fun _ h9 => h9) rfl dX12_growth_47 ?_
          refine lv_if_ne (tgt := 56) hx hb dX12_growth_50 (by decide) (fun c_1561 => ?_) (fun c_1561 => ?_)
          · have n_1561 : tb ≠ 0 := n_neq (a := tb) (b := 0) c_1561 (by omega) (by decide)
            refine lv_iconst (v := 1) hx hb dX12_growth_56 (by decide) ?_
            refine lv_istore (lv' := [(4, .int 1), (0, .ref (ad 0)), (1, .int (nI N_1557)), (2, .int (nI N_1558)), (3, .int (nI N_1559))]) hx hb dX12_growth_57 hl (by decide) rfl (fun ls hl => ?_)
            have loop_1562 : ∀ (fu j1562 : Nat)  (en_1562 : Nat → va_E) (ls : Array Slot) (H : Heap) (locs : List Loc), 1 ≤ j1562 → j1562 ≤ (N_1559 + 1) → (N_1559 + 1) < j1562 + fu → RX cy cs ad en_1562 → (∀ c, (c ≠ 0 ∧ c ≠ 6 ∧ c ≠ 7 ∧ c ≠ 8 ∧ c ≠ 9) → en_1562 c = en c) → (KP en en_1562) → lv_has ls 7 [(4, .int (nI j1562)), (0, .ref (ad 0)), (1, .int (nI N_1557)), (2, .int (nI N_1558)), (3, .int (nI N_1559))] → Hp D (Af cs ad sz) (Af cs ad sz) s.heap H locs cs ad en_1562 → W p l e (headSpec (Cond.code yX12_growth cX12_growth 7 (some .int) :: TB) (rmN 4)).room s m ([.ref (ad 0), .int (nI N_1557), .int (nI N_1558), .int (nI N_1559)] : List Value).toArray below meth c H locs 0 0 (MQ below (va_Qi (S := Nat → va_E) (fun r en1 => RX cy cs ad en1 ∧ (∀ c, (c ≠ 0 ∧ c ≠ 6 ∧ c ≠ 7 ∧ c ≠ 8 ∧ c ≠ 9) → en1 c = en c) ∧ KP en en1) (PostM D cs ad) (Af cs ad sz)) ([.ref (ad 0), .int (nI N_1557), .int (nI N_1558), .int (nI N_1559)] : List Value).toArray s 0 0 (Af cs ad sz)) (F0 m 59 ls []) := by
              intro fu
              induction fu with
              | zero => intro j1562  en_1562 ls H locs h0 h1 h2; exact absurd h2 (by omega)
              | succ fu ih_1562 =>
                intro j1562  en_1562 ls H locs hj0_1562 hj_1562 hfu_1562 hI_1562 hf_1562 i0_1562 hl hh
                refine lv_iload hx hb dX12_growth_59 (lv_at hl 0 rfl) ?_
                refine lv_iload_n hx hb dX12_growth_61 rfl (lv_at hl 4 rfl) ?_
                refine lv_icmp_gt (tgt := 83) hx hb dX12_growth_62 (by decide) (fun c_1563 => ?_) (fun c_1563 => ?_)
                · have n_1563 : N_1559 < j1562 := n_lt (a := N_1559) (b := j1562) c_1563 (by omega) (by omega)
                  refine lv_iconst (v := 0) hx hb dX12_growth_83 (by decide) ?_
                  refine lv_istore (lv' := [(4, .int 0), (0, .ref (ad 0)), (1, .int (nI N_1557)), (2, .int (nI N_1558)), (3, .int (nI N_1559))]) hx hb dX12_growth_84 hl (by decide) rfl (fun ls hl => ?_)
                  refine lv_iconst (v := 1) hx hb dX12_growth_86 (by decide) ?_
                  refine lv_istore (lv' := [(5, .int 1), (4, .int 0), (0, .ref (ad 0)), (1, .int (nI N_1557)), (2, .int (nI N_1558)), (3, .int (nI N_1559))]) hx hb dX12_growth_87 hl (by decide) rfl (fun ls hl => ?_)
                  have loop_1564 : ∀ (fu j1564 : Nat) (be1564 : Int32) (en_1564 : Nat → va_E) (ls : Array Slot) (H : Heap) (locs : List Loc), 1 ≤ j1564 → j1564 ≤ (N_1559 + 1) → (N_1559 + 1) < j1564 + fu → RX cy cs ad en_1564 → (∀ c, (c ≠ 0 ∧ c ≠ 6 ∧ c ≠ 7 ∧ c ≠ 8 ∧ c ≠ 9) → en_1564 c = en c) → (KP en en_1564) → lv_has ls 7 [(5, .int (nI j1564)), (4, .int be1564), (0, .ref (ad 0)), (1, .int (nI N_1557)), (2, .int (nI N_1558)), (3, .int (nI N_1559))] → Hp D (Af cs ad sz) (Af cs ad sz) s.heap H locs cs ad en_1564 → W p l e (headSpec (Cond.code yX12_growth cX12_growth 7 (some .int) :: TB) (rmN 4)).room s m ([.ref (ad 0), .int (nI N_1557), .int (nI N_1558), .int (nI N_1559)] : List Value).toArray below meth c H locs 0 0 (MQ below (va_Qi (S := Nat → va_E) (fun r en1 => RX cy cs ad en1 ∧ (∀ c, (c ≠ 0 ∧ c ≠ 6 ∧ c ≠ 7 ∧ c ≠ 8 ∧ c ≠ 9) → en1 c = en c) ∧ KP en en1) (PostM D cs ad) (Af cs ad sz)) ([.ref (ad 0), .int (nI N_1557), .int (nI N_1558), .int (nI N_1559)] : List Value).toArray s 0 0 (Af cs ad sz)) (F0 m 89 ls []) := by
                    intro fu
                    induction fu with
                    | zero => intro j1564 be1564 en_1564 ls H locs h0 h1 h2; exact absurd h2 (by omega)
                    | succ fu ih_1564 =>
                      intro j1564 be1564 en_1564 ls H locs hj0_1564 hj_1564 hfu_1564 hI_1564 hf_1564 i0_1564 hl hh
                      refine lv_iload hx hb dX12_growth_89 (lv_at hl 0 rfl) ?_
                      refine lv_iload_n hx hb dX12_growth_91 rfl (lv_at hl 5 rfl) ?_
                      refine lv_icmp_gt (tgt := 220) hx hb dX12_growth_92 (by decide) (fun c_1565 => ?_) (fun c_1565 => ?_)
                      · have n_1565 : N_1559 < j1564 := n_lt (a := N_1559) (b := j1564) c_1565 (by omega) (by omega)
                        refine lv_iload hx hb dX12_growth_220 (lv_at hl 1 rfl) ?_
                        refine lv_if_eq (tgt := 229) hx hb dX12_growth_222 (by decide) (fun c_1566 => ?_) (fun c_1566 => ?_)
                        · refine lv_iconst (v := 0) hx hb dX12_growth_229 (by decide) ?_
                          exact hp_iretM hx hb hr rfl hlocks hh (⟨hI_1564, hf_1564, i0_1564⟩) dX12_growth_230
                        · refine lv_iconst (v := (-1)) hx hb dX12_growth_225 (by decide) ?_
                          refine lv_goto (tgt := 230) hx hb dX12_growth_226 (by decide) ?_
                          exact hp_iretM hx hb hr rfl hlocks hh (⟨hI_1564, hf_1564, i0_1564⟩) dX12_growth_230
                      · have n_1565 : j1564 ≤ N_1559 := n_nlt (a := N_1559) (b := j1564) c_1565 (by omega) (by omega)
                        refine lv_iconst (v := 1) hx hb dX12_growth_95 (by decide) ?_
                        refine lv_istore (lv' := [(6, .int 1), (5, .int (nI j1564)), (4, .int be1564), (0, .ref (ad 0)), (1, .int (nI N_1557)), (2, .int (nI N_1558)), (3, .int (nI N_1559))]) hx hb dX12_growth_96 hl (by decide) rfl (fun ls hl => ?_)
                        refine lv_aload_n hx hb dX12_growth_98 rfl (lv_at hl 3 rfl) ?_
                        obtain ⟨fa_1567, hi_1567, wd_1567, mo_1567, tb_1567, dp_1567, many_1567, grt_1567, lst_1567, nou_1567, rm_1567, rb_1567, pr_1567, wo_1567, es1567, p0_1567, p1_1567, p2_1567, p3_1567, p4_1567⟩ := getr_M hI_1564
                        have hq2_1568 : wd_1567 = wd := n_eq ((show nI wd_1567 = rdI (en_1564 0) 2 from by rw [es1567]; rfl).trans (i0_1564.2.1.trans (show rdI (en 0) 2 = nI wd from by rw [es1556]; rfl))) (by omega) (by omega)
                        have hq3_1568 : mo_1567 = mo := n_eq ((show nI mo_1567 = rdI (en_1564 0) 3 from by rw [es1567]; rfl).trans (i0_1564.2.2.1.trans (show rdI (en 0) 3 = nI mo from by rw [es1556]; rfl))) (by omega) (by omega)
                        have hq4_1568 : tb_1567 = tb := n_eq ((show nI tb_1567 = rdI (en_1564 0) 4 from by rw [es1567]; rfl).trans (i0_1564.2.2.2.1.trans (show rdI (en 0) 4 = nI tb from by rw [es1556]; rfl))) (by omega) (by omega)
                        have hq30_1568 : wo_1567 = wo := n_eq ((show nI wo_1567 = rdI (en_1564 0) 30 from by rw [es1567]; rfl).trans (i0_1564.2.2.2.2.2.trans (show rdI (en 0) 30 = nI wo from by rw [es1556]; rfl))) (by omega) (by omega)
                        rw [hq2_1568, hq3_1568, hq4_1568, hq30_1568] at es1567
                        refine hp_callMv (va_runV (As := []) (rest := []) ⟨hx, hb, hml, hown, hts⟩ (c_X12_beginWords l D cy _ cs ad en_1564 hI_1564  ) (kw_X12_beginWords hts tw_1038 ⟨by decide, by decide⟩) (preV_of hh hK (hI.1 _ (by decide)) es1567 rfl) rfl rfl hl.1 rfl (lv_room (Nat.le_of_ble_eq_true rfl)) dX12_growth_99 ⟨Nat.le_of_ble_eq_true rfl, Nat.le_of_ble_eq_true rfl⟩) hh hA (fun H locs en_1569 hw_1569 hh => ?_)
                        obtain ⟨hI_1569, hu_1569, hd0_1569, hg0_1569, hx_1569⟩ := hw_1569
                        have hND_1569 : ND en_1569 j1564 0 0 := ⟨by omega, Or.inl hd0_1569, fun i h => absurd h (Nat.not_lt_zero i), by rw [hg0_1569]; decide, by omega⟩
                        have hf_1569 : ∀ c, (c ≠ 0 ∧ c ≠ 6 ∧ c ≠ 7 ∧ c ≠ 8 ∧ c ≠ 9) → en_1569 c = en c := fun c hc => (hu_1569 c (by omega)).trans (hf_1564 c hc)
                        have hkp_1569 : KP en en_1569 := KP_tr i0_1564 hx_1569
                        have loop_1570 : ∀ (fu mm1570 : Nat) (al1570 : Int32) (d1570 : Nat) (u1570 : Nat) (en_1570 : Nat → va_E) (ls : Array Slot) (H : Heap) (locs : List Loc), mm1570 < fu → RX cy cs ad en_1570 → (∀ c, (c ≠ 0 ∧ c ≠ 6 ∧ c ≠ 7 ∧ c ≠ 8 ∧ c ≠ 9) → en_1570 c = en c) → (ND en_1570 j1564 d1570 u1570) → (134217728 ≤ nmv (rdF (en_1570 7)) d1570 u1570 + mm1570) → (KP en en_1570) → lv_has ls 7 [(6, .int al1570), (5, .int (nI j1564)), (4, .int be1564), (0, .ref (ad 0)), (1, .int (nI N_1557)), (2, .int (nI N_1558)), (3, .int (nI N_1559))] → Hp D (Af cs ad sz) (Af cs ad sz) s.heap H locs cs ad en_1570 → W p l e (headSpec (Cond.code yX12_growth cX12_growth 7 (some .int) :: TB) (rmN 4)).room s m ([.ref (ad 0), .int (nI N_1557), .int (nI N_1558), .int (nI N_1559)] : List Value).toArray below meth c H locs 0 0 (MQ below (va_Qi (S := Nat → va_E) (fun r en1 => RX cy cs ad en1 ∧ (∀ c, (c ≠ 0 ∧ c ≠ 6 ∧ c ≠ 7 ∧ c ≠ 8 ∧ c ≠ 9) → en1 c = en c) ∧ KP en en1) (PostM D cs ad) (Af cs ad sz)) ([.ref (ad 0), .int (nI N_1557), .int (nI N_1558), .int (nI N_1559)] : List Value).toArray s 0 0 (Af cs ad sz)) (F0 m 102 ls []) := by
                          intro fu
                          induction fu with
                          | zero => intro mm1570 al1570 d1570 u1570 en_1570 ls H locs h2; exact absurd h2 (by omega)
                          | succ fu ih_1570 =>
                            intro mm1570 al1570 d1570 u1570 en_1570 ls H locs hmm_1570 hI_1570 hf_1570 i0_1570 i1_1570 i2_1570 hl hh
                            have hlt_1570 := nmv_lt i0_1570.2.2 (by have h9 := i0_1570.1; omega)
                            have hwd_1570 := i0_1570.1
                            refine lv_aload_n hx hb dX12_growth_102 rfl (lv_at hl 3 rfl) ?_
                            refine lv_iload hx hb dX12_growth_103 (lv_at hl 1 rfl) ?_
                            obtain ⟨fa_1571, hi_1571, wd_1571, mo_1571, tb_1571, dp_1571, many_1571, grt_1571, lst_1571, nou_1571, rm_1571, rb_1571, pr_1571, wo_1571, es1571, p0_1571, p1_1571, p2_1571, p3_1571, p4_1571⟩ := getr_M hI_1570
                            have hq2_1572 : wd_1571 = wd := n_eq ((show nI wd_1571 = rdI (en_1570 0) 2 from by rw [es1571]; rfl).trans (i2_1570.2.1.trans (show rdI (en 0) 2 = nI wd from by rw [es1556]; rfl))) (by omega) (by omega)
                            have hq3_1572 : mo_1571 = mo := n_eq ((show nI mo_1571 = rdI (en_1570 0) 3 from by rw [es1571]; rfl).trans (i2_1570.2.2.1.trans (show rdI (en 0) 3 = nI mo from by rw [es1556]; rfl))) (by omega) (by omega)
                            have hq4_1572 : tb_1571 = tb := n_eq ((show nI tb_1571 = rdI (en_1570 0) 4 from by rw [es1571]; rfl).trans (i2_1570.2.2.2.1.trans (show rdI (en 0) 4 = nI tb from by rw [es1556]; rfl))) (by omega) (by omega)
                            have hq30_1572 : wo_1571 = wo := n_eq ((show nI wo_1571 = rdI (en_1570 0) 30 from by rw [es1571]; rfl).trans (i2_1570.2.2.2.2.2.trans (show rdI (en 0) 30 = nI wo from by rw [es1556]; rfl))) (by omega) (by omega)
                            rw [hq2_1572, hq3_1572, hq4_1572, hq30_1572] at es1571
                            refine hp_callMi (va_runV (As := [.int (nI j1564)]) (rest := []) ⟨hx, hb, hml, hown, hts⟩ (c_X12_next l D cy _ cs ad en_1570 hI_1570 j1564 (by omega) (by omega) d1570 u1570 i0_1570) (kw_X12_next hts tw_1046 ⟨by decide, by decide⟩) (preV_of hh hK (hI.1 _ (by decide)) es1571 rfl) rfl rfl hl.1 rfl (lv_room (Nat.le_of_ble_eq_true rfl)) dX12_growth_105 ⟨Nat.le_of_ble_eq_true rfl, Nat.le_of_ble_eq_true rfl⟩) hh hA (fun r_1573 H locs en_1573 hw_1573 hh => ?_)
                            obtain ⟨hI_1573, hu_1573, hx_1573, hkq_1573⟩ := hw_1573
                            have hf_1573 : ∀ c, (c ≠ 0 ∧ c ≠ 6 ∧ c ≠ 7 ∧ c ≠ 8 ∧ c ≠ 9) → en_1573 c = en c := fun c hc => (hu_1573 c (by omega)).trans (hf_1570 c hc)
                            have hkp_1573 : KP en en_1573 := KP_tr i2_1570 hkq_1573
                            rcases hx_1573 with hr_1573 | ⟨hr_1573, u1_1573, hND_1573, hu1_1573, hnm_1573⟩
                            · rw [hr_1573]
                              refine lv_if_eq (tgt := 207) hx hb dX12_growth_108 (by decide) (fun _ => ?_) (fun c_0 => absurd c_0 (by decide))
                              refine lv_iload hx hb dX12_growth_207 (lv_at hl 2 rfl) ?_
                              refine lv_iload hx hb dX12_growth_209 (lv_at hl 0 rfl) ?_
                              refine lv_ior hx hb dX12_growth_211 ?_
                              refine lv_istore (lv' := [(4, .int (be1564 ||| al1570)), (6, .int al1570), (5, .int (nI j1564)), (0, .ref (ad 0)), (1, .int (nI N_1557)), (2, .int (nI N_1558)), (3, .int (nI N_1559))]) hx hb dX12_growth_212 hl (by decide) rfl (fun ls hl => ?_)
                              refine lv_iinc (v := (nI (j1564 + 1))) (lv' := [(5, .int (nI (j1564 + 1))), (4, .int (be1564 ||| al1570)), (6, .int al1570), (0, .ref (ad 0)), (1, .int (nI N_1557)), (2, .int (nI N_1558)), (3, .int (nI N_1559))]) hx hb dX12_growth_214 hl (k := 2) rfl (nI_1 _) (by decide) rfl (fun ls hl => ?_)
                              refine lv_goto (tgt := 89) hx hb dX12_growth_217 (by decide) ?_
                              exact ih_1564 ((j1564 + 1)) (be1564 ||| al1570) en_1573 ls H locs (by omega) (by omega) (by omega) hI_1573 hf_1573 (hkp_1573) (lv_sub hl [0, 1, 3, 4, 5, 6] rfl) hh
                            · rw [hr_1573]
                              have hall_1573 := NW_all hND_1573.2.2 (by omega) hu1_1573
                              refine lv_if_eq (tgt := 207) hx hb dX12_growth_108 (by decide) (fun c_0 => absurd c_0 (by decide)) (fun _ => ?_)
                              have join_1574 : ∀  (en_1574 : Nat → va_E) (ls : Array Slot) (H : Heap) (locs : List Loc), RX cy cs ad en_1574 → (∀ c, (c ≠ 0 ∧ c ≠ 6 ∧ c ≠ 7 ∧ c ≠ 8 ∧ c ≠ 9) → en_1574 c = en c) → KP en en_1574 → SD en_1573 en_1574 → lv_has ls 7 [(6, .int al1570), (5, .int (nI j1564)), (4, .int be1564), (0, .ref (ad 0)), (1, .int (nI N_1557)), (2, .int (nI N_1558)), (3, .int (nI N_1559))] → Hp D (Af cs ad sz) (Af cs ad sz) s.heap H locs cs ad en_1574 → W p l e (headSpec (Cond.code yX12_growth cX12_growth 7 (some .int) :: TB) (rmN 4)).room s m ([.ref (ad 0), .int (nI N_1557), .int (nI N_1558), .int (nI N_1559)] : List Value).toArray below meth c H locs 0 0 (MQ below (va_Qi (S := Nat → va_E) (fun r en1 => RX cy cs ad en1 ∧ (∀ c, (c ≠ 0 ∧ c ≠ 6 ∧ c ≠ 7 ∧ c ≠ 8 ∧ c ≠ 9) → en1 c = en c) ∧ KP en en1) (PostM D cs ad) (Af cs ad sz)) ([.ref (ad 0), .int (nI N_1557), .int (nI N_1558), .int (nI N_1559)] : List Value).toArray s 0 0 (Af cs ad sz)) (F0 m 169 ls []) := by
                                intro  en_1574 ls H locs hI_1574 hf_1574 hkp_1574 hsd_1574  hl hh
                                refine lv_iload hx hb dX12_growth_169 (lv_at hl 0 rfl) ?_
                                refine lv_aload_n hx hb dX12_growth_171 rfl (lv_at hl 3 rfl) ?_
                                refine lv_iload hx hb dX12_growth_172 (lv_at hl 1 rfl) ?_
                                obtain ⟨fa_1575, hi_1575, wd_1575, mo_1575, tb_1575, dp_1575, many_1575, grt_1575, lst_1575, nou_1575, rm_1575, rb_1575, pr_1575, wo_1575, es1575, p0_1575, p1_1575, p2_1575, p3_1575, p4_1575⟩ := getr_M hI_1574
                                have hq2_1576 : wd_1575 = wd := n_eq ((show nI wd_1575 = rdI (en_1574 0) 2 from by rw [es1575]; rfl).trans (hkp_1574.2.1.trans (show rdI (en 0) 2 = nI wd from by rw [es1556]; rfl))) (by omega) (by omega)
                                have hq3_1576 : mo_1575 = mo := n_eq ((show nI mo_1575 = rdI (en_1574 0) 3 from by rw [es1575]; rfl).trans (hkp_1574.2.2.1.trans (show rdI (en 0) 3 = nI mo from by rw [es1556]; rfl))) (by omega) (by omega)
                                have hq4_1576 : tb_1575 = tb := n_eq ((show nI tb_1575 = rdI (en_1574 0) 4 from by rw [es1575]; rfl).trans (hkp_1574.2.2.2.1.trans (show rdI (en 0) 4 = nI tb from by rw [es1556]; rfl))) (by omega) (by omega)
                                have hq30_1576 : wo_1575 = wo := n_eq ((show nI wo_1575 = rdI (en_1574 0) 30 from by rw [es1575]; rfl).trans (hkp_1574.2.2.2.2.2.trans (show rdI (en 0) 30 = nI wo from by rw [es1556]; rfl))) (by omega) (by omega)
                                rw [hq2_1576, hq3_1576, hq4_1576, hq30_1576] at es1575
                                refine hp_callRl (va_runV (As := [.int (nI j1564)]) (rest := [.int al1570]) ⟨hx, hb, hml, hown, hts⟩ (c_X12_normAt l D cy _ cs ad en_1574 hI_1574 j1564 (by omega)) (kw_X12_normAt hts tw_1058 ⟨by decide, by decide⟩) (preV_of hh hK (hI.1 _ (by decide)) es1575 rfl) rfl rfl hl.1 rfl (lv_room (Nat.le_of_ble_eq_true rfl)) dX12_growth_174 ⟨Nat.le_of_ble_eq_true rfl, Nat.le_of_ble_eq_true rfl⟩) hh hA (fun r_1577 H locs hw_1577 hh => ?_)
                                refine lv_iload_n hx hb dX12_growth_177 rfl (lv_at hl 5 rfl) ?_
                                refine lv_i2l hx hb dX12_growth_178 rfl ?_
                                refine lv_iload hx hb dX12_growth_179 (lv_at hl 1 rfl) ?_
                                refine hp_callRl (va_runS (As := [.long ((nI N_1558).toInt64), .int (nI j1564)]) (rest := [.long r_1577, .int al1570]) ⟨hx, hb, hml, hown, hts⟩ (c_X12_power l D cy _ cs ad en_1574 hI_1574 ((nI N_1558).toInt64) j1564 (by omega)) (kw_X12_power hts tw_1110 ⟨by decide, by decide⟩) (preS_of hh hK) rfl rfl hl.1 rfl (lv_room (Nat.le_of_ble_eq_true rfl)) dX12_growth_181 ⟨Nat.le_of_ble_eq_true rfl, Nat.le_of_ble_eq_true rfl⟩) hh hA (fun r_1578 H locs hw_1578 hh => ?_)
                                refine lv_lmul hx hb dX12_growth_184 ?_
                                refine lv_iload_n hx hb dX12_growth_185 rfl (lv_at hl 4 rfl) ?_
                                refine lv_i2l hx hb dX12_growth_186 rfl ?_
                                refine lv_iload hx hb dX12_growth_187 (lv_at hl 1 rfl) ?_
                                refine hp_callRl (va_runS (As := [.long ((nI N_1557).toInt64), .int (nI j1564)]) (rest := [.long (r_1577 * r_1578), .int al1570]) ⟨hx, hb, hml, hown, hts⟩ (c_X12_power l D cy _ cs ad en_1574 hI_1574 ((nI N_1557).toInt64) j1564 (by omega)) (kw_X12_power hts tw_1110 ⟨by decide, by decide⟩) (preS_of hh hK) rfl rfl hl.1 rfl (lv_room (Nat.le_of_ble_eq_true rfl)) dX12_growth_189 ⟨Nat.le_of_ble_eq_true rfl, Nat.le_of_ble_eq_true rfl⟩) hh hA (fun r_1579 H locs hw_1579 hh => ?_)
                                refine W.lcmp hx hb dX12_growth_192 ?_
                                refine lv_if_ge (tgt := 200) hx hb dX12_growth_193 (by decide) (fun c_1580 => ?_) (fun c_1580 => ?_)
                                · refine lv_iconst (v := 0) hx hb dX12_growth_200 (by decide) ?_
                                  refine lv_iand hx hb dX12_growth_201 ?_
                                  refine lv_istore (lv' := [(6, .int (al1570 &&& 0)), (5, .int (nI j1564)), (4, .int be1564), (0, .ref (ad 0)), (1, .int (nI N_1557)), (2, .int (nI N_1558)), (3, .int (nI N_1559))]) hx hb dX12_growth_202 hl (by decide) rfl (fun ls hl => ?_)
                                  refine lv_goto (tgt := 102) hx hb dX12_growth_204 (by decide) ?_
                                  exact ih_1570 (mm1570 - 1) (al1570 &&& 0) (j1564 - 1) u1_1573 en_1574 ls H locs (by omega) hI_1574 hf_1574 (ND_sd hND_1573 hsd_1574) (by rw [hsd_1574.2]; have h1 := hnm_1573; have h2 := i1_1570; omega) (hkp_1574) (lv_sub hl [0, 1, 2, 3, 4, 5, 6] rfl) hh
                                · refine lv_iconst (v := 1) hx hb dX12_growth_196 (by decide) ?_
                                  refine lv_goto (tgt := 201) hx hb dX12_growth_197 (by decide) ?_
                                  refine lv_iand hx hb dX12_growth_201 ?_
                                  refine lv_istore (lv' := [(6, .int (al1570 &&& 1)), (5, .int (nI j1564)), (4, .int be1564), (0, .ref (ad 0)), (1, .int (nI N_1557)), (2, .int (nI N_1558)), (3, .int (nI N_1559))]) hx hb dX12_growth_202 hl (by decide) rfl (fun ls hl => ?_)
                                  refine lv_goto (tgt := 102) hx hb dX12_growth_204 (by decide) ?_
                                  exact ih_1570 (mm1570 - 1) (al1570 &&& 1) (j1564 - 1) u1_1573 en_1574 ls H locs (by omega) hI_1574 hf_1574 (ND_sd hND_1573 hsd_1574) (by rw [hsd_1574.2]; have h1 := hnm_1573; have h2 := i1_1570; omega) (hkp_1574) (lv_sub hl [0, 1, 2, 3, 4, 5, 6] rfl) hh
                              refine lv_aload_n hx hb dX12_growth_111 rfl (lv_at hl 3 rfl) ?_
                              refine lv_aload_n hx hb dX12_growth_112 rfl (lv_at hl 3 rfl) ?_
                              obtain ⟨fa_1581, hi_1581, wd_1581, mo_1581, tb_1581, dp_1581, many_1581, grt_1581, lst_1581, nou_1581, rm_1581, rb_1581, pr_1581, wo_1581, es1581, p0_1581, p1_1581, p2_1581, p3_1581, p4_1581⟩ := getr_M hI_1573
                              have hq2_1582 : wd_1581 = wd := n_eq ((show nI wd_1581 = rdI (en_1573 0) 2 from by rw [es1581]; rfl).trans (hkp_1573.2.1.trans (show rdI (en 0) 2 = nI wd from by rw [es1556]; rfl))) (by omega) (by omega)
                              have hq3_1582 : mo_1581 = mo := n_eq ((show nI mo_1581 = rdI (en_1573 0) 3 from by rw [es1581]; rfl).trans (hkp_1573.2.2.1.trans (show rdI (en 0) 3 = nI mo from by rw [es1556]; rfl))) (by omega) (by omega)
                              have hq4_1582 : tb_1581 = tb := n_eq ((show nI tb_1581 = rdI (en_1573 0) 4 from by rw [es1581]; rfl).trans (hkp_1573.2.2.2.1.trans (show rdI (en 0) 4 = nI tb from by rw [es1556]; rfl))) (by omega) (by omega)
                              have hq30_1582 : wo_1581 = wo := n_eq ((show nI wo_1581 = rdI (en_1573 0) 30 from by rw [es1581]; rfl).trans (hkp_1573.2.2.2.2.2.trans (show rdI (en 0) 30 = nI wo from by rw [es1556]; rfl))) (by omega) (by omega)
                              rw [hq2_1582, hq3_1582, hq4_1582, hq30_1582] at es1581
                              refine hp_get hx hb hts ix12 hown hK hh (q := 0) rfl (hI.1 _ (by decide)) es1581 rfl 11 (by decide) (hts _ tw_890) (fun _ h9 => h9) rfl dX12_growth_113 ?_
                              refine lv_iload hx hb dX12_growth_116 (lv_at hl 1 rfl) ?_
                              refine lv_iconst (v := 1) hx hb dX12_growth_118 (by decide) ?_
                              refine lv_isub hx hb dX12_growth_119 ?_
                              rw [show (1 : Int32) = nI 1 from rfl, pk_sub (a := j1564) (b := 1) (by omega)]
                              obtain ⟨f_1583, es1583⟩ := getr_nw hI_1573
                              refine hp_iald hx hb hK hh (q := 7) rfl (hI.1 _ (by decide)) es1583 (vp_in_nI (n := (j1564 - 1)) (by omega) (by decide)) dX12_growth_120 ?_
                              rw [nI_clamp (n := (j1564 - 1)) (by omega)]
                              obtain ⟨v_1584, hv_1584, hve_1584⟩ := hall_1573 (j1564 - 1) (by omega)
                              rw [show f_1583 (j1564 - 1) = nI v_1584 from (show f_1583 (j1564 - 1) = rdF (en_1573 7) (j1564 - 1) from by rw [← (SD_rf en_1573).2, es1583]; rfl).trans hve_1584]
                              refine lv_aload_n hx hb dX12_growth_121 rfl (lv_at hl 3 rfl) ?_
                              refine hp_get hx hb hts ix12 hown hK hh (q := 0) rfl (hI.1 _ (by decide)) es1581 rfl 11 (by decide) (hts _ tw_890) (fun _ h9 => h9) rfl dX12_growth_122 ?_
                              refine lv_iconst (v := 0) hx hb dX12_growth_125 (by decide) ?_
                              rw [show (0 : Int32) = nI 0 from rfl]
                              refine hp_iald hx hb hK hh (q := 7) rfl (hI.1 _ (by decide)) es1583 (vp_in_nI (n := 0) (by omega) (by decide)) dX12_growth_126 ?_
                              rw [nI_clamp (n := 0) (by omega)]
                              obtain ⟨v_1585, hv_1585, hve_1585⟩ := hall_1573 0 (by omega)
                              rw [show f_1583 0 = nI v_1585 from (show f_1583 0 = rdF (en_1573 7) 0 from by rw [← (SD_rf en_1573).2, es1583]; rfl).trans hve_1585]
                              refine hp_callRi (va_runV (As := [.int (nI v_1584), .int (nI v_1585)]) (rest := []) ⟨hx, hb, hml, hown, hts⟩ (c_X12_mayFollow l D cy _ cs ad en_1573 hI_1573 v_1584 v_1585 (by omega) (by omega)) (kw_X12_mayFollow hts tw_1029 ⟨by decide, by decide⟩) (preV_of hh hK (hI.1 _ (by decide)) es1581 rfl) rfl rfl hl.1 rfl (lv_room (Nat.le_of_ble_eq_true rfl)) dX12_growth_127 ⟨Nat.le_of_ble_eq_true rfl, Nat.le_of_ble_eq_true rfl⟩) hh hA (fun r_1586 H locs hw_1586 hh => ?_)
                              rcases Decidable.em (rdF (en_1573 2) (6 * v_1584 + v_1585) = 0) with hp_1586 | hp_1586
                              · obtain rfl : r_1586 = 1 := Eq.trans hw_1586 (if_pos hp_1586)
                                refine lv_if_eq (tgt := 169) hx hb dX12_growth_130 (by decide) (fun c_0 => absurd c_0 (by decide)) (fun _ => ?_)
                                refine lv_aload_n hx hb dX12_growth_133 rfl (lv_at hl 3 rfl) ?_
                                refine lv_iload hx hb dX12_growth_134 (lv_at hl 1 rfl) ?_
                                refine hp_callRl (va_runV (As := [.int (nI j1564)]) (rest := []) ⟨hx, hb, hml, hown, hts⟩ (c_X12_trackAt l D cy _ cs ad en_1573 hI_1573 j1564 (by omega)) (kw_X12_trackAt hts tw_1093 ⟨by decide, by decide⟩) (preV_of hh hK (hI.1 _ (by decide)) es1581 rfl) rfl rfl hl.1 rfl (lv_room (Nat.le_of_ble_eq_true rfl)) dX12_growth_136 ⟨Nat.le_of_ble_eq_true rfl, Nat.le_of_ble_eq_true rfl⟩) hh hA (fun r_1587 H locs hw_1587 hh => ?_)
                                refine hp_callRl (va_runS (As := [.long r_1587]) (rest := []) ⟨hx, hb, hml, hown, hts⟩ (c_X12_sizeOf l D cy _ cs ad en_1573 hI_1573 r_1587 ) (kw_X12_sizeOf hts tw_1062 ⟨by decide, by decide⟩) (preS_of hh hK) rfl rfl hl.1 rfl (lv_room (Nat.le_of_ble_eq_true rfl)) dX12_growth_139 ⟨Nat.le_of_ble_eq_true rfl, Nat.le_of_ble_eq_true rfl⟩) hh hA (fun r_1588 H locs hw_1588 hh => ?_)
                                obtain rfl : r_1588 = absR r_1587 := hw_1588
                                refine lv_iload_n hx hb dX12_growth_142 rfl (lv_at hl 5 rfl) ?_
                                refine lv_i2l hx hb dX12_growth_143 rfl ?_
                                refine lv_iload hx hb dX12_growth_144 (lv_at hl 1 rfl) ?_
                                refine hp_callRl (va_runS (As := [.long ((nI N_1558).toInt64), .int (nI j1564)]) (rest := [.long (absR r_1587)]) ⟨hx, hb, hml, hown, hts⟩ (c_X12_power l D cy _ cs ad en_1573 hI_1573 ((nI N_1558).toInt64) j1564 (by omega)) (kw_X12_power hts tw_1110 ⟨by decide, by decide⟩) (preS_of hh hK) rfl rfl hl.1 rfl (lv_room (Nat.le_of_ble_eq_true rfl)) dX12_growth_146 ⟨Nat.le_of_ble_eq_true rfl, Nat.le_of_ble_eq_true rfl⟩) hh hA (fun r_1589 H locs hw_1589 hh => ?_)
                                refine lv_lmul hx hb dX12_growth_149 ?_
                                refine lv_aload_n hx hb dX12_growth_150 rfl (lv_at hl 3 rfl) ?_
                                refine hp_get hx hb hts ix12 hown hK hh (q := 0) rfl (hI.1 _ (by decide)) es1581 rfl 2 (by decide) (hts _ tw_881) (fun _ h9 => h9) rfl dX12_growth_151 ?_
                                refine lv_i2l hx hb dX12_growth_154 rfl ?_
                                refine lv_iload_n hx hb dX12_growth_155 rfl (lv_at hl 4 rfl) ?_
                                refine lv_i2l hx hb dX12_growth_156 rfl ?_
                                refine lv_iload hx hb dX12_growth_157 (lv_at hl 1 rfl) ?_
                                refine hp_callRl (va_runS (As := [.long ((nI N_1557).toInt64), .int (nI j1564)]) (rest := [.long ((nI wd).toInt64), .long ((absR r_1587) * r_1589)]) ⟨hx, hb, hml, hown, hts⟩ (c_X12_power l D cy _ cs ad en_1573 hI_1573 ((nI N_1557).toInt64) j1564 (by omega)) (kw_X12_power hts tw_1110 ⟨by decide, by decide⟩) (preS_of hh hK) rfl rfl hl.1 rfl (lv_room (Nat.le_of_ble_eq_true rfl)) dX12_growth_159 ⟨Nat.le_of_ble_eq_true rfl, Nat.le_of_ble_eq_true rfl⟩) hh hA (fun r_1590 H locs hw_1590 hh => ?_)
                                refine lv_lmul hx hb dX12_growth_162 ?_
                                refine W.lcmp hx hb dX12_growth_163 ?_
                                refine lv_if_le (tgt := 169) hx hb dX12_growth_164 (by decide) (fun c_1591 => ?_) (fun c_1591 => ?_)
                                · exact join_1574  en_1573 ls _ _ hI_1573 hf_1573 hkp_1573 (SD_rf en_1573) (lv_sub hl [0, 1, 2, 3, 4, 5, 6] rfl) hh
                                · refine lv_iconst (v := 1) hx hb dX12_growth_167 (by decide) ?_
                                  exact hp_iretM hx hb hr rfl hlocks hh (⟨hI_1573, hf_1573, hkp_1573⟩) dX12_growth_168
                              · obtain rfl : r_1586 = 0 := Eq.trans hw_1586 (if_neg hp_1586)
                                refine lv_if_eq (tgt := 169) hx hb dX12_growth_130 (by decide) (fun _ => ?_) (fun c_0 => absurd c_0 (by decide))
                                exact join_1574  en_1573 ls _ _ hI_1573 hf_1573 hkp_1573 (SD_rf en_1573) (lv_sub hl [0, 1, 2, 3, 4, 5, 6] rfl) hh
                        exact loop_1570 (134217728 + 1) 134217728 1 0 0 en_1569 ls _ _ (by omega) hI_1569 hf_1569 (hND_1569) (by omega) (hkp_1569) (lv_sub hl [0, 1, 2, 3, 4, 5, 6] rfl) hh
                  exact loop_1564 ((N_1559 + 1) + 1) 1 0 en_1562 ls _ _ (Nat.le_refl _) (by omega) (by omega) hI_1562 hf_1562 (i0_1562) (lv_sub hl [0, 1, 2, 3, 4, 5] rfl) hh
                · have n_1563 : j1562 ≤ N_1559 := n_nlt (a := N_1559) (b := j1562) c_1563 (by omega) (by omega)
                  refine lv_aload_n hx hb dX12_growth_65 rfl (lv_at hl 1 rfl) ?_
                  refine lv_iload hx hb dX12_growth_66 (lv_at hl 0 rfl) ?_
                  obtain ⟨fa_1592, hi_1592, wd_1592, mo_1592, tb_1592, dp_1592, many_1592, grt_1592, lst_1592, nou_1592, rm_1592, rb_1592, pr_1592, wo_1592, es1592, p0_1592, p1_1592, p2_1592, p3_1592, p4_1592⟩ := getr_M hI_1562
                  have hq2_1593 : wd_1592 = wd := n_eq ((show nI wd_1592 = rdI (en_1562 0) 2 from by rw [es1592]; rfl).trans (i0_1562.2.1.trans (show rdI (en 0) 2 = nI wd from by rw [es1556]; rfl))) (by omega) (by omega)
                  have hq3_1593 : mo_1592 = mo := n_eq ((show nI mo_1592 = rdI (en_1562 0) 3 from by rw [es1592]; rfl).trans (i0_1562.2.2.1.trans (show rdI (en 0) 3 = nI mo from by rw [es1556]; rfl))) (by omega) (by omega)
                  have hq4_1593 : tb_1592 = tb := n_eq ((show nI tb_1592 = rdI (en_1562 0) 4 from by rw [es1592]; rfl).trans (i0_1562.2.2.2.1.trans (show rdI (en 0) 4 = nI tb from by rw [es1556]; rfl))) (by omega) (by omega)
                  have hq30_1593 : wo_1592 = wo := n_eq ((show nI wo_1592 = rdI (en_1562 0) 30 from by rw [es1592]; rfl).trans (i0_1562.2.2.2.2.2.trans (show rdI (en 0) 30 = nI wo from by rw [es1556]; rfl))) (by omega) (by omega)
                  rw [hq2_1593, hq3_1593, hq4_1593, hq30_1593] at es1592
                  refine hp_callMi (va_runV (As := [.int (nI j1562)]) (rest := []) ⟨hx, hb, hml, hown, hts⟩ (c_X12_isSpent l D cy _ cs ad en_1562 hI_1562 j1562 (by omega)) (kw_X12_isSpent hts tw_1025 ⟨by decide, by decide⟩) (preV_of hh hK (hI.1 _ (by decide)) es1592 rfl) rfl rfl hl.1 rfl (lv_room (Nat.le_of_ble_eq_true rfl)) dX12_growth_68 ⟨Nat.le_of_ble_eq_true rfl, Nat.le_of_ble_eq_true rfl⟩) hh hA (fun r_1594 H locs en_1594 hw_1594 hh => ?_)
                  obtain ⟨hI_1594, hu_1594, hx_1594⟩ := hw_1594
                  have es1592_1594 : en_1594 0 = .inr (11, [.int fa_1592, .int hi_1592, .int (nI wd), .int (nI mo), .int (nI tb), .ref (ad 1), .ref (ad 2), .ref (ad 3), .ref (ad 4), .ref (ad 5), .ref (ad 6), .ref (ad 7), .ref (ad 8), .ref (ad 9), .int dp_1592, .long many_1592, .long grt_1592, .long lst_1592, .long nou_1592, .ref (ad 10), .ref (ad 11), .ref (ad 12), .int rm_1592, .long rb_1592, .ref (ad 13), .int pr_1592, .ref (ad 14), .ref (ad 15), .ref (ad 16), .ref (ad 17), .int (nI wo), .ref (ad 18), .ref (ad 19)]) := (hu_1594 0 (by omega)).trans es1592
                  have hf_1594 : ∀ c, (c ≠ 0 ∧ c ≠ 6 ∧ c ≠ 7 ∧ c ≠ 8 ∧ c ≠ 9) → en_1594 c = en c := fun c hc => (hu_1594 c (by omega)).trans (hf_1562 c hc)
                  have hkp_1594 : KP en en_1594 := KP_same i0_1562 (hu_1594 0 (by omega))
                  have hw_1594 := hx_1594
                  rcases hw_1594 with hb_1594 | hb_1594
                  · obtain rfl : r_1594 = 0 := hb_1594
                    refine lv_if_eq (tgt := 77) hx hb dX12_growth_71 (by decide) (fun _ => ?_) (fun c_0 => absurd c_0 (by decide))
                    refine lv_iinc (v := (nI (j1562 + 1))) (lv' := [(4, .int (nI (j1562 + 1))), (0, .ref (ad 0)), (1, .int (nI N_1557)), (2, .int (nI N_1558)), (3, .int (nI N_1559))]) hx hb dX12_growth_77 hl (k := 0) rfl (nI_1 _) (by decide) rfl (fun ls hl => ?_)
                    refine lv_goto (tgt := 59) hx hb dX12_growth_80 (by decide) ?_
                    exact ih_1562 ((j1562 + 1))  en_1594 ls H locs (by omega) (by omega) (by omega) hI_1594 hf_1594 (hkp_1594) (lv_sub hl [0, 1, 2, 3, 4] rfl) hh
                  · obtain rfl : r_1594 = 1 := hb_1594
                    refine lv_if_eq (tgt := 77) hx hb dX12_growth_71 (by decide) (fun c_0 => absurd c_0 (by decide)) (fun _ => ?_)
                    refine lv_bipush (v := (-6)) hx hb dX12_growth_74 (by decide) ?_
                    exact hp_iretM hx hb hr rfl hlocks hh (⟨hI_1594, hf_1594, hkp_1594⟩) dX12_growth_76
            exact loop_1562 ((N_1559 + 1) + 1) 1  en ls _ _ (Nat.le_refl _) (by omega) (by omega) hI hf0 ((KP_rf en)) (lv_sub hl [0, 1, 2, 3, 4] rfl) hh
          · have n_1561 : tb = 0 := n_eq (a := tb) (b := 0) c_1561 (by omega) (by decide)
            refine lv_bipush (v := (-3)) hx hb dX12_growth_53 (by decide) ?_
            exact hp_iretM hx hb hr rfl hlocks hh (⟨hI, hf0, (KP_rf en)⟩) dX12_growth_55
      · obtain rfl : r_1559 = 0 := Eq.trans hw_1559 (if_neg (fun q => hp_1559 ((wj_32 (by decide) (by decide)).mp q)))
        refine lv_if_ne (tgt := 39) hx hb dX12_growth_33 (by decide) (fun c_0 => absurd c_0 (by decide)) (fun _ => ?_)
        refine lv_bipush (v := (-2)) hx hb dX12_growth_36 (by decide) ?_
        exact hp_iretM hx hb hr rfl hlocks hh (⟨hI, hf0, (KP_rf en)⟩) dX12_growth_38
    · obtain rfl : r_1558 = 0 := Eq.trans hw_1558 (if_neg (fun q => hp_1558 ((wj_32 (by decide) (by decide)).mp q)))
      refine lv_if_eq (tgt := 36) hx hb dX12_growth_21 (by decide) (fun _ => ?_) (fun c_0 => absurd c_0 (by decide))
      refine lv_bipush (v := (-2)) hx hb dX12_growth_36 (by decide) ?_
      exact hp_iretM hx hb hr rfl hlocks hh (⟨hI, hf0, (KP_rf en)⟩) dX12_growth_38
  · obtain rfl : r_1557 = 0 := Eq.trans hw_1557 (if_neg (fun q => hp_1557 ((wj_32 (by decide) (by decide)).mp q)))
    refine lv_if_eq (tgt := 36) hx hb dX12_growth_9 (by decide) (fun _ => ?_) (fun c_0 => absurd c_0 (by decide))
    refine lv_bipush (v := (-2)) hx hb dX12_growth_36 (by decide) ?_
    exact hp_iretM hx hb hr rfl hlocks hh (⟨hI, hf0, (KP_rf en)⟩) dX12_growth_38
theorem kw_X12_growth {R : Room} {s : State} {args : Array Value} {own : String} {idx : Nat} (hts : ∀ w ∈ TB, w.before args s = true) (hl : Cond.methodLink own idx yX12_growth ∈ TB) (hR : 4 + 1 ≤ R.frames ∧ 8 + (7 + 11) + 40 * 4 ≤ R.locals) : CallW R s args own RX12 idx yX12_growth cX12_growth 7 (some .int) (Cond.code yX12_growth cX12_growth 7 (some .int) :: TB) (rmN 4) 0 0 3 := cwV 3 hts (TB_V hl tw_1106 tw_1107 tw_9 tw_1108) rfl rfl rfl (by decide +kernel) hR
