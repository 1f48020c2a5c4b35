set_option maxHeartbeats 4000000 in
set_option maxRecDepth 100000 in
/-- goThrough -/
theorem c_X12_goThrough (l : Launch) (D : va_G) (cy : Nat → ClassId) (sz : Nat) (cs : List Nat) (ad : Nat → Nat) (en : Nat → va_E) (hI : RX cy cs ad en) (n : Nat) (hn1 : 1 ≤ n) (hn8 : n ≤ 8)   : Met l yX12_goThrough (Cond.code yX12_goThrough cX12_goThrough 5 none :: TB) (rmN 3) (va_Pc [.ref (ad 0), .int (nI n)] (Pre D cy cs ad en sz)) (va_Qv (S := Nat → va_E) (fun en1 => RX cy cs ad en1 ∧ (∀ c, (c ≠ 0 ∧ c ≠ 6 ∧ c ≠ 7 ∧ c ≠ 10 ∧ c ≠ 11) → en1 c = en c) ∧ gtS en1 = List.foldl (gt1 (rdI (en 0) 2).toNatClampNeg (rdI (en 0) 3).toNatClampNeg n (rdF (en 1))) (0, (-9223372036854775808), (-9223372036854775808), 0, rdF (en 10), rdF (en 11)) (wds (rdI (en 0) 4).toNatClampNeg (alR (rdF (en 2))) n none) ∧ KP en en1) (PostM D cs ad) (Af cs ad sz)) 0 0 (Af cs ad sz) := by
  refine Met.ofW (cc := cX12_goThrough) (maxL := 5) (ret := none) (by decide) rfl ?_
  intro p e s m args below meth c s₁ B hml hv
  obtain ⟨rfl, hsz, hP, hK, hD0⟩ := hv
  have hx := B.exec
  have hb := B.bytes
  have hr := B.returns
  have hts : ∀ w ∈ TB, w.before _ s = true := fun w h => atoms_spec (ws := _ :: TB) B.pre w (List.mem_cons_of_mem _ h)
  have hown : s.vm.findClass RX12 = some m.cls := findClass_of_methodNamed B.named
  have hlocks := B.notSynchronized
  have hh : Hp D (Af cs ad sz) (Af cs ad sz) s.heap s.heap [] cs ad en := ⟨hP, Af_self hD0, va_S.rf⟩
  have hA : ∀ q : Nat, s.heap.size ≤ q → Af cs ad sz q := fun q h => Or.inr (by rw [hsz] at h; exact h)
  have hl := lv_entry ([.ref (ad 0), .int (nI n)]) (n := 5) (Nat.le_of_ble_eq_true rfl)
  rw [lg_entry_eq]
  generalize (lg_sl ([.ref (ad 0), .int (nI n)]) ++ List.replicate (5 - (lg_sl ([.ref (ad 0), .int (nI n)])).length) Slot.unset).toArray = ls at hl ⊢
  have hl : lv_has ls 5 [(0, .ref (ad 0)), (1, .int (nI n))] := hl
  have hf0 : ∀ c, (c ≠ 0 ∧ c ≠ 6 ∧ c ≠ 7 ∧ c ≠ 10 ∧ c ≠ 11) → en c = en c := fun _ _ => rfl
  obtain ⟨fa, hi, wd, mo, tb, dp, many, grt, lst, nou, rm, rb, pr, wo, es1384, hwd2, hwd3, hmo, htb, hwo⟩ := getr_M hI
  refine lv_aload_n hx hb dX12_goThrough_0 rfl (lv_at hl 0 rfl) ?_
  refine lv_lconst (v := 0) hx hb dX12_goThrough_1 (by decide) ?_
  refine hp_put hx hb hts ix12 tyX12 tyX12_ok nmX12 hown hK hh (q := 0) rfl (hI.1 _ (by decide)) es1384 rfl 15 (by decide) (hts _ tw_894) (fun _ h9 => h9) rfl (ty := .long) (by decide +kernel) rfl rfl (Nat.le_of_ble_eq_true rfl) dX12_goThrough_2 (fun H locs en_1385 hen_1385 hh => ?_)
  have es1384_1385 : en_1385 0 = .inr (11, [.int fa, .int hi, .int (nI wd), .int (nI mo), .int (nI tb), .ref (ad 1), .ref (ad 2), .ref (ad 3), .ref (ad 4), .ref (ad 5), .ref (ad 6), .ref (ad 7), .ref (ad 8), .ref (ad 9), .int dp, .long 0, .long grt, .long lst, .long nou, .ref (ad 10), .ref (ad 11), .ref (ad 12), .int rm, .long rb, .ref (ad 13), .int pr, .ref (ad 14), .ref (ad 15), .ref (ad 16), .ref (ad 17), .int (nI wo), .ref (ad 18), .ref (ad 19)]) := by rw [hen_1385]; exact va_up_self _ _ _
  have hI_1385 : RX cy cs ad en_1385 := by rw [hen_1385]; exact upr_M hI ⟨fa, hi, wd, mo, tb, dp, 0, grt, lst, nou, rm, rb, pr, wo, rfl, hwd2, hwd3, hmo, htb, hwo⟩
  have hf_1385 : ∀ c, (c ≠ 0 ∧ c ≠ 6 ∧ c ≠ 7 ∧ c ≠ 10 ∧ c ≠ 11) → en_1385 c = en c := fun c hc => Eq.trans (show en_1385 c = en c from by rw [hen_1385, va_up_ne _ _ (by omega)]) (hf0 c hc)
  have hkp_1385 : KP en en_1385 := KP_fv (KP_rf en) es1384 es1384_1385 hi (nI wd) (nI mo) (nI tb) pr (nI wo) rfl rfl rfl rfl rfl rfl rfl rfl rfl rfl rfl rfl
  refine lv_aload_n hx hb dX12_goThrough_5 rfl (lv_at hl 0 rfl) ?_
  refine lv_ldc2 hx hb hown (hts _ tw_1015) dX12_goThrough_6 ?_
  refine hp_put hx hb hts ix12 tyX12 tyX12_ok nmX12 hown hK hh (q := 0) rfl (hI.1 _ (by decide)) es1384_1385 rfl 16 (by decide) (hts _ tw_895) (fun _ h9 => h9) rfl (ty := .long) (by decide +kernel) rfl rfl (Nat.le_of_ble_eq_true rfl) dX12_goThrough_9 (fun H locs en_1386 hen_1386 hh => ?_)
  have es1384_1386 : en_1386 0 = .inr (11, [.int fa, .int hi, .int (nI wd), .int (nI mo), .int (nI tb), .ref (ad 1), .ref (ad 2), .ref (ad 3), .ref (ad 4), .ref (ad 5), .ref (ad 6), .ref (ad 7), .ref (ad 8), .ref (ad 9), .int dp, .long 0, .long (-9223372036854775808), .long lst, .long nou, .ref (ad 10), .ref (ad 11), .ref (ad 12), .int rm, .long rb, .ref (ad 13), .int pr, .ref (ad 14), .ref (ad 15), .ref (ad 16), .ref (ad 17), .int (nI wo), .ref (ad 18), .ref (ad 19)]) := by rw [hen_1386]; exact va_up_self _ _ _
  have hI_1386 : RX cy cs ad en_1386 := by rw [hen_1386]; exact upr_M hI_1385 ⟨fa, hi, wd, mo, tb, dp, 0, (-9223372036854775808), lst, nou, rm, rb, pr, wo, rfl, hwd2, hwd3, hmo, htb, hwo⟩
  have hf_1386 : ∀ c, (c ≠ 0 ∧ c ≠ 6 ∧ c ≠ 7 ∧ c ≠ 10 ∧ c ≠ 11) → en_1386 c = en c := fun c hc => Eq.trans (show en_1386 c = en_1385 c from by rw [hen_1386, va_up_ne _ _ (by omega)]) (hf_1385 c hc)
  have hkp_1386 : KP en en_1386 := KP_fv hkp_1385 es1384_1385 es1384_1386 hi (nI wd) (nI mo) (nI tb) pr (nI wo) rfl rfl rfl rfl rfl rfl rfl rfl rfl rfl rfl rfl
  refine lv_aload_n hx hb dX12_goThrough_12 rfl (lv_at hl 0 rfl) ?_
  refine lv_ldc2 hx hb hown (hts _ tw_1015) dX12_goThrough_13 ?_
  refine hp_put hx hb hts ix12 tyX12 tyX12_ok nmX12 hown hK hh (q := 0) rfl (hI.1 _ (by decide)) es1384_1386 rfl 17 (by decide) (hts _ tw_896) (fun _ h9 => h9) rfl (ty := .long) (by decide +kernel) rfl rfl (Nat.le_of_ble_eq_true rfl) dX12_goThrough_16 (fun H locs en_1387 hen_1387 hh => ?_)
  have es1384_1387 : en_1387 0 = .inr (11, [.int fa, .int hi, .int (nI wd), .int (nI mo), .int (nI tb), .ref (ad 1), .ref (ad 2), .ref (ad 3), .ref (ad 4), .ref (ad 5), .ref (ad 6), .ref (ad 7), .ref (ad 8), .ref (ad 9), .int dp, .long 0, .long (-9223372036854775808), .long (-9223372036854775808), .long nou, .ref (ad 10), .ref (ad 11), .ref (ad 12), .int rm, .long rb, .ref (ad 13), .int pr, .ref (ad 14), .ref (ad 15), .ref (ad 16), .ref (ad 17), .int (nI wo), .ref (ad 18), .ref (ad 19)]) := by rw [hen_1387]; exact va_up_self _ _ _
  have hI_1387 : RX cy cs ad en_1387 := by rw [hen_1387]; exact upr_M hI_1386 ⟨fa, hi, wd, mo, tb, dp, 0, (-9223372036854775808), (-9223372036854775808), nou, rm, rb, pr, wo, rfl, hwd2, hwd3, hmo, htb, hwo⟩
  have hf_1387 : ∀ c, (c ≠ 0 ∧ c ≠ 6 ∧ c ≠ 7 ∧ c ≠ 10 ∧ c ≠ 11) → en_1387 c = en c := fun c hc => Eq.trans (show en_1387 c = en_1386 c from by rw [hen_1387, va_up_ne _ _ (by omega)]) (hf_1386 c hc)
  have hkp_1387 : KP en en_1387 := KP_fv hkp_1386 es1384_1386 es1384_1387 hi (nI wd) (nI mo) (nI tb) pr (nI wo) rfl rfl rfl rfl rfl rfl rfl rfl rfl rfl rfl rfl
  refine lv_aload_n hx hb dX12_goThrough_19 rfl (lv_at hl 0 rfl) ?_
  refine lv_lconst (v := 0) hx hb dX12_goThrough_20 (by decide) ?_
  refine hp_put hx hb hts ix12 tyX12 tyX12_ok nmX12 hown hK hh (q := 0) rfl (hI.1 _ (by decide)) es1384_1387 rfl 18 (by decide) (hts _ tw_897) (fun _ h9 => h9) rfl (ty := .long) (by decide +kernel) rfl rfl (Nat.le_of_ble_eq_true rfl) dX12_goThrough_21 (fun H locs en_1388 hen_1388 hh => ?_)
  have es1384_1388 : en_1388 0 = .inr (11, [.int fa, .int hi, .int (nI wd), .int (nI mo), .int (nI tb), .ref (ad 1), .ref (ad 2), .ref (ad 3), .ref (ad 4), .ref (ad 5), .ref (ad 6), .ref (ad 7), .ref (ad 8), .ref (ad 9), .int dp, .long 0, .long (-9223372036854775808), .long (-9223372036854775808), .long 0, .ref (ad 10), .ref (ad 11), .ref (ad 12), .int rm, .long rb, .ref (ad 13), .int pr, .ref (ad 14), .ref (ad 15), .ref (ad 16), .ref (ad 17), .int (nI wo), .ref (ad 18), .ref (ad 19)]) := by rw [hen_1388]; exact va_up_self _ _ _
  have hI_1388 : RX cy cs ad en_1388 := by rw [hen_1388]; exact upr_M hI_1387 ⟨fa, hi, wd, mo, tb, dp, 0, (-9223372036854775808), (-9223372036854775808), 0, rm, rb, pr, wo, rfl, hwd2, hwd3, hmo, htb, hwo⟩
  have hf_1388 : ∀ c, (c ≠ 0 ∧ c ≠ 6 ∧ c ≠ 7 ∧ c ≠ 10 ∧ c ≠ 11) → en_1388 c = en c := fun c hc => Eq.trans (show en_1388 c = en_1387 c from by rw [hen_1388, va_up_ne _ _ (by omega)]) (hf_1387 c hc)
  have hkp_1388 : KP en en_1388 := KP_fv hkp_1387 es1384_1387 es1384_1388 hi (nI wd) (nI mo) (nI tb) pr (nI wo) rfl rfl rfl rfl rfl rfl rfl rfl rfl rfl rfl rfl
  refine lv_aload_n hx hb dX12_goThrough_24 rfl (lv_at hl 0 rfl) ?_
  refine hp_callMv (va_runV (As := []) (rest := []) ⟨hx, hb, hml, hown, hts⟩ (c_X12_beginWords l D cy _ cs ad en_1388 hI_1388  ) (kw_X12_beginWords hts tw_1038 ⟨by decide, by decide⟩) (preV_of hh hK (hI.1 _ (by decide)) es1384_1388 rfl) rfl rfl hl.1 rfl (lv_room (Nat.le_of_ble_eq_true rfl)) dX12_goThrough_25 ⟨Nat.le_of_ble_eq_true rfl, Nat.le_of_ble_eq_true rfl⟩) hh hA (fun H locs en_1389 hw_1389 hh => ?_)
  obtain ⟨hI_1389, hu_1389, hd0_1389, hg0_1389, hbl_1389, hx_1389⟩ := hw_1389
  have hND_1389 : ND en_1389 n 0 0 := ⟨by omega, Or.inl hd0_1389, fun i h => absurd h (Nat.not_lt_zero i), by rw [hg0_1389]; decide, by omega⟩
  have hf_1389 : ∀ c, (c ≠ 0 ∧ c ≠ 6 ∧ c ≠ 7 ∧ c ≠ 10 ∧ c ≠ 11) → en_1389 c = en c := fun c hc => (hu_1389 c (by omega)).trans (hf_1388 c hc)
  have hkp_1389 : KP en en_1389 := KP_tr hkp_1388 (KPg.kp hx_1389)
  have loop_1390 : ∀ (fu mm1390 : Nat)  (d1390 : Nat) (u1390 : Nat) (en_1390 : Nat → va_E) (ls : Array Slot) (H : Heap) (locs : List Loc), mm1390 < fu → RX cy cs ad en_1390 → (∀ c, (c ≠ 0 ∧ c ≠ 6 ∧ c ≠ 7 ∧ c ≠ 10 ∧ c ≠ 11) → en_1390 c = en c) → (ND en_1390 n d1390 u1390) → (134217728 ≤ nmv (rdF (en_1390 7)) d1390 u1390 + mm1390) → (LVS en_1390 d1390) → (List.foldl (gt1 (rdI (en 0) 2).toNatClampNeg (rdI (en 0) 3).toNatClampNeg n (rdF (en 1))) (gtS en_1390) (RM9 en_1390 n d1390 u1390) = List.foldl (gt1 (rdI (en 0) 2).toNatClampNeg (rdI (en 0) 3).toNatClampNeg n (rdF (en 1))) (0, (-9223372036854775808), (-9223372036854775808), 0, rdF (en 10), rdF (en 11)) (wds (rdI (en 0) 4).toNatClampNeg (alR (rdF (en 2))) n none)) → (KP en en_1390) → lv_has ls 5 [(0, .ref (ad 0)), (1, .int (nI n))] → Hp D (Af cs ad sz) (Af cs ad sz) s.heap H locs cs ad en_1390 → W p l e (headSpec (Cond.code yX12_goThrough cX12_goThrough 5 none :: TB) (rmN 3)).room s m ([.ref (ad 0), .int (nI n)] : List Value).toArray below meth c H locs 0 0 (MQ below (va_Qv (S := Nat → va_E) (fun en1 => RX cy cs ad en1 ∧ (∀ c, (c ≠ 0 ∧ c ≠ 6 ∧ c ≠ 7 ∧ c ≠ 10 ∧ c ≠ 11) → en1 c = en c) ∧ gtS en1 = List.foldl (gt1 (rdI (en 0) 2).toNatClampNeg (rdI (en 0) 3).toNatClampNeg n (rdF (en 1))) (0, (-9223372036854775808), (-9223372036854775808), 0, rdF (en 10), rdF (en 11)) (wds (rdI (en 0) 4).toNatClampNeg (alR (rdF (en 2))) n none) ∧ KP en en1) (PostM D cs ad) (Af cs ad sz)) ([.ref (ad 0), .int (nI n)] : List Value).toArray s 0 0 (Af cs ad sz)) (F0 m 28 ls []) := by
    intro fu
    induction fu with
    | zero => intro mm1390 d1390 u1390 en_1390 ls H locs h2; exact absurd h2 (by omega)
    | succ fu ih_1390 =>
      intro mm1390 d1390 u1390 en_1390 ls H locs hmm_1390 hI_1390 hf_1390 i0_1390 i1_1390 i2_1390 i3_1390 i4_1390 hl hh
      have hlt_1390 := nmv_lt i0_1390.2.2 (by have h9 := i0_1390.1; omega)
      have hwd_1390 := i0_1390.1
      refine lv_aload_n hx hb dX12_goThrough_28 rfl (lv_at hl 0 rfl) ?_
      refine lv_iload_n hx hb dX12_goThrough_29 rfl (lv_at hl 1 rfl) ?_
      obtain ⟨fa_1391, hi_1391, wd_1391, mo_1391, tb_1391, dp_1391, many_1391, grt_1391, lst_1391, nou_1391, rm_1391, rb_1391, pr_1391, wo_1391, es1391, p0_1391, p1_1391, p2_1391, p3_1391, p4_1391⟩ := getr_M hI_1390
      have hq2_1392 : wd_1391 = wd := n_eq ((show nI wd_1391 = rdI (en_1390 0) 2 from by rw [es1391]; rfl).trans (i4_1390.2.1.trans (show rdI (en 0) 2 = nI wd from by rw [es1384]; rfl))) (by omega) (by omega)
      have hq3_1392 : mo_1391 = mo := n_eq ((show nI mo_1391 = rdI (en_1390 0) 3 from by rw [es1391]; rfl).trans (i4_1390.2.2.1.trans (show rdI (en 0) 3 = nI mo from by rw [es1384]; rfl))) (by omega) (by omega)
      have hq4_1392 : tb_1391 = tb := n_eq ((show nI tb_1391 = rdI (en_1390 0) 4 from by rw [es1391]; rfl).trans (i4_1390.2.2.2.1.trans (show rdI (en 0) 4 = nI tb from by rw [es1384]; rfl))) (by omega) (by omega)
      have hq30_1392 : wo_1391 = wo := n_eq ((show nI wo_1391 = rdI (en_1390 0) 30 from by rw [es1391]; rfl).trans (i4_1390.2.2.2.2.2.trans (show rdI (en 0) 30 = nI wo from by rw [es1384]; rfl))) (by omega) (by omega)
      rw [hq2_1392, hq3_1392, hq4_1392, hq30_1392] at es1391
      refine hp_callMi (va_runV (As := [.int (nI n)]) (rest := []) ⟨hx, hb, hml, hown, hts⟩ (c_X12_next l D cy _ cs ad en_1390 hI_1390 n (by omega) (by omega) d1390 u1390 i0_1390 _ rfl i2_1390) (kw_X12_next hts tw_1046 ⟨by decide, by decide⟩) (preV_of hh hK (hI.1 _ (by decide)) es1391 rfl) rfl rfl hl.1 rfl (lv_room (Nat.le_of_ble_eq_true rfl)) dX12_goThrough_30 ⟨Nat.le_of_ble_eq_true rfl, Nat.le_of_ble_eq_true rfl⟩) hh hA (fun r_1393 H locs en_1393 hw_1393 hh => ?_)
      obtain ⟨hI_1393, hu_1393, hx_1393, hkq_1393⟩ := hw_1393
      have hf_1393 : ∀ c, (c ≠ 0 ∧ c ≠ 6 ∧ c ≠ 7 ∧ c ≠ 10 ∧ c ≠ 11) → en_1393 c = en c := fun c hc => (hu_1393 c (by omega)).trans (hf_1390 c hc)
      have hkp_1393 : KP en en_1393 := KP_tr i4_1390 (KPg.kp hkq_1393)
      rcases hx_1393 with ⟨hr_1393, hL_1393⟩ | ⟨hr_1393, u1_1393, hND_1393, hu1_1393, hnm_1393, hL_1393, hlv_1393⟩
      · rw [hr_1393]
        refine lv_if_eq (tgt := 179) hx hb dX12_goThrough_33 (by decide) (fun _ => ?_) (fun c_0 => absurd c_0 (by decide))
        exact hp_vretM hx hb hr hlocks hh (⟨hI_1393, hf_1393, (by have h9 := i3_1390; rw [show RM9 en_1390 n d1390 u1390 = [] from hL_1393] at h9; rw [gtS_next hkq_1393 (hu_1393 10 (by omega)) (hu_1393 11 (by omega))]; exact h9), hkp_1393⟩) dX12_goThrough_179
      · rw [hr_1393]
        have hall_1393 := NW_all hND_1393.2.2 (by omega) hu1_1393
        have hlq_1393 : LVS en_1393 n := LVS_of hlv_1393 (KPg.kp hkq_1393).2.1 (KPg.kp hkq_1393).2.2.1 (hu_1393 1 (by omega))
        refine lv_if_eq (tgt := 179) hx hb dX12_goThrough_33 (by decide) (fun c_0 => absurd c_0 (by decide)) (fun _ => ?_)
        refine lv_aload_n hx hb dX12_goThrough_36 rfl (lv_at hl 0 rfl) ?_
        refine lv_iload_n hx hb dX12_goThrough_37 rfl (lv_at hl 1 rfl) ?_
        obtain ⟨fa_1394, hi_1394, wd_1394, mo_1394, tb_1394, dp_1394, many_1394, grt_1394, lst_1394, nou_1394, rm_1394, rb_1394, pr_1394, wo_1394, es1394, p0_1394, p1_1394, p2_1394, p3_1394, p4_1394⟩ := getr_M hI_1393
        have hq2_1395 : wd_1394 = wd := n_eq ((show nI wd_1394 = rdI (en_1393 0) 2 from by rw [es1394]; rfl).trans (hkp_1393.2.1.trans (show rdI (en 0) 2 = nI wd from by rw [es1384]; rfl))) (by omega) (by omega)
        have hq3_1395 : mo_1394 = mo := n_eq ((show nI mo_1394 = rdI (en_1393 0) 3 from by rw [es1394]; rfl).trans (hkp_1393.2.2.1.trans (show rdI (en 0) 3 = nI mo from by rw [es1384]; rfl))) (by omega) (by omega)
        have hq4_1395 : tb_1394 = tb := n_eq ((show nI tb_1394 = rdI (en_1393 0) 4 from by rw [es1394]; rfl).trans (hkp_1393.2.2.2.1.trans (show rdI (en 0) 4 = nI tb from by rw [es1384]; rfl))) (by omega) (by omega)
        have hq30_1395 : wo_1394 = wo := n_eq ((show nI wo_1394 = rdI (en_1393 0) 30 from by rw [es1394]; rfl).trans (hkp_1393.2.2.2.2.2.trans (show rdI (en 0) 30 = nI wo from by rw [es1384]; rfl))) (by omega) (by omega)
        rw [hq2_1395, hq3_1395, hq4_1395, hq30_1395] at es1394
        refine hp_callRl (va_runV (As := [.int (nI n)]) (rest := []) ⟨hx, hb, hml, hown, hts⟩ (c_X12_normAt l D cy _ cs ad en_1393 hI_1393 n (by omega)) (kw_X12_normAt hts tw_1058 ⟨by decide, by decide⟩) (preV_of hh hK (hI.1 _ (by decide)) es1394 rfl) rfl rfl hl.1 rfl (lv_room (Nat.le_of_ble_eq_true rfl)) dX12_goThrough_38 ⟨Nat.le_of_ble_eq_true rfl, Nat.le_of_ble_eq_true rfl⟩) hh hA (fun r_1396 H locs hw_1396 hh => ?_)
        have hnq_1393 : r_1396 = nmW (rdI (en 0) 2).toNatClampNeg (rdI (en 0) 3).toNatClampNeg n (rdF (en 1)) (pre (nwF en_1393) n) := by have h9 := nm_at hlq_1393 hw_1396; rw [show rdI (en_1393 0) 2 = rdI (en 0) 2 from hkp_1393.2.1, show rdI (en_1393 0) 3 = rdI (en 0) 3 from hkp_1393.2.2.1, show rdF (en_1393 1) = rdF (en 1) from by rw [hf_1393 1 (by omega)]] at h9; exact h9
        refine lv_lstore_n (lv' := [(2, .long r_1396), (0, .ref (ad 0)), (1, .int (nI n))]) hx hb dX12_goThrough_41 rfl hl (by decide) rfl (fun ls hl => ?_)
        have join_1397 : ∀  (en_1397 : Nat → va_E) (ls : Array Slot) (H : Heap) (locs : List Loc), RX cy cs ad en_1397 → (∀ c, (c ≠ 0 ∧ c ≠ 6 ∧ c ≠ 7 ∧ c ≠ 10 ∧ c ≠ 11) → en_1397 c = en c) → KP en en_1397 → SD en_1393 en_1397 → (gtS en_1397 = gtA n r_1396 (lF (pre (nwF en_1393) n)) (gtS en_1393)) → lv_has ls 5 [(2, .long r_1396), (0, .ref (ad 0)), (1, .int (nI n))] → Hp D (Af cs ad sz) (Af cs ad sz) s.heap H locs cs ad en_1397 → W p l e (headSpec (Cond.code yX12_goThrough cX12_goThrough 5 none :: TB) (rmN 3)).room s m ([.ref (ad 0), .int (nI n)] : List Value).toArray below meth c H locs 0 0 (MQ below (va_Qv (S := Nat → va_E) (fun en1 => RX cy cs ad en1 ∧ (∀ c, (c ≠ 0 ∧ c ≠ 6 ∧ c ≠ 7 ∧ c ≠ 10 ∧ c ≠ 11) → en1 c = en c) ∧ gtS en1 = List.foldl (gt1 (rdI (en 0) 2).toNatClampNeg (rdI (en 0) 3).toNatClampNeg n (rdF (en 1))) (0, (-9223372036854775808), (-9223372036854775808), 0, rdF (en 10), rdF (en 11)) (wds (rdI (en 0) 4).toNatClampNeg (alR (rdF (en 2))) n none) ∧ KP en en1) (PostM D cs ad) (Af cs ad sz)) ([.ref (ad 0), .int (nI n)] : List Value).toArray s 0 0 (Af cs ad sz)) (F0 m 94 ls []) := by
          intro  en_1397 ls H locs hI_1397 hf_1397 hkp_1397 hsd_1397 hj0_1397  hl hh
          obtain ⟨fa_1399, hi_1399, wd_1399, mo_1399, tb_1399, dp_1399, many_1399, grt_1399, lst_1399, nou_1399, rm_1399, rb_1399, pr_1399, wo_1399, es1399, p0_1399, p1_1399, p2_1399, p3_1399, p4_1399⟩ := getr_M hI_1397
          have hq2_1400 : wd_1399 = wd := n_eq ((show nI wd_1399 = rdI (en_1397 0) 2 from by rw [es1399]; rfl).trans (hkp_1397.2.1.trans (show rdI (en 0) 2 = nI wd from by rw [es1384]; rfl))) (by omega) (by omega)
          have hq3_1400 : mo_1399 = mo := n_eq ((show nI mo_1399 = rdI (en_1397 0) 3 from by rw [es1399]; rfl).trans (hkp_1397.2.2.1.trans (show rdI (en 0) 3 = nI mo from by rw [es1384]; rfl))) (by omega) (by omega)
          have hq4_1400 : tb_1399 = tb := n_eq ((show nI tb_1399 = rdI (en_1397 0) 4 from by rw [es1399]; rfl).trans (hkp_1397.2.2.2.1.trans (show rdI (en 0) 4 = nI tb from by rw [es1384]; rfl))) (by omega) (by omega)
          have hq30_1400 : wo_1399 = wo := n_eq ((show nI wo_1399 = rdI (en_1397 0) 30 from by rw [es1399]; rfl).trans (hkp_1397.2.2.2.2.2.trans (show rdI (en 0) 30 = nI wo from by rw [es1384]; rfl))) (by omega) (by omega)
          rw [hq2_1400, hq3_1400, hq4_1400, hq30_1400] at es1399
          have join_1398 : ∀  (en_1398 : Nat → va_E) (ls : Array Slot) (H : Heap) (locs : List Loc), RX cy cs ad en_1398 → (∀ c, (c ≠ 0 ∧ c ≠ 6 ∧ c ≠ 7 ∧ c ≠ 10 ∧ c ≠ 11) → en_1398 c = en c) → KP en en_1398 → SD en_1393 en_1398 → (gtS en_1398 = gtB n r_1396 (lF (pre (nwF en_1393) n)) (gtA n r_1396 (lF (pre (nwF en_1393) n)) (gtS en_1393))) → lv_has ls 5 [(2, .long r_1396), (0, .ref (ad 0)), (1, .int (nI n))] → Hp D (Af cs ad sz) (Af cs ad sz) s.heap H locs cs ad en_1398 → W p l e (headSpec (Cond.code yX12_goThrough cX12_goThrough 5 none :: TB) (rmN 3)).room s m ([.ref (ad 0), .int (nI n)] : List Value).toArray below meth c H locs 0 0 (MQ below (va_Qv (S := Nat → va_E) (fun en1 => RX cy cs ad en1 ∧ (∀ c, (c ≠ 0 ∧ c ≠ 6 ∧ c ≠ 7 ∧ c ≠ 10 ∧ c ≠ 11) → en1 c = en c) ∧ gtS en1 = List.foldl (gt1 (rdI (en 0) 2).toNatClampNeg (rdI (en 0) 3).toNatClampNeg n (rdF (en 1))) (0, (-9223372036854775808), (-9223372036854775808), 0, rdF (en 10), rdF (en 11)) (wds (rdI (en 0) 4).toNatClampNeg (alR (rdF (en 2))) n none) ∧ KP en en1) (PostM D cs ad) (Af cs ad sz)) ([.ref (ad 0), .int (nI n)] : List Value).toArray s 0 0 (Af cs ad sz)) (F0 m 146 ls []) := by
            intro  en_1398 ls H locs hI_1398 hf_1398 hkp_1398 hsd_1398 hj0_1398  hl hh
            obtain ⟨fa_1401, hi_1401, wd_1401, mo_1401, tb_1401, dp_1401, many_1401, grt_1401, lst_1401, nou_1401, rm_1401, rb_1401, pr_1401, wo_1401, es1401, p0_1401, p1_1401, p2_1401, p3_1401, p4_1401⟩ := getr_M hI_1398
            have hq2_1402 : wd_1401 = wd := n_eq ((show nI wd_1401 = rdI (en_1398 0) 2 from by rw [es1401]; rfl).trans (hkp_1398.2.1.trans (show rdI (en 0) 2 = nI wd from by rw [es1384]; rfl))) (by omega) (by omega)
            have hq3_1402 : mo_1401 = mo := n_eq ((show nI mo_1401 = rdI (en_1398 0) 3 from by rw [es1401]; rfl).trans (hkp_1398.2.2.1.trans (show rdI (en 0) 3 = nI mo from by rw [es1384]; rfl))) (by omega) (by omega)
            have hq4_1402 : tb_1401 = tb := n_eq ((show nI tb_1401 = rdI (en_1398 0) 4 from by rw [es1401]; rfl).trans (hkp_1398.2.2.2.1.trans (show rdI (en 0) 4 = nI tb from by rw [es1384]; rfl))) (by omega) (by omega)
            have hq30_1402 : wo_1401 = wo := n_eq ((show nI wo_1401 = rdI (en_1398 0) 30 from by rw [es1401]; rfl).trans (hkp_1398.2.2.2.2.2.trans (show rdI (en 0) 30 = nI wo from by rw [es1384]; rfl))) (by omega) (by omega)
            rw [hq2_1402, hq3_1402, hq4_1402, hq30_1402] at es1401
            refine lv_aload_n hx hb dX12_goThrough_146 rfl (lv_at hl 1 rfl) ?_
            refine lv_dup hx hb dX12_goThrough_147 rfl ?_
            refine hp_get hx hb hts ix12 hown hK hh (q := 0) rfl (hI.1 _ (by decide)) es1401 rfl 18 (by decide) (hts _ tw_897) (fun _ h9 => h9) rfl dX12_goThrough_148 ?_
            refine lv_lload_n hx hb dX12_goThrough_151 rfl (lv_at hl 0 rfl) ?_
            refine lv_lconst (v := 0) hx hb dX12_goThrough_152 (by decide) ?_
            refine W.lcmp hx hb dX12_goThrough_153 ?_
            refine lv_if_ne (tgt := 161) hx hb dX12_goThrough_154 (by decide) (fun c_1403 => ?_) (fun c_1403 => ?_)
            · refine lv_lconst (v := 0) hx hb dX12_goThrough_161 (by decide) ?_
              refine lv_ladd hx hb dX12_goThrough_162 ?_
              refine hp_put hx hb hts ix12 tyX12 tyX12_ok nmX12 hown hK hh (q := 0) rfl (hI.1 _ (by decide)) es1401 rfl 18 (by decide) (hts _ tw_897) (fun _ h9 => h9) rfl (ty := .long) (by decide +kernel) rfl rfl (Nat.le_of_ble_eq_true rfl) dX12_goThrough_163 (fun H locs en_1404 hen_1404 hh => ?_)
              have es1401_1404 : en_1404 0 = .inr (11, [.int fa_1401, .int hi_1401, .int (nI wd), .int (nI mo), .int (nI tb), .ref (ad 1), .ref (ad 2), .ref (ad 3), .ref (ad 4), .ref (ad 5), .ref (ad 6), .ref (ad 7), .ref (ad 8), .ref (ad 9), .int dp_1401, .long many_1401, .long grt_1401, .long lst_1401, .long (nou_1401 + 0), .ref (ad 10), .ref (ad 11), .ref (ad 12), .int rm_1401, .long rb_1401, .ref (ad 13), .int pr_1401, .ref (ad 14), .ref (ad 15), .ref (ad 16), .ref (ad 17), .int (nI wo), .ref (ad 18), .ref (ad 19)]) := by rw [hen_1404]; exact va_up_self _ _ _
              have hI_1404 : RX cy cs ad en_1404 := by rw [hen_1404]; exact upr_M hI_1398 ⟨fa_1401, hi_1401, wd, mo, tb, dp_1401, many_1401, grt_1401, lst_1401, (nou_1401 + 0), rm_1401, rb_1401, pr_1401, wo, rfl, hwd2, hwd3, hmo, htb, hwo⟩
              have hf_1404 : ∀ c, (c ≠ 0 ∧ c ≠ 6 ∧ c ≠ 7 ∧ c ≠ 10 ∧ c ≠ 11) → en_1404 c = en c := fun c hc => Eq.trans (show en_1404 c = en_1398 c from by rw [hen_1404, va_up_ne _ _ (by omega)]) (hf_1398 c hc)
              have hkp_1404 : KP en en_1404 := KP_fv hkp_1398 es1401 es1401_1404 hi_1401 (nI wd) (nI mo) (nI tb) pr_1401 (nI wo) rfl rfl rfl rfl rfl rfl rfl rfl rfl rfl rfl rfl
              have hsd_1404 : SD en_1393 en_1404 := SD_fv hsd_1398 es1401 es1401_1404 (show en_1404 7 = en_1398 7 from by rw [hen_1404, va_up_ne _ _ (by decide)]) (show en_1404 6 = en_1398 6 from by rw [hen_1404, va_up_ne _ _ (by decide)]) dp_1401 rfl rfl
              refine lv_aload_n hx hb dX12_goThrough_166 rfl (lv_at hl 1 rfl) ?_
              refine lv_dup hx hb dX12_goThrough_167 rfl ?_
              refine hp_get hx hb hts ix12 hown hK hh (q := 0) rfl (hI.1 _ (by decide)) es1401_1404 rfl 15 (by decide) (hts _ tw_894) (fun _ h9 => h9) rfl dX12_goThrough_168 ?_
              refine lv_lconst (v := 1) hx hb dX12_goThrough_171 (by decide) ?_
              refine lv_ladd hx hb dX12_goThrough_172 ?_
              refine hp_put hx hb hts ix12 tyX12 tyX12_ok nmX12 hown hK hh (q := 0) rfl (hI.1 _ (by decide)) es1401_1404 rfl 15 (by decide) (hts _ tw_894) (fun _ h9 => h9) rfl (ty := .long) (by decide +kernel) rfl rfl (Nat.le_of_ble_eq_true rfl) dX12_goThrough_173 (fun H locs en_1405 hen_1405 hh => ?_)
              have es1401_1405 : en_1405 0 = .inr (11, [.int fa_1401, .int hi_1401, .int (nI wd), .int (nI mo), .int (nI tb), .ref (ad 1), .ref (ad 2), .ref (ad 3), .ref (ad 4), .ref (ad 5), .ref (ad 6), .ref (ad 7), .ref (ad 8), .ref (ad 9), .int dp_1401, .long (many_1401 + 1), .long grt_1401, .long lst_1401, .long (nou_1401 + 0), .ref (ad 10), .ref (ad 11), .ref (ad 12), .int rm_1401, .long rb_1401, .ref (ad 13), .int pr_1401, .ref (ad 14), .ref (ad 15), .ref (ad 16), .ref (ad 17), .int (nI wo), .ref (ad 18), .ref (ad 19)]) := by rw [hen_1405]; exact va_up_self _ _ _
              have hI_1405 : RX cy cs ad en_1405 := by rw [hen_1405]; exact upr_M hI_1404 ⟨fa_1401, hi_1401, wd, mo, tb, dp_1401, (many_1401 + 1), grt_1401, lst_1401, (nou_1401 + 0), rm_1401, rb_1401, pr_1401, wo, rfl, hwd2, hwd3, hmo, htb, hwo⟩
              have hf_1405 : ∀ c, (c ≠ 0 ∧ c ≠ 6 ∧ c ≠ 7 ∧ c ≠ 10 ∧ c ≠ 11) → en_1405 c = en c := fun c hc => Eq.trans (show en_1405 c = en_1404 c from by rw [hen_1405, va_up_ne _ _ (by omega)]) (hf_1404 c hc)
              have hkp_1405 : KP en en_1405 := KP_fv hkp_1404 es1401_1404 es1401_1405 hi_1401 (nI wd) (nI mo) (nI tb) pr_1401 (nI wo) rfl rfl rfl rfl rfl rfl rfl rfl rfl rfl rfl rfl
              have hsd_1405 : SD en_1393 en_1405 := SD_fv hsd_1404 es1401_1404 es1401_1405 (show en_1405 7 = en_1404 7 from by rw [hen_1405, va_up_ne _ _ (by decide)]) (show en_1405 6 = en_1404 6 from by rw [hen_1405, va_up_ne _ _ (by decide)]) dp_1401 rfl rfl
              refine lv_goto (tgt := 28) hx hb dX12_goThrough_176 (by decide) ?_
              exact ih_1390 (mm1390 - 1) (n - 1) u1_1393 en_1405 ls H locs (by omega) hI_1405 hf_1405 (ND_sd hND_1393 hsd_1405) (by rw [hsd_1405.2.1]; have h1 := hnm_1393; have h2 := i1_1390; omega) (LVS_sd hlq_1393 (by omega) hsd_1405 (show rdI (en_1405 0) 2 = rdI (en_1393 0) 2 from (hkp_1405.2.1).trans (hkp_1393.2.1).symm) (show rdI (en_1405 0) 3 = rdI (en_1393 0) 3 from (hkp_1405.2.2.1).trans (hkp_1393.2.2.1).symm) ((hf_1405 1 (by omega)).trans (hf_1393 1 (by omega)).symm)) (by rw [show gtS en_1405 = (gt1 (rdI (en 0) 2).toNatClampNeg (rdI (en 0) 3).toNatClampNeg n (rdF (en 1))) (gtS en_1390) (pre (nwF en_1393) n) from by unfold gt1; rw [← hnq_1393, ← gtS_next hkq_1393 (hu_1393 10 (by omega)) (hu_1393 11 (by omega)), ← hj0_1398]; unfold gtC; rw [if_neg (fun q => c_1403 ((lg_cmp_eq _ _).mpr q))]; exact gtS_of (by rw [es1401_1405, show (gtS en_1398).1 = rdJ (en_1398 0) 15 from rfl, es1401]; rfl) (by rw [es1401_1405, show (gtS en_1398).2.1 = rdJ (en_1398 0) 16 from rfl, es1401]; rfl) (by rw [es1401_1405, show (gtS en_1398).2.2.1 = rdJ (en_1398 0) 17 from rfl, es1401]; rfl) (by rw [es1401_1405, show (gtS en_1398).2.2.2.1 = rdJ (en_1398 0) 18 from rfl, es1401]; rfl) (by rw [hen_1405, va_up_ne _ _ (by decide), hen_1404, va_up_ne _ _ (by decide)]; rfl) (by rw [hen_1405, va_up_ne _ _ (by decide), hen_1404, va_up_ne _ _ (by decide)]; rfl), show RM9 en_1405 n (n - 1) u1_1393 = rem9 (rdI (en_1390 0) 4).toNatClampNeg (alR (rdF (en_1390 2))) n (nwF en_1393) (n - 1) u1_1393 from (RM9_c (a := en_1393) (show rdI (en_1405 0) 4 = rdI (en_1393 0) 4 from (hkp_1405.2.2.2.1).trans (hkp_1393.2.2.2.1).symm) ((hf_1405 2 (by omega)).trans (hf_1393 2 (by omega)).symm) hsd_1405.2.1).trans (by unfold RM9; rw [show rdI (en_1393 0) 4 = rdI (en_1390 0) 4 from (KPg.kp hkq_1393).2.2.2.1, hu_1393 2 (by omega)])]; have h9 := i3_1390; rw [show RM9 en_1390 n d1390 u1390 = _ from hL_1393] at h9; exact h9) (hkp_1405) (lv_sub hl [1, 2] rfl) hh
            · refine lv_lconst (v := 1) hx hb dX12_goThrough_157 (by decide) ?_
              refine lv_goto (tgt := 162) hx hb dX12_goThrough_158 (by decide) ?_
              refine lv_ladd hx hb dX12_goThrough_162 ?_
              refine hp_put hx hb hts ix12 tyX12 tyX12_ok nmX12 hown hK hh (q := 0) rfl (hI.1 _ (by decide)) es1401 rfl 18 (by decide) (hts _ tw_897) (fun _ h9 => h9) rfl (ty := .long) (by decide +kernel) rfl rfl (Nat.le_of_ble_eq_true rfl) dX12_goThrough_163 (fun H locs en_1406 hen_1406 hh => ?_)
              have es1401_1406 : en_1406 0 = .inr (11, [.int fa_1401, .int hi_1401, .int (nI wd), .int (nI mo), .int (nI tb), .ref (ad 1), .ref (ad 2), .ref (ad 3), .ref (ad 4), .ref (ad 5), .ref (ad 6), .ref (ad 7), .ref (ad 8), .ref (ad 9), .int dp_1401, .long many_1401, .long grt_1401, .long lst_1401, .long (nou_1401 + 1), .ref (ad 10), .ref (ad 11), .ref (ad 12), .int rm_1401, .long rb_1401, .ref (ad 13), .int pr_1401, .ref (ad 14), .ref (ad 15), .ref (ad 16), .ref (ad 17), .int (nI wo), .ref (ad 18), .ref (ad 19)]) := by rw [hen_1406]; exact va_up_self _ _ _
              have hI_1406 : RX cy cs ad en_1406 := by rw [hen_1406]; exact upr_M hI_1398 ⟨fa_1401, hi_1401, wd, mo, tb, dp_1401, many_1401, grt_1401, lst_1401, (nou_1401 + 1), rm_1401, rb_1401, pr_1401, wo, rfl, hwd2, hwd3, hmo, htb, hwo⟩
              have hf_1406 : ∀ c, (c ≠ 0 ∧ c ≠ 6 ∧ c ≠ 7 ∧ c ≠ 10 ∧ c ≠ 11) → en_1406 c = en c := fun c hc => Eq.trans (show en_1406 c = en_1398 c from by rw [hen_1406, va_up_ne _ _ (by omega)]) (hf_1398 c hc)
              have hkp_1406 : KP en en_1406 := KP_fv hkp_1398 es1401 es1401_1406 hi_1401 (nI wd) (nI mo) (nI tb) pr_1401 (nI wo) rfl rfl rfl rfl rfl rfl rfl rfl rfl rfl rfl rfl
              have hsd_1406 : SD en_1393 en_1406 := SD_fv hsd_1398 es1401 es1401_1406 (show en_1406 7 = en_1398 7 from by rw [hen_1406, va_up_ne _ _ (by decide)]) (show en_1406 6 = en_1398 6 from by rw [hen_1406, va_up_ne _ _ (by decide)]) dp_1401 rfl rfl
              refine lv_aload_n hx hb dX12_goThrough_166 rfl (lv_at hl 1 rfl) ?_
              refine lv_dup hx hb dX12_goThrough_167 rfl ?_
              refine hp_get hx hb hts ix12 hown hK hh (q := 0) rfl (hI.1 _ (by decide)) es1401_1406 rfl 15 (by decide) (hts _ tw_894) (fun _ h9 => h9) rfl dX12_goThrough_168 ?_
              refine lv_lconst (v := 1) hx hb dX12_goThrough_171 (by decide) ?_
              refine lv_ladd hx hb dX12_goThrough_172 ?_
              refine hp_put hx hb hts ix12 tyX12 tyX12_ok nmX12 hown hK hh (q := 0) rfl (hI.1 _ (by decide)) es1401_1406 rfl 15 (by decide) (hts _ tw_894) (fun _ h9 => h9) rfl (ty := .long) (by decide +kernel) rfl rfl (Nat.le_of_ble_eq_true rfl) dX12_goThrough_173 (fun H locs en_1407 hen_1407 hh => ?_)
              have es1401_1407 : en_1407 0 = .inr (11, [.int fa_1401, .int hi_1401, .int (nI wd), .int (nI mo), .int (nI tb), .ref (ad 1), .ref (ad 2), .ref (ad 3), .ref (ad 4), .ref (ad 5), .ref (ad 6), .ref (ad 7), .ref (ad 8), .ref (ad 9), .int dp_1401, .long (many_1401 + 1), .long grt_1401, .long lst_1401, .long (nou_1401 + 1), .ref (ad 10), .ref (ad 11), .ref (ad 12), .int rm_1401, .long rb_1401, .ref (ad 13), .int pr_1401, .ref (ad 14), .ref (ad 15), .ref (ad 16), .ref (ad 17), .int (nI wo), .ref (ad 18), .ref (ad 19)]) := by rw [hen_1407]; exact va_up_self _ _ _
              have hI_1407 : RX cy cs ad en_1407 := by rw [hen_1407]; exact upr_M hI_1406 ⟨fa_1401, hi_1401, wd, mo, tb, dp_1401, (many_1401 + 1), grt_1401, lst_1401, (nou_1401 + 1), rm_1401, rb_1401, pr_1401, wo, rfl, hwd2, hwd3, hmo, htb, hwo⟩
              have hf_1407 : ∀ c, (c ≠ 0 ∧ c ≠ 6 ∧ c ≠ 7 ∧ c ≠ 10 ∧ c ≠ 11) → en_1407 c = en c := fun c hc => Eq.trans (show en_1407 c = en_1406 c from by rw [hen_1407, va_up_ne _ _ (by omega)]) (hf_1406 c hc)
              have hkp_1407 : KP en en_1407 := KP_fv hkp_1406 es1401_1406 es1401_1407 hi_1401 (nI wd) (nI mo) (nI tb) pr_1401 (nI wo) rfl rfl rfl rfl rfl rfl rfl rfl rfl rfl rfl rfl
              have hsd_1407 : SD en_1393 en_1407 := SD_fv hsd_1406 es1401_1406 es1401_1407 (show en_1407 7 = en_1406 7 from by rw [hen_1407, va_up_ne _ _ (by decide)]) (show en_1407 6 = en_1406 6 from by rw [hen_1407, va_up_ne _ _ (by decide)]) dp_1401 rfl rfl
              refine lv_goto (tgt := 28) hx hb dX12_goThrough_176 (by decide) ?_
              exact ih_1390 (mm1390 - 1) (n - 1) u1_1393 en_1407 ls H locs (by omega) hI_1407 hf_1407 (ND_sd hND_1393 hsd_1407) (by rw [hsd_1407.2.1]; have h1 := hnm_1393; have h2 := i1_1390; omega) (LVS_sd hlq_1393 (by omega) hsd_1407 (show rdI (en_1407 0) 2 = rdI (en_1393 0) 2 from (hkp_1407.2.1).trans (hkp_1393.2.1).symm) (show rdI (en_1407 0) 3 = rdI (en_1393 0) 3 from (hkp_1407.2.2.1).trans (hkp_1393.2.2.1).symm) ((hf_1407 1 (by omega)).trans (hf_1393 1 (by omega)).symm)) (by rw [show gtS en_1407 = (gt1 (rdI (en 0) 2).toNatClampNeg (rdI (en 0) 3).toNatClampNeg n (rdF (en 1))) (gtS en_1390) (pre (nwF en_1393) n) from by unfold gt1; rw [← hnq_1393, ← gtS_next hkq_1393 (hu_1393 10 (by omega)) (hu_1393 11 (by omega)), ← hj0_1398]; unfold gtC; rw [if_pos ((lg_cmp_eq _ _).mp c_1403)]; exact gtS_of (by rw [es1401_1407, show (gtS en_1398).1 = rdJ (en_1398 0) 15 from rfl, es1401]; rfl) (by rw [es1401_1407, show (gtS en_1398).2.1 = rdJ (en_1398 0) 16 from rfl, es1401]; rfl) (by rw [es1401_1407, show (gtS en_1398).2.2.1 = rdJ (en_1398 0) 17 from rfl, es1401]; rfl) (by rw [es1401_1407, show (gtS en_1398).2.2.2.1 = rdJ (en_1398 0) 18 from rfl, es1401]; rfl) (by rw [hen_1407, va_up_ne _ _ (by decide), hen_1406, va_up_ne _ _ (by decide)]; rfl) (by rw [hen_1407, va_up_ne _ _ (by decide), hen_1406, va_up_ne _ _ (by decide)]; rfl), show RM9 en_1407 n (n - 1) u1_1393 = rem9 (rdI (en_1390 0) 4).toNatClampNeg (alR (rdF (en_1390 2))) n (nwF en_1393) (n - 1) u1_1393 from (RM9_c (a := en_1393) (show rdI (en_1407 0) 4 = rdI (en_1393 0) 4 from (hkp_1407.2.2.2.1).trans (hkp_1393.2.2.2.1).symm) ((hf_1407 2 (by omega)).trans (hf_1393 2 (by omega)).symm) hsd_1407.2.1).trans (by unfold RM9; rw [show rdI (en_1393 0) 4 = rdI (en_1390 0) 4 from (KPg.kp hkq_1393).2.2.2.1, hu_1393 2 (by omega)])]; have h9 := i3_1390; rw [show RM9 en_1390 n d1390 u1390 = _ from hL_1393] at h9; exact h9) (hkp_1407) (lv_sub hl [1, 2] rfl) hh
          refine lv_aload_n hx hb dX12_goThrough_94 rfl (lv_at hl 1 rfl) ?_
          refine hp_get hx hb hts ix12 hown hK hh (q := 0) rfl (hI.1 _ (by decide)) es1399 rfl 15 (by decide) (hts _ tw_894) (fun _ h9 => h9) rfl dX12_goThrough_95 ?_
          refine lv_lconst (v := 0) hx hb dX12_goThrough_98 (by decide) ?_
          refine W.lcmp hx hb dX12_goThrough_99 ?_
          refine lv_if_eq (tgt := 112) hx hb dX12_goThrough_100 (by decide) (fun c_1408 => ?_) (fun c_1408 => ?_)
          · refine lv_aload_n hx hb dX12_goThrough_112 rfl (lv_at hl 1 rfl) ?_
            refine lv_lload_n hx hb dX12_goThrough_113 rfl (lv_at hl 0 rfl) ?_
            refine hp_put hx hb hts ix12 tyX12 tyX12_ok nmX12 hown hK hh (q := 0) rfl (hI.1 _ (by decide)) es1399 rfl 17 (by decide) (hts _ tw_896) (fun _ h9 => h9) rfl (ty := .long) (by decide +kernel) rfl rfl (Nat.le_of_ble_eq_true rfl) dX12_goThrough_114 (fun H locs en_1409 hen_1409 hh => ?_)
            have es1399_1409 : en_1409 0 = .inr (11, [.int fa_1399, .int hi_1399, .int (nI wd), .int (nI mo), .int (nI tb), .ref (ad 1), .ref (ad 2), .ref (ad 3), .ref (ad 4), .ref (ad 5), .ref (ad 6), .ref (ad 7), .ref (ad 8), .ref (ad 9), .int dp_1399, .long many_1399, .long grt_1399, .long r_1396, .long nou_1399, .ref (ad 10), .ref (ad 11), .ref (ad 12), .int rm_1399, .long rb_1399, .ref (ad 13), .int pr_1399, .ref (ad 14), .ref (ad 15), .ref (ad 16), .ref (ad 17), .int (nI wo), .ref (ad 18), .ref (ad 19)]) := by rw [hen_1409]; exact va_up_self _ _ _
            have hI_1409 : RX cy cs ad en_1409 := by rw [hen_1409]; exact upr_M hI_1397 ⟨fa_1399, hi_1399, wd, mo, tb, dp_1399, many_1399, grt_1399, r_1396, nou_1399, rm_1399, rb_1399, pr_1399, wo, rfl, hwd2, hwd3, hmo, htb, hwo⟩
            have hf_1409 : ∀ c, (c ≠ 0 ∧ c ≠ 6 ∧ c ≠ 7 ∧ c ≠ 10 ∧ c ≠ 11) → en_1409 c = en c := fun c hc => Eq.trans (show en_1409 c = en_1397 c from by rw [hen_1409, va_up_ne _ _ (by omega)]) (hf_1397 c hc)
            have hkp_1409 : KP en en_1409 := KP_fv hkp_1397 es1399 es1399_1409 hi_1399 (nI wd) (nI mo) (nI tb) pr_1399 (nI wo) rfl rfl rfl rfl rfl rfl rfl rfl rfl rfl rfl rfl
            have hsd_1409 : SD en_1393 en_1409 := SD_fv hsd_1397 es1399 es1399_1409 (show en_1409 7 = en_1397 7 from by rw [hen_1409, va_up_ne _ _ (by decide)]) (show en_1409 6 = en_1397 6 from by rw [hen_1409, va_up_ne _ _ (by decide)]) dp_1399 rfl rfl
            refine lv_iconst (v := 0) hx hb dX12_goThrough_117 (by decide) ?_
            refine lv_istore (lv' := [(4, .int 0), (2, .long r_1396), (0, .ref (ad 0)), (1, .int (nI n))]) hx hb dX12_goThrough_118 hl (by decide) rfl (fun ls hl => ?_)
            have loop_1410 : ∀ (fu j1410 : Nat)  (en_1410 : Nat → va_E) (ls : Array Slot) (H : Heap) (locs : List Loc), 0 ≤ j1410 → j1410 ≤ n → n < j1410 + fu → RX cy cs ad en_1410 → (∀ c, (c ≠ 0 ∧ c ≠ 6 ∧ c ≠ 7 ∧ c ≠ 10 ∧ c ≠ 11) → en_1410 c = en c) → (gtS en_1410 = ((gtS en_1397).1, (gtS en_1397).2.1, r_1396, (gtS en_1397).2.2.2.1, (gtS en_1397).2.2.2.2.1, cpN j1410 (lF (pre (nwF en_1393) n)) (gtS en_1397).2.2.2.2.2)) → (KP en en_1410) → (SD en_1393 en_1410) → lv_has ls 5 [(4, .int (nI j1410)), (2, .long r_1396), (0, .ref (ad 0)), (1, .int (nI n))] → Hp D (Af cs ad sz) (Af cs ad sz) s.heap H locs cs ad en_1410 → W p l e (headSpec (Cond.code yX12_goThrough cX12_goThrough 5 none :: TB) (rmN 3)).room s m ([.ref (ad 0), .int (nI n)] : List Value).toArray below meth c H locs 0 0 (MQ below (va_Qv (S := Nat → va_E) (fun en1 => RX cy cs ad en1 ∧ (∀ c, (c ≠ 0 ∧ c ≠ 6 ∧ c ≠ 7 ∧ c ≠ 10 ∧ c ≠ 11) → en1 c = en c) ∧ gtS en1 = List.foldl (gt1 (rdI (en 0) 2).toNatClampNeg (rdI (en 0) 3).toNatClampNeg n (rdF (en 1))) (0, (-9223372036854775808), (-9223372036854775808), 0, rdF (en 10), rdF (en 11)) (wds (rdI (en 0) 4).toNatClampNeg (alR (rdF (en 2))) n none) ∧ KP en en1) (PostM D cs ad) (Af cs ad sz)) ([.ref (ad 0), .int (nI n)] : List Value).toArray s 0 0 (Af cs ad sz)) (F0 m 120 ls []) := by
              intro fu
              induction fu with
              | zero => intro j1410  en_1410 ls H locs h0 h1 h2; exact absurd h2 (by omega)
              | succ fu ih_1410 =>
                intro j1410  en_1410 ls H locs hj0_1410 hj_1410 hfu_1410 hI_1410 hf_1410 i0_1410 i1_1410 i2_1410 hl hh
                refine lv_iload hx hb dX12_goThrough_120 (lv_at hl 0 rfl) ?_
                refine lv_iload_n hx hb dX12_goThrough_122 rfl (lv_at hl 3 rfl) ?_
                refine lv_icmp_ge (tgt := 146) hx hb dX12_goThrough_123 (by decide) (fun c_1411 => ?_) (fun c_1411 => ?_)
                · have n_1411 : n ≤ j1410 := n_le (a := n) (b := j1410) c_1411 (by omega) (by omega)
                  exact join_1398  en_1410 ls _ _ hI_1410 hf_1410 i1_1410 i2_1410 (by have e9 : j1410 = n := (by omega); rw [e9] at i0_1410; exact (i0_1410.trans (gtB_pos (Or.inl (((show (gtS en_1397).1 = many_1399 from by show rdJ (en_1397 0) 15 = _; rw [es1399]; rfl)).trans ((lg_cmp_eq _ _).mp c_1408)))).symm).trans (congrArg (gtB n r_1396 (lF (pre (nwF en_1393) n))) hj0_1397)) (lv_sub hl [1, 2, 3] rfl) hh
                · have n_1411 : j1410 < n := n_nle (a := n) (b := j1410) c_1411 (by omega) (by omega)
                  refine lv_aload_n hx hb dX12_goThrough_126 rfl (lv_at hl 2 rfl) ?_
                  obtain ⟨fa_1412, hi_1412, wd_1412, mo_1412, tb_1412, dp_1412, many_1412, grt_1412, lst_1412, nou_1412, rm_1412, rb_1412, pr_1412, wo_1412, es1412, p0_1412, p1_1412, p2_1412, p3_1412, p4_1412⟩ := getr_M hI_1410
                  have hq2_1413 : wd_1412 = wd := n_eq ((show nI wd_1412 = rdI (en_1410 0) 2 from by rw [es1412]; rfl).trans (i1_1410.2.1.trans (show rdI (en 0) 2 = nI wd from by rw [es1384]; rfl))) (by omega) (by omega)
                  have hq3_1413 : mo_1412 = mo := n_eq ((show nI mo_1412 = rdI (en_1410 0) 3 from by rw [es1412]; rfl).trans (i1_1410.2.2.1.trans (show rdI (en 0) 3 = nI mo from by rw [es1384]; rfl))) (by omega) (by omega)
                  have hq4_1413 : tb_1412 = tb := n_eq ((show nI tb_1412 = rdI (en_1410 0) 4 from by rw [es1412]; rfl).trans (i1_1410.2.2.2.1.trans (show rdI (en 0) 4 = nI tb from by rw [es1384]; rfl))) (by omega) (by omega)
                  have hq30_1413 : wo_1412 = wo := n_eq ((show nI wo_1412 = rdI (en_1410 0) 30 from by rw [es1412]; rfl).trans (i1_1410.2.2.2.2.2.trans (show rdI (en 0) 30 = nI wo from by rw [es1384]; rfl))) (by omega) (by omega)
                  rw [hq2_1413, hq3_1413, hq4_1413, hq30_1413] at es1412
                  refine hp_get hx hb hts ix12 hown hK hh (q := 0) rfl (hI.1 _ (by decide)) es1412 rfl 20 (by decide) (hts _ tw_899) (fun _ h9 => h9) rfl dX12_goThrough_127 ?_
                  refine lv_iload hx hb dX12_goThrough_130 (lv_at hl 0 rfl) ?_
                  refine lv_aload_n hx hb dX12_goThrough_132 rfl (lv_at hl 2 rfl) ?_
                  refine hp_get hx hb hts ix12 hown hK hh (q := 0) rfl (hI.1 _ (by decide)) es1412 rfl 11 (by decide) (hts _ tw_890) (fun _ h9 => h9) rfl dX12_goThrough_133 ?_
                  refine lv_iload hx hb dX12_goThrough_136 (lv_at hl 0 rfl) ?_
                  obtain ⟨f_1414, es1414⟩ := getr_nw hI_1410
                  refine hp_iald hx hb hK hh (q := 7) rfl (hI.1 _ (by decide)) es1414 (vp_in_nI (n := j1410) (by omega) (by decide)) dX12_goThrough_138 ?_
                  rw [nI_clamp (n := j1410) (by omega)]
                  obtain ⟨v_1415, hv_1415, hve_1415⟩ := hall_1393 j1410 (by omega)
                  rw [show f_1414 j1410 = nI v_1415 from (show f_1414 j1410 = rdF (en_1393 7) j1410 from by rw [← i2_1410.2.1, es1414]; rfl).trans hve_1415]
                  obtain ⟨f_1416, es1416⟩ := getr_sm hI_1410
                  refine hp_iast hx hb hK hh (q := 11) rfl (hI.1 _ (by decide)) es1416 (vp_in_nI (n := j1410) (by omega) (by decide)) dX12_goThrough_139 (fun H locs en_1417 hen_1417 hh => ?_)
                  rw [nI_clamp (n := j1410) (by omega)] at hen_1417
                  have es1412_1417 : en_1417 0 = .inr (11, [.int fa_1412, .int hi_1412, .int (nI wd), .int (nI mo), .int (nI tb), .ref (ad 1), .ref (ad 2), .ref (ad 3), .ref (ad 4), .ref (ad 5), .ref (ad 6), .ref (ad 7), .ref (ad 8), .ref (ad 9), .int dp_1412, .long many_1412, .long grt_1412, .long lst_1412, .long nou_1412, .ref (ad 10), .ref (ad 11), .ref (ad 12), .int rm_1412, .long rb_1412, .ref (ad 13), .int pr_1412, .ref (ad 14), .ref (ad 15), .ref (ad 16), .ref (ad 17), .int (nI wo), .ref (ad 18), .ref (ad 19)]) := by rw [hen_1417, va_up_ne _ _ (by decide)]; exact es1412
                  have es1414_1417 : en_1417 7 = .inl (cy 0, 13, .inl f_1414) := by rw [hen_1417, va_up_ne _ _ (by decide)]; exact es1414
                  have es1416_1417 : en_1417 11 = .inl (cy 0, 12, .inl (upd f_1416 j1410 (nI v_1415))) := by rw [hen_1417]; exact va_up_self _ _ _
                  have hI_1417 : RX cy cs ad en_1417 := by rw [hen_1417]; exact upr_sm hI_1410 ⟨(upd f_1416 j1410 (nI v_1415)), rfl⟩
                  have hf_1417 : ∀ c, (c ≠ 0 ∧ c ≠ 6 ∧ c ≠ 7 ∧ c ≠ 10 ∧ c ≠ 11) → en_1417 c = en c := fun c hc => Eq.trans (show en_1417 c = en_1410 c from by rw [hen_1417, va_up_ne _ _ (by omega)]) (hf_1410 c hc)
                  have hkp_1417 : KP en en_1417 := KP_same i1_1410 (show en_1417 0 = en_1410 0 from by rw [hen_1417, va_up_ne _ _ (by decide)])
                  have hsd_1417 : SD en_1393 en_1417 := SD_same i2_1410 (show en_1417 0 = en_1410 0 from by rw [hen_1417, va_up_ne _ _ (by decide)]) (show en_1417 7 = en_1410 7 from by rw [hen_1417, va_up_ne _ _ (by decide)]) (show en_1417 6 = en_1410 6 from by rw [hen_1417, va_up_ne _ _ (by decide)])
                  refine lv_iinc (v := (nI (j1410 + 1))) (lv' := [(4, .int (nI (j1410 + 1))), (2, .long r_1396), (0, .ref (ad 0)), (1, .int (nI n))]) hx hb dX12_goThrough_140 hl (k := 0) rfl (nI_1 _) (by decide) rfl (fun ls hl => ?_)
                  refine lv_goto (tgt := 120) hx hb dX12_goThrough_143 (by decide) ?_
                  exact ih_1410 ((j1410 + 1))  en_1417 ls H locs (by omega) (by omega) (by omega) hI_1417 hf_1417 (gtS_11 i0_1410 (by rw [hen_1417, va_up_ne _ _ (by decide)]) (by rw [hen_1417, va_up_ne _ _ (by decide)]) (by rw [es1416_1417]; exact cpN_s ((show f_1416 = rdF (en_1410 11) from by rw [es1416]; rfl).trans (congrArg (fun s : GT9 => s.2.2.2.2.2) i0_1410)) (lF_at (by omega) hve_1415 hv_1415))) (hkp_1417) (hsd_1417) (lv_sub hl [0, 1, 2, 3] rfl) hh
            exact loop_1410 (n + 1) 0  en_1409 ls _ _ (Nat.le_refl _) (by omega) (by omega) hI_1409 hf_1409 (by rw [cpN_0]; exact gtS_of (by rw [es1399_1409]; show _ = rdJ (en_1397 0) 15; rw [es1399]; rfl) (by rw [es1399_1409]; show _ = rdJ (en_1397 0) 16; rw [es1399]; rfl) (by rw [es1399_1409]; rfl) (by rw [es1399_1409]; show _ = rdJ (en_1397 0) 18; rw [es1399]; rfl) (by rw [hen_1409, va_up_ne _ _ (by decide)]; rfl) (by rw [hen_1409, va_up_ne _ _ (by decide)]; rfl)) (hkp_1409) (hsd_1409) (lv_sub hl [0, 1, 2, 3] rfl) hh
          · refine lv_lload_n hx hb dX12_goThrough_103 rfl (lv_at hl 0 rfl) ?_
            refine lv_aload_n hx hb dX12_goThrough_104 rfl (lv_at hl 1 rfl) ?_
            refine hp_get hx hb hts ix12 hown hK hh (q := 0) rfl (hI.1 _ (by decide)) es1399 rfl 17 (by decide) (hts _ tw_896) (fun _ h9 => h9) rfl dX12_goThrough_105 ?_
            refine W.lcmp hx hb dX12_goThrough_108 ?_
            refine lv_if_ge (tgt := 146) hx hb dX12_goThrough_109 (by decide) (fun c_1418 => ?_) (fun c_1418 => ?_)
            · exact join_1398  en_1397 ls _ _ hI_1397 hf_1397 hkp_1397 hsd_1397 ((gtB_neg (show ¬ ((gtS en_1397).1 = 0 ∨ r_1396 < (gtS en_1397).2.2.1) from fun q => q.elim (fun q => c_1408 ((lg_cmp_eq _ _).mpr (((show (gtS en_1397).1 = many_1399 from by show rdJ (en_1397 0) 15 = _; rw [es1399]; rfl)).symm.trans q))) (fun q => absurd (Int64.lt_iff_toInt_lt.mp q) (Int.not_lt.mpr (by rw [show (gtS en_1397).2.2.1 = lst_1399 from by show rdJ (en_1397 0) 17 = _; rw [es1399]; rfl]; exact g_ge c_1418))))).symm.trans (congrArg (gtB n r_1396 (lF (pre (nwF en_1393) n))) hj0_1397)) (lv_sub hl [0, 1, 2] rfl) hh
            · refine lv_aload_n hx hb dX12_goThrough_112 rfl (lv_at hl 1 rfl) ?_
              refine lv_lload_n hx hb dX12_goThrough_113 rfl (lv_at hl 0 rfl) ?_
              refine hp_put hx hb hts ix12 tyX12 tyX12_ok nmX12 hown hK hh (q := 0) rfl (hI.1 _ (by decide)) es1399 rfl 17 (by decide) (hts _ tw_896) (fun _ h9 => h9) rfl (ty := .long) (by decide +kernel) rfl rfl (Nat.le_of_ble_eq_true rfl) dX12_goThrough_114 (fun H locs en_1419 hen_1419 hh => ?_)
              have es1399_1419 : en_1419 0 = .inr (11, [.int fa_1399, .int hi_1399, .int (nI wd), .int (nI mo), .int (nI tb), .ref (ad 1), .ref (ad 2), .ref (ad 3), .ref (ad 4), .ref (ad 5), .ref (ad 6), .ref (ad 7), .ref (ad 8), .ref (ad 9), .int dp_1399, .long many_1399, .long grt_1399, .long r_1396, .long nou_1399, .ref (ad 10), .ref (ad 11), .ref (ad 12), .int rm_1399, .long rb_1399, .ref (ad 13), .int pr_1399, .ref (ad 14), .ref (ad 15), .ref (ad 16), .ref (ad 17), .int (nI wo), .ref (ad 18), .ref (ad 19)]) := by rw [hen_1419]; exact va_up_self _ _ _
              have hI_1419 : RX cy cs ad en_1419 := by rw [hen_1419]; exact upr_M hI_1397 ⟨fa_1399, hi_1399, wd, mo, tb, dp_1399, many_1399, grt_1399, r_1396, nou_1399, rm_1399, rb_1399, pr_1399, wo, rfl, hwd2, hwd3, hmo, htb, hwo⟩
              have hf_1419 : ∀ c, (c ≠ 0 ∧ c ≠ 6 ∧ c ≠ 7 ∧ c ≠ 10 ∧ c ≠ 11) → en_1419 c = en c := fun c hc => Eq.trans (show en_1419 c = en_1397 c from by rw [hen_1419, va_up_ne _ _ (by omega)]) (hf_1397 c hc)
              have hkp_1419 : KP en en_1419 := KP_fv hkp_1397 es1399 es1399_1419 hi_1399 (nI wd) (nI mo) (nI tb) pr_1399 (nI wo) rfl rfl rfl rfl rfl rfl rfl rfl rfl rfl rfl rfl
              have hsd_1419 : SD en_1393 en_1419 := SD_fv hsd_1397 es1399 es1399_1419 (show en_1419 7 = en_1397 7 from by rw [hen_1419, va_up_ne _ _ (by decide)]) (show en_1419 6 = en_1397 6 from by rw [hen_1419, va_up_ne _ _ (by decide)]) dp_1399 rfl rfl
              refine lv_iconst (v := 0) hx hb dX12_goThrough_117 (by decide) ?_
              refine lv_istore (lv' := [(4, .int 0), (2, .long r_1396), (0, .ref (ad 0)), (1, .int (nI n))]) hx hb dX12_goThrough_118 hl (by decide) rfl (fun ls hl => ?_)
              have loop_1420 : ∀ (fu j1420 : Nat)  (en_1420 : Nat → va_E) (ls : Array Slot) (H : Heap) (locs : List Loc), 0 ≤ j1420 → j1420 ≤ n → n < j1420 + fu → RX cy cs ad en_1420 → (∀ c, (c ≠ 0 ∧ c ≠ 6 ∧ c ≠ 7 ∧ c ≠ 10 ∧ c ≠ 11) → en_1420 c = en c) → (gtS en_1420 = ((gtS en_1397).1, (gtS en_1397).2.1, r_1396, (gtS en_1397).2.2.2.1, (gtS en_1397).2.2.2.2.1, cpN j1420 (lF (pre (nwF en_1393) n)) (gtS en_1397).2.2.2.2.2)) → (KP en en_1420) → (SD en_1393 en_1420) → lv_has ls 5 [(4, .int (nI j1420)), (2, .long r_1396), (0, .ref (ad 0)), (1, .int (nI n))] → Hp D (Af cs ad sz) (Af cs ad sz) s.heap H locs cs ad en_1420 → W p l e (headSpec (Cond.code yX12_goThrough cX12_goThrough 5 none :: TB) (rmN 3)).room s m ([.ref (ad 0), .int (nI n)] : List Value).toArray below meth c H locs 0 0 (MQ below (va_Qv (S := Nat → va_E) (fun en1 => RX cy cs ad en1 ∧ (∀ c, (c ≠ 0 ∧ c ≠ 6 ∧ c ≠ 7 ∧ c ≠ 10 ∧ c ≠ 11) → en1 c = en c) ∧ gtS en1 = List.foldl (gt1 (rdI (en 0) 2).toNatClampNeg (rdI (en 0) 3).toNatClampNeg n (rdF (en 1))) (0, (-9223372036854775808), (-9223372036854775808), 0, rdF (en 10), rdF (en 11)) (wds (rdI (en 0) 4).toNatClampNeg (alR (rdF (en 2))) n none) ∧ KP en en1) (PostM D cs ad) (Af cs ad sz)) ([.ref (ad 0), .int (nI n)] : List Value).toArray s 0 0 (Af cs ad sz)) (F0 m 120 ls []) := by
                intro fu
                induction fu with
                | zero => intro j1420  en_1420 ls H locs h0 h1 h2; exact absurd h2 (by omega)
                | succ fu ih_1420 =>
                  intro j1420  en_1420 ls H locs hj0_1420 hj_1420 hfu_1420 hI_1420 hf_1420 i0_1420 i1_1420 i2_1420 hl hh
                  refine lv_iload hx hb dX12_goThrough_120 (lv_at hl 0 rfl) ?_
                  refine lv_iload_n hx hb dX12_goThrough_122 rfl (lv_at hl 3 rfl) ?_
                  refine lv_icmp_ge (tgt := 146) hx hb dX12_goThrough_123 (by decide) (fun c_1421 => ?_) (fun c_1421 => ?_)
                  · have n_1421 : n ≤ j1420 := n_le (a := n) (b := j1420) c_1421 (by omega) (by omega)
                    exact join_1398  en_1420 ls _ _ hI_1420 hf_1420 i1_1420 i2_1420 (by have e9 : j1420 = n := (by omega); rw [e9] at i0_1420; exact (i0_1420.trans (gtB_pos (Or.inr (by rw [show (gtS en_1397).2.2.1 = lst_1399 from by show rdJ (en_1397 0) 17 = _; rw [es1399]; rfl]; exact Int64.lt_iff_toInt_lt.mpr (g_nge c_1418)))).symm).trans (congrArg (gtB n r_1396 (lF (pre (nwF en_1393) n))) hj0_1397)) (lv_sub hl [1, 2, 3] rfl) hh
                  · have n_1421 : j1420 < n := n_nle (a := n) (b := j1420) c_1421 (by omega) (by omega)
                    refine lv_aload_n hx hb dX12_goThrough_126 rfl (lv_at hl 2 rfl) ?_
                    obtain ⟨fa_1422, hi_1422, wd_1422, mo_1422, tb_1422, dp_1422, many_1422, grt_1422, lst_1422, nou_1422, rm_1422, rb_1422, pr_1422, wo_1422, es1422, p0_1422, p1_1422, p2_1422, p3_1422, p4_1422⟩ := getr_M hI_1420
                    have hq2_1423 : wd_1422 = wd := n_eq ((show nI wd_1422 = rdI (en_1420 0) 2 from by rw [es1422]; rfl).trans (i1_1420.2.1.trans (show rdI (en 0) 2 = nI wd from by rw [es1384]; rfl))) (by omega) (by omega)
                    have hq3_1423 : mo_1422 = mo := n_eq ((show nI mo_1422 = rdI (en_1420 0) 3 from by rw [es1422]; rfl).trans (i1_1420.2.2.1.trans (show rdI (en 0) 3 = nI mo from by rw [es1384]; rfl))) (by omega) (by omega)
                    have hq4_1423 : tb_1422 = tb := n_eq ((show nI tb_1422 = rdI (en_1420 0) 4 from by rw [es1422]; rfl).trans (i1_1420.2.2.2.1.trans (show rdI (en 0) 4 = nI tb from by rw [es1384]; rfl))) (by omega) (by omega)
                    have hq30_1423 : wo_1422 = wo := n_eq ((show nI wo_1422 = rdI (en_1420 0) 30 from by rw [es1422]; rfl).trans (i1_1420.2.2.2.2.2.trans (show rdI (en 0) 30 = nI wo from by rw [es1384]; rfl))) (by omega) (by omega)
                    rw [hq2_1423, hq3_1423, hq4_1423, hq30_1423] at es1422
                    refine hp_get hx hb hts ix12 hown hK hh (q := 0) rfl (hI.1 _ (by decide)) es1422 rfl 20 (by decide) (hts _ tw_899) (fun _ h9 => h9) rfl dX12_goThrough_127 ?_
                    refine lv_iload hx hb dX12_goThrough_130 (lv_at hl 0 rfl) ?_
                    refine lv_aload_n hx hb dX12_goThrough_132 rfl (lv_at hl 2 rfl) ?_
                    refine hp_get hx hb hts ix12 hown hK hh (q := 0) rfl (hI.1 _ (by decide)) es1422 rfl 11 (by decide) (hts _ tw_890) (fun _ h9 => h9) rfl dX12_goThrough_133 ?_
                    refine lv_iload hx hb dX12_goThrough_136 (lv_at hl 0 rfl) ?_
                    obtain ⟨f_1424, es1424⟩ := getr_nw hI_1420
                    refine hp_iald hx hb hK hh (q := 7) rfl (hI.1 _ (by decide)) es1424 (vp_in_nI (n := j1420) (by omega) (by decide)) dX12_goThrough_138 ?_
                    rw [nI_clamp (n := j1420) (by omega)]
                    obtain ⟨v_1425, hv_1425, hve_1425⟩ := hall_1393 j1420 (by omega)
                    rw [show f_1424 j1420 = nI v_1425 from (show f_1424 j1420 = rdF (en_1393 7) j1420 from by rw [← i2_1420.2.1, es1424]; rfl).trans hve_1425]
                    obtain ⟨f_1426, es1426⟩ := getr_sm hI_1420
                    refine hp_iast hx hb hK hh (q := 11) rfl (hI.1 _ (by decide)) es1426 (vp_in_nI (n := j1420) (by omega) (by decide)) dX12_goThrough_139 (fun H locs en_1427 hen_1427 hh => ?_)
                    rw [nI_clamp (n := j1420) (by omega)] at hen_1427
                    have es1422_1427 : en_1427 0 = .inr (11, [.int fa_1422, .int hi_1422, .int (nI wd), .int (nI mo), .int (nI tb), .ref (ad 1), .ref (ad 2), .ref (ad 3), .ref (ad 4), .ref (ad 5), .ref (ad 6), .ref (ad 7), .ref (ad 8), .ref (ad 9), .int dp_1422, .long many_1422, .long grt_1422, .long lst_1422, .long nou_1422, .ref (ad 10), .ref (ad 11), .ref (ad 12), .int rm_1422, .long rb_1422, .ref (ad 13), .int pr_1422, .ref (ad 14), .ref (ad 15), .ref (ad 16), .ref (ad 17), .int (nI wo), .ref (ad 18), .ref (ad 19)]) := by rw [hen_1427, va_up_ne _ _ (by decide)]; exact es1422
                    have es1424_1427 : en_1427 7 = .inl (cy 0, 13, .inl f_1424) := by rw [hen_1427, va_up_ne _ _ (by decide)]; exact es1424
                    have es1426_1427 : en_1427 11 = .inl (cy 0, 12, .inl (upd f_1426 j1420 (nI v_1425))) := by rw [hen_1427]; exact va_up_self _ _ _
                    have hI_1427 : RX cy cs ad en_1427 := by rw [hen_1427]; exact upr_sm hI_1420 ⟨(upd f_1426 j1420 (nI v_1425)), rfl⟩
                    have hf_1427 : ∀ c, (c ≠ 0 ∧ c ≠ 6 ∧ c ≠ 7 ∧ c ≠ 10 ∧ c ≠ 11) → en_1427 c = en c := fun c hc => Eq.trans (show en_1427 c = en_1420 c from by rw [hen_1427, va_up_ne _ _ (by omega)]) (hf_1420 c hc)
                    have hkp_1427 : KP en en_1427 := KP_same i1_1420 (show en_1427 0 = en_1420 0 from by rw [hen_1427, va_up_ne _ _ (by decide)])
                    have hsd_1427 : SD en_1393 en_1427 := SD_same i2_1420 (show en_1427 0 = en_1420 0 from by rw [hen_1427, va_up_ne _ _ (by decide)]) (show en_1427 7 = en_1420 7 from by rw [hen_1427, va_up_ne _ _ (by decide)]) (show en_1427 6 = en_1420 6 from by rw [hen_1427, va_up_ne _ _ (by decide)])
                    refine lv_iinc (v := (nI (j1420 + 1))) (lv' := [(4, .int (nI (j1420 + 1))), (2, .long r_1396), (0, .ref (ad 0)), (1, .int (nI n))]) hx hb dX12_goThrough_140 hl (k := 0) rfl (nI_1 _) (by decide) rfl (fun ls hl => ?_)
                    refine lv_goto (tgt := 120) hx hb dX12_goThrough_143 (by decide) ?_
                    exact ih_1420 ((j1420 + 1))  en_1427 ls H locs (by omega) (by omega) (by omega) hI_1427 hf_1427 (gtS_11 i0_1420 (by rw [hen_1427, va_up_ne _ _ (by decide)]) (by rw [hen_1427, va_up_ne _ _ (by decide)]) (by rw [es1426_1427]; exact cpN_s ((show f_1426 = rdF (en_1420 11) from by rw [es1426]; rfl).trans (congrArg (fun s : GT9 => s.2.2.2.2.2) i0_1420)) (lF_at (by omega) hve_1425 hv_1425))) (hkp_1427) (hsd_1427) (lv_sub hl [0, 1, 2, 3] rfl) hh
              exact loop_1420 (n + 1) 0  en_1419 ls _ _ (Nat.le_refl _) (by omega) (by omega) hI_1419 hf_1419 (by rw [cpN_0]; exact gtS_of (by rw [es1399_1419]; show _ = rdJ (en_1397 0) 15; rw [es1399]; rfl) (by rw [es1399_1419]; show _ = rdJ (en_1397 0) 16; rw [es1399]; rfl) (by rw [es1399_1419]; rfl) (by rw [es1399_1419]; show _ = rdJ (en_1397 0) 18; rw [es1399]; rfl) (by rw [hen_1419, va_up_ne _ _ (by decide)]; rfl) (by rw [hen_1419, va_up_ne _ _ (by decide)]; rfl)) (hkp_1419) (hsd_1419) (lv_sub hl [0, 1, 2, 3] rfl) hh
        refine lv_aload_n hx hb dX12_goThrough_42 rfl (lv_at hl 1 rfl) ?_
        refine hp_get hx hb hts ix12 hown hK hh (q := 0) rfl (hI.1 _ (by decide)) es1394 rfl 15 (by decide) (hts _ tw_894) (fun _ h9 => h9) rfl dX12_goThrough_43 ?_
        refine lv_lconst (v := 0) hx hb dX12_goThrough_46 (by decide) ?_
        refine W.lcmp hx hb dX12_goThrough_47 ?_
        refine lv_if_eq (tgt := 60) hx hb dX12_goThrough_48 (by decide) (fun c_1428 => ?_) (fun c_1428 => ?_)
        · refine lv_aload_n hx hb dX12_goThrough_60 rfl (lv_at hl 1 rfl) ?_
          refine lv_lload_n hx hb dX12_goThrough_61 rfl (lv_at hl 0 rfl) ?_
          refine hp_put hx hb hts ix12 tyX12 tyX12_ok nmX12 hown hK hh (q := 0) rfl (hI.1 _ (by decide)) es1394 rfl 16 (by decide) (hts _ tw_895) (fun _ h9 => h9) rfl (ty := .long) (by decide +kernel) rfl rfl (Nat.le_of_ble_eq_true rfl) dX12_goThrough_62 (fun H locs en_1429 hen_1429 hh => ?_)
          have es1394_1429 : en_1429 0 = .inr (11, [.int fa_1394, .int hi_1394, .int (nI wd), .int (nI mo), .int (nI tb), .ref (ad 1), .ref (ad 2), .ref (ad 3), .ref (ad 4), .ref (ad 5), .ref (ad 6), .ref (ad 7), .ref (ad 8), .ref (ad 9), .int dp_1394, .long many_1394, .long r_1396, .long lst_1394, .long nou_1394, .ref (ad 10), .ref (ad 11), .ref (ad 12), .int rm_1394, .long rb_1394, .ref (ad 13), .int pr_1394, .ref (ad 14), .ref (ad 15), .ref (ad 16), .ref (ad 17), .int (nI wo), .ref (ad 18), .ref (ad 19)]) := by rw [hen_1429]; exact va_up_self _ _ _
          have hI_1429 : RX cy cs ad en_1429 := by rw [hen_1429]; exact upr_M hI_1393 ⟨fa_1394, hi_1394, wd, mo, tb, dp_1394, many_1394, r_1396, lst_1394, nou_1394, rm_1394, rb_1394, pr_1394, wo, rfl, hwd2, hwd3, hmo, htb, hwo⟩
          have hf_1429 : ∀ c, (c ≠ 0 ∧ c ≠ 6 ∧ c ≠ 7 ∧ c ≠ 10 ∧ c ≠ 11) → en_1429 c = en c := fun c hc => Eq.trans (show en_1429 c = en_1393 c from by rw [hen_1429, va_up_ne _ _ (by omega)]) (hf_1393 c hc)
          have hkp_1429 : KP en en_1429 := KP_fv hkp_1393 es1394 es1394_1429 hi_1394 (nI wd) (nI mo) (nI tb) pr_1394 (nI wo) rfl rfl rfl rfl rfl rfl rfl rfl rfl rfl rfl rfl
          have hsd_1429 : SD en_1393 en_1429 := SD_fv (SD_rf en_1393) es1394 es1394_1429 (show en_1429 7 = en_1393 7 from by rw [hen_1429, va_up_ne _ _ (by decide)]) (show en_1429 6 = en_1393 6 from by rw [hen_1429, va_up_ne _ _ (by decide)]) dp_1394 rfl rfl
          refine lv_iconst (v := 0) hx hb dX12_goThrough_65 (by decide) ?_
          refine lv_istore (lv' := [(4, .int 0), (2, .long r_1396), (0, .ref (ad 0)), (1, .int (nI n))]) hx hb dX12_goThrough_66 hl (by decide) rfl (fun ls hl => ?_)
          have loop_1430 : ∀ (fu j1430 : Nat)  (en_1430 : Nat → va_E) (ls : Array Slot) (H : Heap) (locs : List Loc), 0 ≤ j1430 → j1430 ≤ n → n < j1430 + fu → RX cy cs ad en_1430 → (∀ c, (c ≠ 0 ∧ c ≠ 6 ∧ c ≠ 7 ∧ c ≠ 10 ∧ c ≠ 11) → en_1430 c = en c) → (gtS en_1430 = ((gtS en_1393).1, r_1396, (gtS en_1393).2.2.1, (gtS en_1393).2.2.2.1, cpN j1430 (lF (pre (nwF en_1393) n)) (gtS en_1393).2.2.2.2.1, (gtS en_1393).2.2.2.2.2)) → (KP en en_1430) → (SD en_1393 en_1430) → lv_has ls 5 [(4, .int (nI j1430)), (2, .long r_1396), (0, .ref (ad 0)), (1, .int (nI n))] → Hp D (Af cs ad sz) (Af cs ad sz) s.heap H locs cs ad en_1430 → W p l e (headSpec (Cond.code yX12_goThrough cX12_goThrough 5 none :: TB) (rmN 3)).room s m ([.ref (ad 0), .int (nI n)] : List Value).toArray below meth c H locs 0 0 (MQ below (va_Qv (S := Nat → va_E) (fun en1 => RX cy cs ad en1 ∧ (∀ c, (c ≠ 0 ∧ c ≠ 6 ∧ c ≠ 7 ∧ c ≠ 10 ∧ c ≠ 11) → en1 c = en c) ∧ gtS en1 = List.foldl (gt1 (rdI (en 0) 2).toNatClampNeg (rdI (en 0) 3).toNatClampNeg n (rdF (en 1))) (0, (-9223372036854775808), (-9223372036854775808), 0, rdF (en 10), rdF (en 11)) (wds (rdI (en 0) 4).toNatClampNeg (alR (rdF (en 2))) n none) ∧ KP en en1) (PostM D cs ad) (Af cs ad sz)) ([.ref (ad 0), .int (nI n)] : List Value).toArray s 0 0 (Af cs ad sz)) (F0 m 68 ls []) := by
            intro fu
            induction fu with
            | zero => intro j1430  en_1430 ls H locs h0 h1 h2; exact absurd h2 (by omega)
            | succ fu ih_1430 =>
              intro j1430  en_1430 ls H locs hj0_1430 hj_1430 hfu_1430 hI_1430 hf_1430 i0_1430 i1_1430 i2_1430 hl hh
              refine lv_iload hx hb dX12_goThrough_68 (lv_at hl 0 rfl) ?_
              refine lv_iload_n hx hb dX12_goThrough_70 rfl (lv_at hl 3 rfl) ?_
              refine lv_icmp_ge (tgt := 94) hx hb dX12_goThrough_71 (by decide) (fun c_1431 => ?_) (fun c_1431 => ?_)
              · have n_1431 : n ≤ j1430 := n_le (a := n) (b := j1430) c_1431 (by omega) (by omega)
                exact join_1397  en_1430 ls _ _ hI_1430 hf_1430 i1_1430 i2_1430 (by have e9 : j1430 = n := (by omega); rw [e9] at i0_1430; exact (i0_1430.trans (gtA_pos (Or.inl (((show (gtS en_1393).1 = many_1394 from by show rdJ (en_1393 0) 15 = _; rw [es1394]; rfl)).trans ((lg_cmp_eq _ _).mp c_1428)))).symm)) (lv_sub hl [1, 2, 3] rfl) hh
              · have n_1431 : j1430 < n := n_nle (a := n) (b := j1430) c_1431 (by omega) (by omega)
                refine lv_aload_n hx hb dX12_goThrough_74 rfl (lv_at hl 2 rfl) ?_
                obtain ⟨fa_1432, hi_1432, wd_1432, mo_1432, tb_1432, dp_1432, many_1432, grt_1432, lst_1432, nou_1432, rm_1432, rb_1432, pr_1432, wo_1432, es1432, p0_1432, p1_1432, p2_1432, p3_1432, p4_1432⟩ := getr_M hI_1430
                have hq2_1433 : wd_1432 = wd := n_eq ((show nI wd_1432 = rdI (en_1430 0) 2 from by rw [es1432]; rfl).trans (i1_1430.2.1.trans (show rdI (en 0) 2 = nI wd from by rw [es1384]; rfl))) (by omega) (by omega)
                have hq3_1433 : mo_1432 = mo := n_eq ((show nI mo_1432 = rdI (en_1430 0) 3 from by rw [es1432]; rfl).trans (i1_1430.2.2.1.trans (show rdI (en 0) 3 = nI mo from by rw [es1384]; rfl))) (by omega) (by omega)
                have hq4_1433 : tb_1432 = tb := n_eq ((show nI tb_1432 = rdI (en_1430 0) 4 from by rw [es1432]; rfl).trans (i1_1430.2.2.2.1.trans (show rdI (en 0) 4 = nI tb from by rw [es1384]; rfl))) (by omega) (by omega)
                have hq30_1433 : wo_1432 = wo := n_eq ((show nI wo_1432 = rdI (en_1430 0) 30 from by rw [es1432]; rfl).trans (i1_1430.2.2.2.2.2.trans (show rdI (en 0) 30 = nI wo from by rw [es1384]; rfl))) (by omega) (by omega)
                rw [hq2_1433, hq3_1433, hq4_1433, hq30_1433] at es1432
                refine hp_get hx hb hts ix12 hown hK hh (q := 0) rfl (hI.1 _ (by decide)) es1432 rfl 19 (by decide) (hts _ tw_898) (fun _ h9 => h9) rfl dX12_goThrough_75 ?_
                refine lv_iload hx hb dX12_goThrough_78 (lv_at hl 0 rfl) ?_
                refine lv_aload_n hx hb dX12_goThrough_80 rfl (lv_at hl 2 rfl) ?_
                refine hp_get hx hb hts ix12 hown hK hh (q := 0) rfl (hI.1 _ (by decide)) es1432 rfl 11 (by decide) (hts _ tw_890) (fun _ h9 => h9) rfl dX12_goThrough_81 ?_
                refine lv_iload hx hb dX12_goThrough_84 (lv_at hl 0 rfl) ?_
                obtain ⟨f_1434, es1434⟩ := getr_nw hI_1430
                refine hp_iald hx hb hK hh (q := 7) rfl (hI.1 _ (by decide)) es1434 (vp_in_nI (n := j1430) (by omega) (by decide)) dX12_goThrough_86 ?_
                rw [nI_clamp (n := j1430) (by omega)]
                obtain ⟨v_1435, hv_1435, hve_1435⟩ := hall_1393 j1430 (by omega)
                rw [show f_1434 j1430 = nI v_1435 from (show f_1434 j1430 = rdF (en_1393 7) j1430 from by rw [← i2_1430.2.1, es1434]; rfl).trans hve_1435]
                obtain ⟨f_1436, es1436⟩ := getr_gt hI_1430
                refine hp_iast hx hb hK hh (q := 10) rfl (hI.1 _ (by decide)) es1436 (vp_in_nI (n := j1430) (by omega) (by decide)) dX12_goThrough_87 (fun H locs en_1437 hen_1437 hh => ?_)
                rw [nI_clamp (n := j1430) (by omega)] at hen_1437
                have es1432_1437 : en_1437 0 = .inr (11, [.int fa_1432, .int hi_1432, .int (nI wd), .int (nI mo), .int (nI tb), .ref (ad 1), .ref (ad 2), .ref (ad 3), .ref (ad 4), .ref (ad 5), .ref (ad 6), .ref (ad 7), .ref (ad 8), .ref (ad 9), .int dp_1432, .long many_1432, .long grt_1432, .long lst_1432, .long nou_1432, .ref (ad 10), .ref (ad 11), .ref (ad 12), .int rm_1432, .long rb_1432, .ref (ad 13), .int pr_1432, .ref (ad 14), .ref (ad 15), .ref (ad 16), .ref (ad 17), .int (nI wo), .ref (ad 18), .ref (ad 19)]) := by rw [hen_1437, va_up_ne _ _ (by decide)]; exact es1432
                have es1434_1437 : en_1437 7 = .inl (cy 0, 13, .inl f_1434) := by rw [hen_1437, va_up_ne _ _ (by decide)]; exact es1434
                have es1436_1437 : en_1437 10 = .inl (cy 0, 12, .inl (upd f_1436 j1430 (nI v_1435))) := by rw [hen_1437]; exact va_up_self _ _ _
                have hI_1437 : RX cy cs ad en_1437 := by rw [hen_1437]; exact upr_gt hI_1430 ⟨(upd f_1436 j1430 (nI v_1435)), rfl⟩
                have hf_1437 : ∀ c, (c ≠ 0 ∧ c ≠ 6 ∧ c ≠ 7 ∧ c ≠ 10 ∧ c ≠ 11) → en_1437 c = en c := fun c hc => Eq.trans (show en_1437 c = en_1430 c from by rw [hen_1437, va_up_ne _ _ (by omega)]) (hf_1430 c hc)
                have hkp_1437 : KP en en_1437 := KP_same i1_1430 (show en_1437 0 = en_1430 0 from by rw [hen_1437, va_up_ne _ _ (by decide)])
                have hsd_1437 : SD en_1393 en_1437 := SD_same i2_1430 (show en_1437 0 = en_1430 0 from by rw [hen_1437, va_up_ne _ _ (by decide)]) (show en_1437 7 = en_1430 7 from by rw [hen_1437, va_up_ne _ _ (by decide)]) (show en_1437 6 = en_1430 6 from by rw [hen_1437, va_up_ne _ _ (by decide)])
                refine lv_iinc (v := (nI (j1430 + 1))) (lv' := [(4, .int (nI (j1430 + 1))), (2, .long r_1396), (0, .ref (ad 0)), (1, .int (nI n))]) hx hb dX12_goThrough_88 hl (k := 0) rfl (nI_1 _) (by decide) rfl (fun ls hl => ?_)
                refine lv_goto (tgt := 68) hx hb dX12_goThrough_91 (by decide) ?_
                exact ih_1430 ((j1430 + 1))  en_1437 ls H locs (by omega) (by omega) (by omega) hI_1437 hf_1437 (gtS_10 i0_1430 (by rw [hen_1437, va_up_ne _ _ (by decide)]) (by rw [hen_1437, va_up_ne _ _ (by decide)]) (by rw [es1436_1437]; exact cpN_s ((show f_1436 = rdF (en_1430 10) from by rw [es1436]; rfl).trans (congrArg (fun s : GT9 => s.2.2.2.2.1) i0_1430)) (lF_at (by omega) hve_1435 hv_1435))) (hkp_1437) (hsd_1437) (lv_sub hl [0, 1, 2, 3] rfl) hh
          exact loop_1430 (n + 1) 0  en_1429 ls _ _ (Nat.le_refl _) (by omega) (by omega) hI_1429 hf_1429 (by rw [cpN_0]; exact gtS_of (by rw [es1394_1429]; show _ = rdJ (en_1393 0) 15; rw [es1394]; rfl) (by rw [es1394_1429]; rfl) (by rw [es1394_1429]; show _ = rdJ (en_1393 0) 17; rw [es1394]; rfl) (by rw [es1394_1429]; show _ = rdJ (en_1393 0) 18; rw [es1394]; rfl) (by rw [hen_1429, va_up_ne _ _ (by decide)]; rfl) (by rw [hen_1429, va_up_ne _ _ (by decide)]; rfl)) (hkp_1429) (hsd_1429) (lv_sub hl [0, 1, 2, 3] rfl) hh
        · refine lv_lload_n hx hb dX12_goThrough_51 rfl (lv_at hl 0 rfl) ?_
          refine lv_aload_n hx hb dX12_goThrough_52 rfl (lv_at hl 1 rfl) ?_
          refine hp_get hx hb hts ix12 hown hK hh (q := 0) rfl (hI.1 _ (by decide)) es1394 rfl 16 (by decide) (hts _ tw_895) (fun _ h9 => h9) rfl dX12_goThrough_53 ?_
          refine W.lcmp hx hb dX12_goThrough_56 ?_
          refine lv_if_le (tgt := 94) hx hb dX12_goThrough_57 (by decide) (fun c_1438 => ?_) (fun c_1438 => ?_)
          · exact join_1397  en_1393 ls _ _ hI_1393 hf_1393 hkp_1393 (SD_rf en_1393) ((gtA_neg (show ¬ ((gtS en_1393).1 = 0 ∨ (gtS en_1393).2.1 < r_1396) from fun q => q.elim (fun q => c_1428 ((lg_cmp_eq _ _).mpr (((show (gtS en_1393).1 = many_1394 from by show rdJ (en_1393 0) 15 = _; rw [es1394]; rfl)).symm.trans q))) (fun q => absurd (Int64.lt_iff_toInt_lt.mp q) (Int.not_lt.mpr (by rw [show (gtS en_1393).2.1 = grt_1394 from by show rdJ (en_1393 0) 16 = _; rw [es1394]; rfl]; exact g_le c_1438))))).symm) (lv_sub hl [0, 1, 2] rfl) hh
          · refine lv_aload_n hx hb dX12_goThrough_60 rfl (lv_at hl 1 rfl) ?_
            refine lv_lload_n hx hb dX12_goThrough_61 rfl (lv_at hl 0 rfl) ?_
            refine hp_put hx hb hts ix12 tyX12 tyX12_ok nmX12 hown hK hh (q := 0) rfl (hI.1 _ (by decide)) es1394 rfl 16 (by decide) (hts _ tw_895) (fun _ h9 => h9) rfl (ty := .long) (by decide +kernel) rfl rfl (Nat.le_of_ble_eq_true rfl) dX12_goThrough_62 (fun H locs en_1439 hen_1439 hh => ?_)
            have es1394_1439 : en_1439 0 = .inr (11, [.int fa_1394, .int hi_1394, .int (nI wd), .int (nI mo), .int (nI tb), .ref (ad 1), .ref (ad 2), .ref (ad 3), .ref (ad 4), .ref (ad 5), .ref (ad 6), .ref (ad 7), .ref (ad 8), .ref (ad 9), .int dp_1394, .long many_1394, .long r_1396, .long lst_1394, .long nou_1394, .ref (ad 10), .ref (ad 11), .ref (ad 12), .int rm_1394, .long rb_1394, .ref (ad 13), .int pr_1394, .ref (ad 14), .ref (ad 15), .ref (ad 16), .ref (ad 17), .int (nI wo), .ref (ad 18), .ref (ad 19)]) := by rw [hen_1439]; exact va_up_self _ _ _
            have hI_1439 : RX cy cs ad en_1439 := by rw [hen_1439]; exact upr_M hI_1393 ⟨fa_1394, hi_1394, wd, mo, tb, dp_1394, many_1394, r_1396, lst_1394, nou_1394, rm_1394, rb_1394, pr_1394, wo, rfl, hwd2, hwd3, hmo, htb, hwo⟩
            have hf_1439 : ∀ c, (c ≠ 0 ∧ c ≠ 6 ∧ c ≠ 7 ∧ c ≠ 10 ∧ c ≠ 11) → en_1439 c = en c := fun c hc => Eq.trans (show en_1439 c = en_1393 c from by rw [hen_1439, va_up_ne _ _ (by omega)]) (hf_1393 c hc)
            have hkp_1439 : KP en en_1439 := KP_fv hkp_1393 es1394 es1394_1439 hi_1394 (nI wd) (nI mo) (nI tb) pr_1394 (nI wo) rfl rfl rfl rfl rfl rfl rfl rfl rfl rfl rfl rfl
            have hsd_1439 : SD en_1393 en_1439 := SD_fv (SD_rf en_1393) es1394 es1394_1439 (show en_1439 7 = en_1393 7 from by rw [hen_1439, va_up_ne _ _ (by decide)]) (show en_1439 6 = en_1393 6 from by rw [hen_1439, va_up_ne _ _ (by decide)]) dp_1394 rfl rfl
            refine lv_iconst (v := 0) hx hb dX12_goThrough_65 (by decide) ?_
            refine lv_istore (lv' := [(4, .int 0), (2, .long r_1396), (0, .ref (ad 0)), (1, .int (nI n))]) hx hb dX12_goThrough_66 hl (by decide) rfl (fun ls hl => ?_)
            have loop_1440 : ∀ (fu j1440 : Nat)  (en_1440 : Nat → va_E) (ls : Array Slot) (H : Heap) (locs : List Loc), 0 ≤ j1440 → j1440 ≤ n → n < j1440 + fu → RX cy cs ad en_1440 → (∀ c, (c ≠ 0 ∧ c ≠ 6 ∧ c ≠ 7 ∧ c ≠ 10 ∧ c ≠ 11) → en_1440 c = en c) → (gtS en_1440 = ((gtS en_1393).1, r_1396, (gtS en_1393).2.2.1, (gtS en_1393).2.2.2.1, cpN j1440 (lF (pre (nwF en_1393) n)) (gtS en_1393).2.2.2.2.1, (gtS en_1393).2.2.2.2.2)) → (KP en en_1440) → (SD en_1393 en_1440) → lv_has ls 5 [(4, .int (nI j1440)), (2, .long r_1396), (0, .ref (ad 0)), (1, .int (nI n))] → Hp D (Af cs ad sz) (Af cs ad sz) s.heap H locs cs ad en_1440 → W p l e (headSpec (Cond.code yX12_goThrough cX12_goThrough 5 none :: TB) (rmN 3)).room s m ([.ref (ad 0), .int (nI n)] : List Value).toArray below meth c H locs 0 0 (MQ below (va_Qv (S := Nat → va_E) (fun en1 => RX cy cs ad en1 ∧ (∀ c, (c ≠ 0 ∧ c ≠ 6 ∧ c ≠ 7 ∧ c ≠ 10 ∧ c ≠ 11) → en1 c = en c) ∧ gtS en1 = List.foldl (gt1 (rdI (en 0) 2).toNatClampNeg (rdI (en 0) 3).toNatClampNeg n (rdF (en 1))) (0, (-9223372036854775808), (-9223372036854775808), 0, rdF (en 10), rdF (en 11)) (wds (rdI (en 0) 4).toNatClampNeg (alR (rdF (en 2))) n none) ∧ KP en en1) (PostM D cs ad) (Af cs ad sz)) ([.ref (ad 0), .int (nI n)] : List Value).toArray s 0 0 (Af cs ad sz)) (F0 m 68 ls []) := by
              intro fu
              induction fu with
              | zero => intro j1440  en_1440 ls H locs h0 h1 h2; exact absurd h2 (by omega)
              | succ fu ih_1440 =>
                intro j1440  en_1440 ls H locs hj0_1440 hj_1440 hfu_1440 hI_1440 hf_1440 i0_1440 i1_1440 i2_1440 hl hh
                refine lv_iload hx hb dX12_goThrough_68 (lv_at hl 0 rfl) ?_
                refine lv_iload_n hx hb dX12_goThrough_70 rfl (lv_at hl 3 rfl) ?_
                refine lv_icmp_ge (tgt := 94) hx hb dX12_goThrough_71 (by decide) (fun c_1441 => ?_) (fun c_1441 => ?_)
                · have n_1441 : n ≤ j1440 := n_le (a := n) (b := j1440) c_1441 (by omega) (by omega)
                  exact join_1397  en_1440 ls _ _ hI_1440 hf_1440 i1_1440 i2_1440 (by have e9 : j1440 = n := (by omega); rw [e9] at i0_1440; exact (i0_1440.trans (gtA_pos (Or.inr (by rw [show (gtS en_1393).2.1 = grt_1394 from by show rdJ (en_1393 0) 16 = _; rw [es1394]; rfl]; exact Int64.lt_iff_toInt_lt.mpr (g_nle c_1438)))).symm)) (lv_sub hl [1, 2, 3] rfl) hh
                · have n_1441 : j1440 < n := n_nle (a := n) (b := j1440) c_1441 (by omega) (by omega)
                  refine lv_aload_n hx hb dX12_goThrough_74 rfl (lv_at hl 2 rfl) ?_
                  obtain ⟨fa_1442, hi_1442, wd_1442, mo_1442, tb_1442, dp_1442, many_1442, grt_1442, lst_1442, nou_1442, rm_1442, rb_1442, pr_1442, wo_1442, es1442, p0_1442, p1_1442, p2_1442, p3_1442, p4_1442⟩ := getr_M hI_1440
                  have hq2_1443 : wd_1442 = wd := n_eq ((show nI wd_1442 = rdI (en_1440 0) 2 from by rw [es1442]; rfl).trans (i1_1440.2.1.trans (show rdI (en 0) 2 = nI wd from by rw [es1384]; rfl))) (by omega) (by omega)
                  have hq3_1443 : mo_1442 = mo := n_eq ((show nI mo_1442 = rdI (en_1440 0) 3 from by rw [es1442]; rfl).trans (i1_1440.2.2.1.trans (show rdI (en 0) 3 = nI mo from by rw [es1384]; rfl))) (by omega) (by omega)
                  have hq4_1443 : tb_1442 = tb := n_eq ((show nI tb_1442 = rdI (en_1440 0) 4 from by rw [es1442]; rfl).trans (i1_1440.2.2.2.1.trans (show rdI (en 0) 4 = nI tb from by rw [es1384]; rfl))) (by omega) (by omega)
                  have hq30_1443 : wo_1442 = wo := n_eq ((show nI wo_1442 = rdI (en_1440 0) 30 from by rw [es1442]; rfl).trans (i1_1440.2.2.2.2.2.trans (show rdI (en 0) 30 = nI wo from by rw [es1384]; rfl))) (by omega) (by omega)
                  rw [hq2_1443, hq3_1443, hq4_1443, hq30_1443] at es1442
                  refine hp_get hx hb hts ix12 hown hK hh (q := 0) rfl (hI.1 _ (by decide)) es1442 rfl 19 (by decide) (hts _ tw_898) (fun _ h9 => h9) rfl dX12_goThrough_75 ?_
                  refine lv_iload hx hb dX12_goThrough_78 (lv_at hl 0 rfl) ?_
                  refine lv_aload_n hx hb dX12_goThrough_80 rfl (lv_at hl 2 rfl) ?_
                  refine hp_get hx hb hts ix12 hown hK hh (q := 0) rfl (hI.1 _ (by decide)) es1442 rfl 11 (by decide) (hts _ tw_890) (fun _ h9 => h9) rfl dX12_goThrough_81 ?_
                  refine lv_iload hx hb dX12_goThrough_84 (lv_at hl 0 rfl) ?_
                  obtain ⟨f_1444, es1444⟩ := getr_nw hI_1440
                  refine hp_iald hx hb hK hh (q := 7) rfl (hI.1 _ (by decide)) es1444 (vp_in_nI (n := j1440) (by omega) (by decide)) dX12_goThrough_86 ?_
                  rw [nI_clamp (n := j1440) (by omega)]
                  obtain ⟨v_1445, hv_1445, hve_1445⟩ := hall_1393 j1440 (by omega)
                  rw [show f_1444 j1440 = nI v_1445 from (show f_1444 j1440 = rdF (en_1393 7) j1440 from by rw [← i2_1440.2.1, es1444]; rfl).trans hve_1445]
                  obtain ⟨f_1446, es1446⟩ := getr_gt hI_1440
                  refine hp_iast hx hb hK hh (q := 10) rfl (hI.1 _ (by decide)) es1446 (vp_in_nI (n := j1440) (by omega) (by decide)) dX12_goThrough_87 (fun H locs en_1447 hen_1447 hh => ?_)
                  rw [nI_clamp (n := j1440) (by omega)] at hen_1447
                  have es1442_1447 : en_1447 0 = .inr (11, [.int fa_1442, .int hi_1442, .int (nI wd), .int (nI mo), .int (nI tb), .ref (ad 1), .ref (ad 2), .ref (ad 3), .ref (ad 4), .ref (ad 5), .ref (ad 6), .ref (ad 7), .ref (ad 8), .ref (ad 9), .int dp_1442, .long many_1442, .long grt_1442, .long lst_1442, .long nou_1442, .ref (ad 10), .ref (ad 11), .ref (ad 12), .int rm_1442, .long rb_1442, .ref (ad 13), .int pr_1442, .ref (ad 14), .ref (ad 15), .ref (ad 16), .ref (ad 17), .int (nI wo), .ref (ad 18), .ref (ad 19)]) := by rw [hen_1447, va_up_ne _ _ (by decide)]; exact es1442
                  have es1444_1447 : en_1447 7 = .inl (cy 0, 13, .inl f_1444) := by rw [hen_1447, va_up_ne _ _ (by decide)]; exact es1444
                  have es1446_1447 : en_1447 10 = .inl (cy 0, 12, .inl (upd f_1446 j1440 (nI v_1445))) := by rw [hen_1447]; exact va_up_self _ _ _
                  have hI_1447 : RX cy cs ad en_1447 := by rw [hen_1447]; exact upr_gt hI_1440 ⟨(upd f_1446 j1440 (nI v_1445)), rfl⟩
                  have hf_1447 : ∀ c, (c ≠ 0 ∧ c ≠ 6 ∧ c ≠ 7 ∧ c ≠ 10 ∧ c ≠ 11) → en_1447 c = en c := fun c hc => Eq.trans (show en_1447 c = en_1440 c from by rw [hen_1447, va_up_ne _ _ (by omega)]) (hf_1440 c hc)
                  have hkp_1447 : KP en en_1447 := KP_same i1_1440 (show en_1447 0 = en_1440 0 from by rw [hen_1447, va_up_ne _ _ (by decide)])
                  have hsd_1447 : SD en_1393 en_1447 := SD_same i2_1440 (show en_1447 0 = en_1440 0 from by rw [hen_1447, va_up_ne _ _ (by decide)]) (show en_1447 7 = en_1440 7 from by rw [hen_1447, va_up_ne _ _ (by decide)]) (show en_1447 6 = en_1440 6 from by rw [hen_1447, va_up_ne _ _ (by decide)])
                  refine lv_iinc (v := (nI (j1440 + 1))) (lv' := [(4, .int (nI (j1440 + 1))), (2, .long r_1396), (0, .ref (ad 0)), (1, .int (nI n))]) hx hb dX12_goThrough_88 hl (k := 0) rfl (nI_1 _) (by decide) rfl (fun ls hl => ?_)
                  refine lv_goto (tgt := 68) hx hb dX12_goThrough_91 (by decide) ?_
                  exact ih_1440 ((j1440 + 1))  en_1447 ls H locs (by omega) (by omega) (by omega) hI_1447 hf_1447 (gtS_10 i0_1440 (by rw [hen_1447, va_up_ne _ _ (by decide)]) (by rw [hen_1447, va_up_ne _ _ (by decide)]) (by rw [es1446_1447]; exact cpN_s ((show f_1446 = rdF (en_1440 10) from by rw [es1446]; rfl).trans (congrArg (fun s : GT9 => s.2.2.2.2.1) i0_1440)) (lF_at (by omega) hve_1445 hv_1445))) (hkp_1447) (hsd_1447) (lv_sub hl [0, 1, 2, 3] rfl) hh
            exact loop_1440 (n + 1) 0  en_1439 ls _ _ (Nat.le_refl _) (by omega) (by omega) hI_1439 hf_1439 (by rw [cpN_0]; exact gtS_of (by rw [es1394_1439]; show _ = rdJ (en_1393 0) 15; rw [es1394]; rfl) (by rw [es1394_1439]; rfl) (by rw [es1394_1439]; show _ = rdJ (en_1393 0) 17; rw [es1394]; rfl) (by rw [es1394_1439]; show _ = rdJ (en_1393 0) 18; rw [es1394]; rfl) (by rw [hen_1439, va_up_ne _ _ (by decide)]; rfl) (by rw [hen_1439, va_up_ne _ _ (by decide)]; rfl)) (hkp_1439) (hsd_1439) (lv_sub hl [0, 1, 2, 3] rfl) hh
  exact loop_1390 (134217728 + 1) 134217728 0 0 en_1389 ls _ _ (by omega) hI_1389 hf_1389 (hND_1389) (by omega) (LVS_0 hbl_1389 (KPg.kp hx_1389).2.1 (KPg.kp hx_1389).2.2.1) (by rw [gtS_next hx_1389 (hu_1389 10 (by omega)) (hu_1389 11 (by omega)), gtS_of (en := en_1388) (a := 0) (b := (-9223372036854775808)) (c := (-9223372036854775808)) (d := 0) (f := rdF (en 10)) (g := rdF (en 11)) (by rw [es1384_1388]; rfl) (by rw [es1384_1388]; rfl) (by rw [es1384_1388]; rfl) (by rw [es1384_1388]; rfl) (by rw [hen_1388, va_up_ne _ _ (by decide), hen_1387, va_up_ne _ _ (by decide), hen_1386, va_up_ne _ _ (by decide), hen_1385, va_up_ne _ _ (by decide)]) (by rw [hen_1388, va_up_ne _ _ (by decide), hen_1387, va_up_ne _ _ (by decide), hen_1386, va_up_ne _ _ (by decide), hen_1385, va_up_ne _ _ (by decide)])]; unfold RM9; rw [rem9_all (by omega), show rdI (en_1389 0) 4 = rdI (en 0) 4 from hkp_1389.2.2.2.1, show rdF (en_1389 2) = rdF (en 2) from by rw [hf_1389 2 (by omega)]]) (hkp_1389) (lv_sub hl [0, 1] rfl) hh
theorem kw_X12_goThrough {R : Room} {s : State} {args : Array Value} {own : String} {idx : Nat} (hts : ∀ w ∈ TB, w.before args s = true) (hl : Cond.methodLink own idx yX12_goThrough ∈ TB) (hR : 3 + 1 ≤ R.frames ∧ 8 + (5 + 11) + 40 * 3 ≤ R.locals) : CallW R s args own RX12 idx yX12_goThrough cX12_goThrough 5 none (Cond.code yX12_goThrough cX12_goThrough 5 none :: TB) (rmN 3) 0 0 1 := cwV 1 hts (TB_V hl tw_1036 ts_37 tw_9 tw_1037) rfl rfl rfl (by decide +kernel) hR
set_option maxHeartbeats 4000000 in
set_option maxRecDepth 100000 in
/-- X12_length -/
theorem c_X12_length (l : Launch) (D : va_G) (cy : Nat → ClassId) (sz : Nat) (cs : List Nat) (ad : Nat → Nat) (en : Nat → va_E) (hI : RX cy cs ad en) (n9 w9 : Int32)   : Met l yX12_length (Cond.code yX12_length cX12_length 3 (some .long) :: TB) (rmN 4) (va_Pc [.ref (ad 0), .int n9, .int w9] (Pre D cy cs ad en sz)) (va_Ql (S := Nat → va_E) (fun r en1 => RX cy cs ad en1 ∧ (∀ c, (c ≠ 0 ∧ c ≠ 6 ∧ c ≠ 7 ∧ c ≠ 8 ∧ c ≠ 9 ∧ c ≠ 10 ∧ c ≠ 11) → en1 c = en c) ∧ RLN n9 w9 r en ∧ KP en en1) (PostM D cs ad) (Af cs ad sz)) 0 0 (Af cs ad sz) := by
  refine Met.ofW (cc := cX12_length) (maxL := 3) (ret := (some .long)) (by decide) rfl ?_
  intro p e s m args below meth c s₁ B hml hv
  obtain ⟨rfl, hsz, hP, hK, hD0⟩ := hv
  have hx := B.exec
  have hb := B.bytes
  have hr := B.returns
  have hts : ∀ w ∈ TB, w.before _ s = true := fun w h => atoms_spec (ws := _ :: TB) B.pre w (List.mem_cons_of_mem _ h)
  have hown : s.vm.findClass RX12 = some m.cls := findClass_of_methodNamed B.named
  have hlocks := B.notSynchronized
  have hh : Hp D (Af cs ad sz) (Af cs ad sz) s.heap s.heap [] cs ad en := ⟨hP, Af_self hD0, va_S.rf⟩
  have hA : ∀ q : Nat, s.heap.size ≤ q → Af cs ad sz q := fun q h => Or.inr (by rw [hsz] at h; exact h)
  have hl := lv_entry ([.ref (ad 0), .int n9, .int w9]) (n := 3) (Nat.le_of_ble_eq_true rfl)
  rw [lg_entry_eq]
  generalize (lg_sl ([.ref (ad 0), .int n9, .int w9]) ++ List.replicate (3 - (lg_sl ([.ref (ad 0), .int n9, .int w9])).length) Slot.unset).toArray = ls at hl ⊢
  have hl : lv_has ls 3 [(0, .ref (ad 0)), (1, .int n9), (2, .int w9)] := hl
  have hf0 : ∀ c, (c ≠ 0 ∧ c ≠ 6 ∧ c ≠ 7 ∧ c ≠ 8 ∧ c ≠ 9 ∧ c ≠ 10 ∧ c ≠ 11) → en c = en c := fun _ _ => rfl
  obtain ⟨fa, hi, wd, mo, tb, dp, many, grt, lst, nou, rm, rb, pr, wo, es1448, hwd2, hwd3, hmo, htb, hwo⟩ := getr_M hI
  refine lv_iload_n hx hb dX12_length_0 rfl (lv_at hl 1 rfl) ?_
  refine lv_i2l hx hb dX12_length_1 rfl ?_
  refine lv_lconst (v := 1) hx hb dX12_length_2 (by decide) ?_
  refine lv_ldc2 hx hb hown (hts _ tw_1024) dX12_length_3 ?_
  refine hp_callRi (va_runS (As := [.long n9.toInt64, .long 1, .long 8]) (rest := []) ⟨hx, hb, hml, hown, hts⟩ (c_X12_within l D cy _ cs ad en n9.toInt64 1 8) (kw_X12_within hts tw_985 ⟨by decide, by decide⟩) (preS_of hh hK) rfl rfl hl.1 rfl (lv_room (Nat.le_of_ble_eq_true rfl)) dX12_length_6 ⟨Nat.le_of_ble_eq_true rfl, Nat.le_of_ble_eq_true rfl⟩) hh hA (fun r_1449 H locs hw_1449 hh => ?_)
  rcases Decidable.em (wi n9 1 8) with hp_1449 | hp_1449
  · obtain rfl : r_1449 = 1 := Eq.trans hw_1449 (if_pos ((wj_32 (by decide) (by decide)).mpr hp_1449))
    obtain ⟨N_1449, rfl, hA_1449, hB_1449⟩ := wi_natB hp_1449 1 8 (by decide) (by decide)
    refine lv_if_eq (tgt := 32) hx hb dX12_length_9 (by decide) (fun c_0 => absurd c_0 (by decide)) (fun _ => ?_)
    refine lv_iload_n hx hb dX12_length_12 rfl (lv_at hl 2 rfl) ?_
    refine lv_i2l hx hb dX12_length_13 rfl ?_
    refine lv_lconst (v := 0) hx hb dX12_length_14 (by decide) ?_
    refine lv_ldc2 hx hb hown (hts _ tw_984) dX12_length_15 ?_
    refine hp_callRi (va_runS (As := [.long w9.toInt64, .long 0, .long 3]) (rest := []) ⟨hx, hb, hml, hown, hts⟩ (c_X12_within l D cy _ cs ad en w9.toInt64 0 3) (kw_X12_within hts tw_985 ⟨by decide, by decide⟩) (preS_of hh hK) rfl rfl hl.1 rfl (lv_room (Nat.le_of_ble_eq_true rfl)) dX12_length_18 ⟨Nat.le_of_ble_eq_true rfl, Nat.le_of_ble_eq_true rfl⟩) hh hA (fun r_1450 H locs hw_1450 hh => ?_)
    rcases Decidable.em (wi w9 0 3) with hp_1450 | hp_1450
    · obtain rfl : r_1450 = 1 := Eq.trans hw_1450 (if_pos ((wj_32 (by decide) (by decide)).mpr hp_1450))
      obtain ⟨N_1450, rfl, hA_1450, hB_1450⟩ := wi_natB hp_1450 0 3 (by decide) (by decide)
      refine lv_if_eq (tgt := 32) hx hb dX12_length_21 (by decide) (fun c_0 => absurd c_0 (by decide)) (fun _ => ?_)
      refine lv_aload_n hx hb dX12_length_24 rfl (lv_at hl 0 rfl) ?_
      refine lv_iload_n hx hb dX12_length_25 rfl (lv_at hl 1 rfl) ?_
      refine hp_callMi (va_runV (As := [.int (nI N_1449)]) (rest := []) ⟨hx, hb, hml, hown, hts⟩ (c_X12_isSpent l D cy _ cs ad en hI N_1449 (by omega) (by omega)) (kw_X12_isSpent hts tw_1025 ⟨by decide, by decide⟩) (preV_of hh hK (hI.1 _ (by decide)) es1448 rfl) rfl rfl hl.1 rfl (lv_room (Nat.le_of_ble_eq_true rfl)) dX12_length_26 ⟨Nat.le_of_ble_eq_true rfl, Nat.le_of_ble_eq_true rfl⟩) hh hA (fun r_1451 H locs en_1451 hw_1451 hh => ?_)
      obtain ⟨hI_1451, hu_1451, hx_1451⟩ := hw_1451
      have es1448_1451 : en_1451 0 = .inr (11, [.int fa, .int hi, .int (nI wd), .int (nI mo), .int (nI tb), .ref (ad 1), .ref (ad 2), .ref (ad 3), .ref (ad 4), .ref (ad 5), .ref (ad 6), .ref (ad 7), .ref (ad 8), .ref (ad 9), .int dp, .long many, .long grt, .long lst, .long nou, .ref (ad 10), .ref (ad 11), .ref (ad 12), .int rm, .long rb, .ref (ad 13), .int pr, .ref (ad 14), .ref (ad 15), .ref (ad 16), .ref (ad 17), .int (nI wo), .ref (ad 18), .ref (ad 19)]) := (hu_1451 0 (by omega)).trans es1448
      have hf_1451 : ∀ c, (c ≠ 0 ∧ c ≠ 6 ∧ c ≠ 7 ∧ c ≠ 8 ∧ c ≠ 9 ∧ c ≠ 10 ∧ c ≠ 11) → en_1451 c = en c := fun c hc => (hu_1451 c (by omega)).trans (hf0 c hc)
      have hkp_1451 : KP en en_1451 := KP_same (KP_rf en) (hu_1451 0 (by omega))
      have hw_1451 := hx_1451
      rcases hw_1451 with ⟨hb_1451, hy_1451⟩ | ⟨hb_1451, hy_1451⟩
      · obtain rfl : r_1451 = 1 := hb_1451
        refine lv_if_eq (tgt := 36) hx hb dX12_length_29 (by decide) (fun c_0 => absurd c_0 (by decide)) (fun _ => ?_)
        refine lv_ldc2 hx hb hown (hts _ tw_1015) dX12_length_32 ?_
        exact hp_lretM hx hb hr hlocks hh (⟨hI_1451, hf_1451, Or.inr ⟨N_1449, N_1450, rfl, rfl, by omega, by omega, by omega, Or.inl ⟨hy_1451, rfl⟩⟩, hkp_1451⟩) dX12_length_35
      · obtain rfl : r_1451 = 0 := hb_1451
        refine lv_if_eq (tgt := 36) hx hb dX12_length_29 (by decide) (fun _ => ?_) (fun c_0 => absurd c_0 (by decide))
        refine lv_aload_n hx hb dX12_length_36 rfl (lv_at hl 0 rfl) ?_
        refine lv_iload_n hx hb dX12_length_37 rfl (lv_at hl 1 rfl) ?_
        refine hp_callMv (va_runV (As := [.int (nI N_1449)]) (rest := []) ⟨hx, hb, hml, hown, hts⟩ (c_X12_goThrough l D cy _ cs ad en_1451 hI_1451 N_1449 (by omega) (by omega)) (kw_X12_goThrough hts tw_1034 ⟨by decide, by decide⟩) (preV_of hh hK (hI.1 _ (by decide)) es1448_1451 rfl) rfl rfl hl.1 rfl (lv_room (Nat.le_of_ble_eq_true rfl)) dX12_length_38 ⟨Nat.le_of_ble_eq_true rfl, Nat.le_of_ble_eq_true rfl⟩) hh hA (fun H locs en_1452 hw_1452 hh => ?_)
        obtain ⟨hI_1452, hu_1452, hx_1452⟩ := hw_1452
        have hf_1452 : ∀ c, (c ≠ 0 ∧ c ≠ 6 ∧ c ≠ 7 ∧ c ≠ 8 ∧ c ≠ 9 ∧ c ≠ 10 ∧ c ≠ 11) → en_1452 c = en c := fun c hc => (hu_1452 c (by omega)).trans (hf_1451 c hc)
        have hkp_1452 : KP en en_1452 := KP_tr hkp_1451 hx_1452.2
        have hg_1452 : gtS en_1452 = GTF9 en N_1449 := (show gtS en_1452 = GTF9 en_1451 N_1449 from hx_1452.1).trans (GTF9_c (hu_1451 0 (by omega)) (hu_1451 1 (by omega)) (hu_1451 2 (by omega)) (hu_1451 10 (by omega)) (hu_1451 11 (by omega)))
        refine lv_iload_n hx hb dX12_length_41 rfl (lv_at hl 2 rfl) ?_
        refine lv_if_ne (tgt := 52) hx hb dX12_length_42 (by decide) (fun c_1453 => ?_) (fun c_1453 => ?_)
        · have n_1453 : N_1450 ≠ 0 := n_neq (a := N_1450) (b := 0) c_1453 (by omega) (by decide)
          refine lv_iload_n hx hb dX12_length_52 rfl (lv_at hl 2 rfl) ?_
          refine lv_iconst (v := 1) hx hb dX12_length_53 (by decide) ?_
          refine lv_icmp_ne (tgt := 64) hx hb dX12_length_54 (by decide) (fun c_1454 => ?_) (fun c_1454 => ?_)
          · have n_1454 : N_1450 ≠ 1 := n_neq (a := N_1450) (b := 1) c_1454 (by omega) (by decide)
            refine lv_iload_n hx hb dX12_length_64 rfl (lv_at hl 2 rfl) ?_
            refine lv_iconst (v := 2) hx hb dX12_length_65 (by decide) ?_
            refine lv_icmp_ne (tgt := 76) hx hb dX12_length_66 (by decide) (fun c_1455 => ?_) (fun c_1455 => ?_)
            · have n_1455 : N_1450 ≠ 2 := n_neq (a := N_1450) (b := 2) c_1455 (by omega) (by decide)
              refine lv_aload_n hx hb dX12_length_76 rfl (lv_at hl 0 rfl) ?_
              obtain ⟨fa_1456, hi_1456, wd_1456, mo_1456, tb_1456, dp_1456, many_1456, grt_1456, lst_1456, nou_1456, rm_1456, rb_1456, pr_1456, wo_1456, es1456, p0_1456, p1_1456, p2_1456, p3_1456, p4_1456⟩ := getr_M hI_1452
              have hq2_1457 : wd_1456 = wd := n_eq ((show nI wd_1456 = rdI (en_1452 0) 2 from by rw [es1456]; rfl).trans (hkp_1452.2.1.trans (show rdI (en 0) 2 = nI wd from by rw [es1448]; rfl))) (by omega) (by omega)
              have hq3_1457 : mo_1456 = mo := n_eq ((show nI mo_1456 = rdI (en_1452 0) 3 from by rw [es1456]; rfl).trans (hkp_1452.2.2.1.trans (show rdI (en 0) 3 = nI mo from by rw [es1448]; rfl))) (by omega) (by omega)
              have hq4_1457 : tb_1456 = tb := n_eq ((show nI tb_1456 = rdI (en_1452 0) 4 from by rw [es1456]; rfl).trans (hkp_1452.2.2.2.1.trans (show rdI (en 0) 4 = nI tb from by rw [es1448]; rfl))) (by omega) (by omega)
              have hq30_1457 : wo_1456 = wo := n_eq ((show nI wo_1456 = rdI (en_1452 0) 30 from by rw [es1456]; rfl).trans (hkp_1452.2.2.2.2.2.trans (show rdI (en 0) 30 = nI wo from by rw [es1448]; rfl))) (by omega) (by omega)
              rw [hq2_1457, hq3_1457, hq4_1457, hq30_1457] at es1456
              refine hp_get hx hb hts ix12 hown hK hh (q := 0) rfl (hI.1 _ (by decide)) es1456 rfl 18 (by decide) (hts _ tw_897) (fun _ h9 => h9) rfl dX12_length_77 ?_
              exact hp_lretM hx hb hr hlocks hh (⟨hI_1452, hf_1452, Or.inr ⟨N_1449, N_1450, rfl, rfl, by omega, by omega, by omega, Or.inr ⟨hy_1451, by unfold pick4; rw [if_neg (by omega), if_neg (by omega), if_neg (by omega), ← hg_1452]; show _ = rdJ (en_1452 0) 18; rw [es1456]; rfl⟩⟩, hkp_1452⟩) dX12_length_80
            · have n_1455 : N_1450 = 2 := n_eq (a := N_1450) (b := 2) c_1455 (by omega) (by decide)
              refine lv_aload_n hx hb dX12_length_69 rfl (lv_at hl 0 rfl) ?_
              obtain ⟨fa_1458, hi_1458, wd_1458, mo_1458, tb_1458, dp_1458, many_1458, grt_1458, lst_1458, nou_1458, rm_1458, rb_1458, pr_1458, wo_1458, es1458, p0_1458, p1_1458, p2_1458, p3_1458, p4_1458⟩ := getr_M hI_1452
              have hq2_1459 : wd_1458 = wd := n_eq ((show nI wd_1458 = rdI (en_1452 0) 2 from by rw [es1458]; rfl).trans (hkp_1452.2.1.trans (show rdI (en 0) 2 = nI wd from by rw [es1448]; rfl))) (by omega) (by omega)
              have hq3_1459 : mo_1458 = mo := n_eq ((show nI mo_1458 = rdI (en_1452 0) 3 from by rw [es1458]; rfl).trans (hkp_1452.2.2.1.trans (show rdI (en 0) 3 = nI mo from by rw [es1448]; rfl))) (by omega) (by omega)
              have hq4_1459 : tb_1458 = tb := n_eq ((show nI tb_1458 = rdI (en_1452 0) 4 from by rw [es1458]; rfl).trans (hkp_1452.2.2.2.1.trans (show rdI (en 0) 4 = nI tb from by rw [es1448]; rfl))) (by omega) (by omega)
              have hq30_1459 : wo_1458 = wo := n_eq ((show nI wo_1458 = rdI (en_1452 0) 30 from by rw [es1458]; rfl).trans (hkp_1452.2.2.2.2.2.trans (show rdI (en 0) 30 = nI wo from by rw [es1448]; rfl))) (by omega) (by omega)
              rw [hq2_1459, hq3_1459, hq4_1459, hq30_1459] at es1458
              refine hp_get hx hb hts ix12 hown hK hh (q := 0) rfl (hI.1 _ (by decide)) es1458 rfl 17 (by decide) (hts _ tw_896) (fun _ h9 => h9) rfl dX12_length_70 ?_
              refine lv_goto (tgt := 80) hx hb dX12_length_73 (by decide) ?_
              exact hp_lretM hx hb hr hlocks hh (⟨hI_1452, hf_1452, Or.inr ⟨N_1449, N_1450, rfl, rfl, by omega, by omega, by omega, Or.inr ⟨hy_1451, by unfold pick4; rw [if_neg (by omega), if_neg (by omega), if_pos (by omega), ← hg_1452]; show _ = rdJ (en_1452 0) 17; rw [es1458]; rfl⟩⟩, hkp_1452⟩) dX12_length_80
          · have n_1454 : N_1450 = 1 := n_eq (a := N_1450) (b := 1) c_1454 (by omega) (by decide)
            refine lv_aload_n hx hb dX12_length_57 rfl (lv_at hl 0 rfl) ?_
            obtain ⟨fa_1460, hi_1460, wd_1460, mo_1460, tb_1460, dp_1460, many_1460, grt_1460, lst_1460, nou_1460, rm_1460, rb_1460, pr_1460, wo_1460, es1460, p0_1460, p1_1460, p2_1460, p3_1460, p4_1460⟩ := getr_M hI_1452
            have hq2_1461 : wd_1460 = wd := n_eq ((show nI wd_1460 = rdI (en_1452 0) 2 from by rw [es1460]; rfl).trans (hkp_1452.2.1.trans (show rdI (en 0) 2 = nI wd from by rw [es1448]; rfl))) (by omega) (by omega)
            have hq3_1461 : mo_1460 = mo := n_eq ((show nI mo_1460 = rdI (en_1452 0) 3 from by rw [es1460]; rfl).trans (hkp_1452.2.2.1.trans (show rdI (en 0) 3 = nI mo from by rw [es1448]; rfl))) (by omega) (by omega)
            have hq4_1461 : tb_1460 = tb := n_eq ((show nI tb_1460 = rdI (en_1452 0) 4 from by rw [es1460]; rfl).trans (hkp_1452.2.2.2.1.trans (show rdI (en 0) 4 = nI tb from by rw [es1448]; rfl))) (by omega) (by omega)
            have hq30_1461 : wo_1460 = wo := n_eq ((show nI wo_1460 = rdI (en_1452 0) 30 from by rw [es1460]; rfl).trans (hkp_1452.2.2.2.2.2.trans (show rdI (en 0) 30 = nI wo from by rw [es1448]; rfl))) (by omega) (by omega)
            rw [hq2_1461, hq3_1461, hq4_1461, hq30_1461] at es1460
            refine hp_get hx hb hts ix12 hown hK hh (q := 0) rfl (hI.1 _ (by decide)) es1460 rfl 16 (by decide) (hts _ tw_895) (fun _ h9 => h9) rfl dX12_length_58 ?_
            refine lv_goto (tgt := 80) hx hb dX12_length_61 (by decide) ?_
            exact hp_lretM hx hb hr hlocks hh (⟨hI_1452, hf_1452, Or.inr ⟨N_1449, N_1450, rfl, rfl, by omega, by omega, by omega, Or.inr ⟨hy_1451, by unfold pick4; rw [if_neg (by omega), if_pos (by omega), ← hg_1452]; show _ = rdJ (en_1452 0) 16; rw [es1460]; rfl⟩⟩, hkp_1452⟩) dX12_length_80
        · have n_1453 : N_1450 = 0 := n_eq (a := N_1450) (b := 0) c_1453 (by omega) (by decide)
          refine lv_aload_n hx hb dX12_length_45 rfl (lv_at hl 0 rfl) ?_
          obtain ⟨fa_1462, hi_1462, wd_1462, mo_1462, tb_1462, dp_1462, many_1462, grt_1462, lst_1462, nou_1462, rm_1462, rb_1462, pr_1462, wo_1462, es1462, p0_1462, p1_1462, p2_1462, p3_1462, p4_1462⟩ := getr_M hI_1452
          have hq2_1463 : wd_1462 = wd := n_eq ((show nI wd_1462 = rdI (en_1452 0) 2 from by rw [es1462]; rfl).trans (hkp_1452.2.1.trans (show rdI (en 0) 2 = nI wd from by rw [es1448]; rfl))) (by omega) (by omega)
          have hq3_1463 : mo_1462 = mo := n_eq ((show nI mo_1462 = rdI (en_1452 0) 3 from by rw [es1462]; rfl).trans (hkp_1452.2.2.1.trans (show rdI (en 0) 3 = nI mo from by rw [es1448]; rfl))) (by omega) (by omega)
          have hq4_1463 : tb_1462 = tb := n_eq ((show nI tb_1462 = rdI (en_1452 0) 4 from by rw [es1462]; rfl).trans (hkp_1452.2.2.2.1.trans (show rdI (en 0) 4 = nI tb from by rw [es1448]; rfl))) (by omega) (by omega)
          have hq30_1463 : wo_1462 = wo := n_eq ((show nI wo_1462 = rdI (en_1452 0) 30 from by rw [es1462]; rfl).trans (hkp_1452.2.2.2.2.2.trans (show rdI (en 0) 30 = nI wo from by rw [es1448]; rfl))) (by omega) (by omega)
          rw [hq2_1463, hq3_1463, hq4_1463, hq30_1463] at es1462
          refine hp_get hx hb hts ix12 hown hK hh (q := 0) rfl (hI.1 _ (by decide)) es1462 rfl 15 (by decide) (hts _ tw_894) (fun _ h9 => h9) rfl dX12_length_46 ?_
          refine lv_goto (tgt := 80) hx hb dX12_length_49 (by decide) ?_
          exact hp_lretM hx hb hr hlocks hh (⟨hI_1452, hf_1452, Or.inr ⟨N_1449, N_1450, rfl, rfl, by omega, by omega, by omega, Or.inr ⟨hy_1451, by unfold pick4; rw [if_pos (by omega), ← hg_1452]; show _ = rdJ (en_1452 0) 15; rw [es1462]; rfl⟩⟩, hkp_1452⟩) dX12_length_80
    · obtain rfl : r_1450 = 0 := Eq.trans hw_1450 (if_neg (fun q => hp_1450 ((wj_32 (by decide) (by decide)).mp q)))
      refine lv_if_eq (tgt := 32) hx hb dX12_length_21 (by decide) (fun _ => ?_) (fun c_0 => absurd c_0 (by decide))
      refine lv_ldc2 hx hb hown (hts _ tw_1015) dX12_length_32 ?_
      exact hp_lretM hx hb hr hlocks hh (⟨hI, hf0, Or.inl ⟨fun q => hp_1450 q.2, rfl⟩, (KP_rf en)⟩) dX12_length_35
  · obtain rfl : r_1449 = 0 := Eq.trans hw_1449 (if_neg (fun q => hp_1449 ((wj_32 (by decide) (by decide)).mp q)))
    refine lv_if_eq (tgt := 32) hx hb dX12_length_9 (by decide) (fun _ => ?_) (fun c_0 => absurd c_0 (by decide))
    refine lv_ldc2 hx hb hown (hts _ tw_1015) dX12_length_32 ?_
    exact hp_lretM hx hb hr hlocks hh (⟨hI, hf0, Or.inl ⟨fun q => hp_1449 q.1, rfl⟩, (KP_rf en)⟩) dX12_length_35
theorem kw_X12_length {R : Room} {s : State} {args : Array Value} {own : String} {idx : Nat} (hts : ∀ w ∈ TB, w.before args s = true) (hl : Cond.methodLink own idx yX12_length ∈ TB) (hR : 4 + 1 ≤ R.frames ∧ 8 + (3 + 11) + 40 * 4 ≤ R.locals) : CallW R s args own RX12 idx yX12_length cX12_length 3 (some .long) (Cond.code yX12_length cX12_length 3 (some .long) :: TB) (rmN 4) 0 0 2 := cwV 2 hts (TB_V hl tw_1021 tw_1022 tw_9 tw_1023) rfl rfl rfl (by decide +kernel) hR
set_option maxHeartbeats 4000000 in
set_option maxRecDepth 100000 in
/-- X12_extreme -/
theorem c_X12_extreme (l : Launch) (D : va_G) (cy : Nat → ClassId) (sz : Nat) (cs : List Nat) (ad : Nat → Nat) (en : Nat → va_E) (hI : RX cy cs ad en) (n9 z9 i9 : Int32)   : Met l yX12_extreme (Cond.code yX12_extreme cX12_extreme 4 (some .int) :: TB) (rmN 4) (va_Pc [.ref (ad 0), .int n9, .int z9, .int i9] (Pre D cy cs ad en sz)) (va_Qi (S := Nat → va_E) (fun r en1 => RX cy cs ad en1 ∧ (∀ c, (c ≠ 0 ∧ c ≠ 6 ∧ c ≠ 7 ∧ c ≠ 8 ∧ c ≠ 9 ∧ c ≠ 10 ∧ c ≠ 11) → en1 c = en c) ∧ RXT n9 z9 i9 r en ∧ KP en en1) (PostM D cs ad) (Af cs ad sz)) 0 0 (Af cs ad sz) := by
  refine Met.ofW (cc := cX12_extreme) (maxL := 4) (ret := (some .int)) (by decide) rfl ?_
  intro p e s m args below meth c s₁ B hml hv
  obtain ⟨rfl, hsz, hP, hK, hD0⟩ := hv
  have hx := B.exec
  have hb := B.bytes
  have hr := B.returns
  have hts : ∀ w ∈ TB, w.before _ s = true := fun w h => atoms_spec (ws := _ :: TB) B.pre w (List.mem_cons_of_mem _ h)
  have hown : s.vm.findClass RX12 = some m.cls := findClass_of_methodNamed B.named
  have hlocks := B.notSynchronized
  have hh : Hp D (Af cs ad sz) (Af cs ad sz) s.heap s.heap [] cs ad en := ⟨hP, Af_self hD0, va_S.rf⟩
  have hA : ∀ q : Nat, s.heap.size ≤ q → Af cs ad sz q := fun q h => Or.inr (by rw [hsz] at h; exact h)
  have hl := lv_entry ([.ref (ad 0), .int n9, .int z9, .int i9]) (n := 4) (Nat.le_of_ble_eq_true rfl)
  rw [lg_entry_eq]
  generalize (lg_sl ([.ref (ad 0), .int n9, .int z9, .int i9]) ++ List.replicate (4 - (lg_sl ([.ref (ad 0), .int n9, .int z9, .int i9])).length) Slot.unset).toArray = ls at hl ⊢
  have hl : lv_has ls 4 [(0, .ref (ad 0)), (1, .int n9), (2, .int z9), (3, .int i9)] := hl
  have hf0 : ∀ c, (c ≠ 0 ∧ c ≠ 6 ∧ c ≠ 7 ∧ c ≠ 8 ∧ c ≠ 9 ∧ c ≠ 10 ∧ c ≠ 11) → en c = en c := fun _ _ => rfl
  obtain ⟨fa, hi, wd, mo, tb, dp, many, grt, lst, nou, rm, rb, pr, wo, es1464, hwd2, hwd3, hmo, htb, hwo⟩ := getr_M hI
  refine lv_iload_n hx hb dX12_extreme_0 rfl (lv_at hl 1 rfl) ?_
  refine lv_i2l hx hb dX12_extreme_1 rfl ?_
  refine lv_lconst (v := 1) hx hb dX12_extreme_2 (by decide) ?_
  refine lv_ldc2 hx hb hown (hts _ tw_1024) dX12_extreme_3 ?_
  refine hp_callRi (va_runS (As := [.long n9.toInt64, .long 1, .long 8]) (rest := []) ⟨hx, hb, hml, hown, hts⟩ (c_X12_within l D cy _ cs ad en n9.toInt64 1 8) (kw_X12_within hts tw_985 ⟨by decide, by decide⟩) (preS_of hh hK) rfl rfl hl.1 rfl (lv_room (Nat.le_of_ble_eq_true rfl)) dX12_extreme_6 ⟨Nat.le_of_ble_eq_true rfl, Nat.le_of_ble_eq_true rfl⟩) hh hA (fun r_1465 H locs hw_1465 hh => ?_)
  rcases Decidable.em (wi n9 1 8) with hp_1465 | hp_1465
  · obtain rfl : r_1465 = 1 := Eq.trans hw_1465 (if_pos ((wj_32 (by decide) (by decide)).mpr hp_1465))
    obtain ⟨N_1465, rfl, hA_1465, hB_1465⟩ := wi_natB hp_1465 1 8 (by decide) (by decide)
    refine lv_if_eq (tgt := 35) hx hb dX12_extreme_9 (by decide) (fun c_0 => absurd c_0 (by decide)) (fun _ => ?_)
    refine lv_iload_n hx hb dX12_extreme_12 rfl (lv_at hl 2 rfl) ?_
    refine lv_i2l hx hb dX12_extreme_13 rfl ?_
    refine lv_lconst (v := 0) hx hb dX12_extreme_14 (by decide) ?_
    refine lv_lconst (v := 1) hx hb dX12_extreme_15 (by decide) ?_
    refine hp_callRi (va_runS (As := [.long z9.toInt64, .long 0, .long 1]) (rest := []) ⟨hx, hb, hml, hown, hts⟩ (c_X12_within l D cy _ cs ad en z9.toInt64 0 1) (kw_X12_within hts tw_985 ⟨by decide, by decide⟩) (preS_of hh hK) rfl rfl hl.1 rfl (lv_room (Nat.le_of_ble_eq_true rfl)) dX12_extreme_16 ⟨Nat.le_of_ble_eq_true rfl, Nat.le_of_ble_eq_true rfl⟩) hh hA (fun r_1466 H locs hw_1466 hh => ?_)
    rcases Decidable.em (wi z9 0 1) with hp_1466 | hp_1466
    · obtain rfl : r_1466 = 1 := Eq.trans hw_1466 (if_pos ((wj_32 (by decide) (by decide)).mpr hp_1466))
      obtain ⟨N_1466, rfl, hA_1466, hB_1466⟩ := wi_natB hp_1466 0 1 (by decide) (by decide)
      refine lv_if_eq (tgt := 35) hx hb dX12_extreme_19 (by decide) (fun c_0 => absurd c_0 (by decide)) (fun _ => ?_)
      refine lv_iload_n hx hb dX12_extreme_22 rfl (lv_at hl 3 rfl) ?_
      refine lv_i2l hx hb dX12_extreme_23 rfl ?_
      refine lv_lconst (v := 0) hx hb dX12_extreme_24 (by decide) ?_
      refine lv_iload_n hx hb dX12_extreme_25 rfl (lv_at hl 1 rfl) ?_
      refine lv_i2l hx hb dX12_extreme_26 rfl ?_
      refine lv_lconst (v := 1) hx hb dX12_extreme_27 (by decide) ?_
      refine lv_lsub hx hb dX12_extreme_28 ?_
      refine hp_callRi (va_runS (As := [.long i9.toInt64, .long 0, .long ((nI N_1465).toInt64 - 1)]) (rest := []) ⟨hx, hb, hml, hown, hts⟩ (c_X12_within l D cy _ cs ad en i9.toInt64 0 ((nI N_1465).toInt64 - 1)) (kw_X12_within hts tw_985 ⟨by decide, by decide⟩) (preS_of hh hK) rfl rfl hl.1 rfl (lv_room (Nat.le_of_ble_eq_true rfl)) dX12_extreme_29 ⟨Nat.le_of_ble_eq_true rfl, Nat.le_of_ble_eq_true rfl⟩) hh hA (fun r_1467 H locs hw_1467 hh => ?_)
      rcases Decidable.em (0 ≤ i9.toInt ∧ i9.toInt < (N_1465 : Int)) with hp_1467 | hp_1467
      · obtain rfl : r_1467 = 1 := Eq.trans hw_1467 (if_pos ((wj_m1 (by omega)).mpr hp_1467))
        obtain ⟨N_1467, rfl, hB_1467⟩ := has_nat hp_1467
        refine lv_if_ne (tgt := 38) hx hb dX12_extreme_32 (by decide) (fun _ => ?_) (fun c_0 => absurd c_0 (by decide))
        refine lv_aload_n hx hb dX12_extreme_38 rfl (lv_at hl 0 rfl) ?_
        refine lv_iload_n hx hb dX12_extreme_39 rfl (lv_at hl 1 rfl) ?_
        refine hp_callMi (va_runV (As := [.int (nI N_1465)]) (rest := []) ⟨hx, hb, hml, hown, hts⟩ (c_X12_isSpent l D cy _ cs ad en hI N_1465 (by omega) (by omega)) (kw_X12_isSpent hts tw_1025 ⟨by decide, by decide⟩) (preV_of hh hK (hI.1 _ (by decide)) es1464 rfl) rfl rfl hl.1 rfl (lv_room (Nat.le_of_ble_eq_true rfl)) dX12_extreme_40 ⟨Nat.le_of_ble_eq_true rfl, Nat.le_of_ble_eq_true rfl⟩) hh hA (fun r_1468 H locs en_1468 hw_1468 hh => ?_)
        obtain ⟨hI_1468, hu_1468, hx_1468⟩ := hw_1468
        have es1464_1468 : en_1468 0 = .inr (11, [.int fa, .int hi, .int (nI wd), .int (nI mo), .int (nI tb), .ref (ad 1), .ref (ad 2), .ref (ad 3), .ref (ad 4), .ref (ad 5), .ref (ad 6), .ref (ad 7), .ref (ad 8), .ref (ad 9), .int dp, .long many, .long grt, .long lst, .long nou, .ref (ad 10), .ref (ad 11), .ref (ad 12), .int rm, .long rb, .ref (ad 13), .int pr, .ref (ad 14), .ref (ad 15), .ref (ad 16), .ref (ad 17), .int (nI wo), .ref (ad 18), .ref (ad 19)]) := (hu_1468 0 (by omega)).trans es1464
        have hf_1468 : ∀ c, (c ≠ 0 ∧ c ≠ 6 ∧ c ≠ 7 ∧ c ≠ 8 ∧ c ≠ 9 ∧ c ≠ 10 ∧ c ≠ 11) → en_1468 c = en c := fun c hc => (hu_1468 c (by omega)).trans (hf0 c hc)
        have hkp_1468 : KP en en_1468 := KP_same (KP_rf en) (hu_1468 0 (by omega))
        have hw_1468 := hx_1468
        rcases hw_1468 with ⟨hb_1468, hy_1468⟩ | ⟨hb_1468, hy_1468⟩
        · obtain rfl : r_1468 = 1 := hb_1468
          refine lv_if_eq (tgt := 49) hx hb dX12_extreme_43 (by decide) (fun c_0 => absurd c_0 (by decide)) (fun _ => ?_)
          refine lv_bipush (v := (-6)) hx hb dX12_extreme_46 (by decide) ?_
          exact hp_iretM hx hb hr rfl hlocks hh (⟨hI_1468, hf_1468, Or.inr ⟨N_1465, N_1466, N_1467, rfl, rfl, rfl, by omega, by omega, by omega, by omega, Or.inl ⟨hy_1468, rfl⟩⟩, hkp_1468⟩) dX12_extreme_48
        · obtain rfl : r_1468 = 0 := hb_1468
          refine lv_if_eq (tgt := 49) hx hb dX12_extreme_43 (by decide) (fun _ => ?_) (fun c_0 => absurd c_0 (by decide))
          refine lv_aload_n hx hb dX12_extreme_49 rfl (lv_at hl 0 rfl) ?_
          refine lv_iload_n hx hb dX12_extreme_50 rfl (lv_at hl 1 rfl) ?_
          refine hp_callMv (va_runV (As := [.int (nI N_1465)]) (rest := []) ⟨hx, hb, hml, hown, hts⟩ (c_X12_goThrough l D cy _ cs ad en_1468 hI_1468 N_1465 (by omega) (by omega)) (kw_X12_goThrough hts tw_1034 ⟨by decide, by decide⟩) (preV_of hh hK (hI.1 _ (by decide)) es1464_1468 rfl) rfl rfl hl.1 rfl (lv_room (Nat.le_of_ble_eq_true rfl)) dX12_extreme_51 ⟨Nat.le_of_ble_eq_true rfl, Nat.le_of_ble_eq_true rfl⟩) hh hA (fun H locs en_1469 hw_1469 hh => ?_)
          obtain ⟨hI_1469, hu_1469, hx_1469⟩ := hw_1469
          have hf_1469 : ∀ c, (c ≠ 0 ∧ c ≠ 6 ∧ c ≠ 7 ∧ c ≠ 8 ∧ c ≠ 9 ∧ c ≠ 10 ∧ c ≠ 11) → en_1469 c = en c := fun c hc => (hu_1469 c (by omega)).trans (hf_1468 c hc)
          have hkp_1469 : KP en en_1469 := KP_tr hkp_1468 hx_1469.2
          have hg_1469 : gtS en_1469 = GTF9 en N_1465 := (show gtS en_1469 = GTF9 en_1468 N_1465 from hx_1469.1).trans (GTF9_c (hu_1468 0 (by omega)) (hu_1468 1 (by omega)) (hu_1468 2 (by omega)) (hu_1468 10 (by omega)) (hu_1468 11 (by omega)))
          refine lv_aload_n hx hb dX12_extreme_54 rfl (lv_at hl 0 rfl) ?_
          obtain ⟨fa_1470, hi_1470, wd_1470, mo_1470, tb_1470, dp_1470, many_1470, grt_1470, lst_1470, nou_1470, rm_1470, rb_1470, pr_1470, wo_1470, es1470, p0_1470, p1_1470, p2_1470, p3_1470, p4_1470⟩ := getr_M hI_1469
          have hq2_1471 : wd_1470 = wd := n_eq ((show nI wd_1470 = rdI (en_1469 0) 2 from by rw [es1470]; rfl).trans (hkp_1469.2.1.trans (show rdI (en 0) 2 = nI wd from by rw [es1464]; rfl))) (by omega) (by omega)
          have hq3_1471 : mo_1470 = mo := n_eq ((show nI mo_1470 = rdI (en_1469 0) 3 from by rw [es1470]; rfl).trans (hkp_1469.2.2.1.trans (show rdI (en 0) 3 = nI mo from by rw [es1464]; rfl))) (by omega) (by omega)
          have hq4_1471 : tb_1470 = tb := n_eq ((show nI tb_1470 = rdI (en_1469 0) 4 from by rw [es1470]; rfl).trans (hkp_1469.2.2.2.1.trans (show rdI (en 0) 4 = nI tb from by rw [es1464]; rfl))) (by omega) (by omega)
          have hq30_1471 : wo_1470 = wo := n_eq ((show nI wo_1470 = rdI (en_1469 0) 30 from by rw [es1470]; rfl).trans (hkp_1469.2.2.2.2.2.trans (show rdI (en 0) 30 = nI wo from by rw [es1464]; rfl))) (by omega) (by omega)
          rw [hq2_1471, hq3_1471, hq4_1471, hq30_1471] at es1470
          refine hp_get hx hb hts ix12 hown hK hh (q := 0) rfl (hI.1 _ (by decide)) es1470 rfl 15 (by decide) (hts _ tw_894) (fun _ h9 => h9) rfl dX12_extreme_55 ?_
          refine lv_lconst (v := 0) hx hb dX12_extreme_58 (by decide) ?_
          refine W.lcmp hx hb dX12_extreme_59 ?_
          refine lv_if_ne (tgt := 68) hx hb dX12_extreme_60 (by decide) (fun c_1472 => ?_) (fun c_1472 => ?_)
          · refine lv_iload_n hx hb dX12_extreme_68 rfl (lv_at hl 2 rfl) ?_
            refine lv_if_ne (tgt := 81) hx hb dX12_extreme_69 (by decide) (fun c_1473 => ?_) (fun c_1473 => ?_)
            · have n_1473 : N_1466 ≠ 0 := n_neq (a := N_1466) (b := 0) c_1473 (by omega) (by decide)
              refine lv_aload_n hx hb dX12_extreme_81 rfl (lv_at hl 0 rfl) ?_
              refine hp_get hx hb hts ix12 hown hK hh (q := 0) rfl (hI.1 _ (by decide)) es1470 rfl 20 (by decide) (hts _ tw_899) (fun _ h9 => h9) rfl dX12_extreme_82 ?_
              refine lv_iload_n hx hb dX12_extreme_85 rfl (lv_at hl 3 rfl) ?_
              obtain ⟨f_1474, es1474⟩ := getr_sm hI_1469
              refine hp_iald hx hb hK hh (q := 11) rfl (hI.1 _ (by decide)) es1474 (vp_in_nI (n := N_1467) (by omega) (by decide)) dX12_extreme_86 ?_
              rw [nI_clamp (n := N_1467) (by omega)]
              exact hp_iretM hx hb hr rfl hlocks hh (⟨hI_1469, hf_1469, Or.inr ⟨N_1465, N_1466, N_1467, rfl, rfl, rfl, by omega, by omega, by omega, by omega, Or.inr ⟨hy_1468, by unfold pickX; rw [← hg_1469, if_neg (fun q => c_1472 ((lg_cmp_eq _ _).mpr ((show (gtS en_1469).1 = many_1470 from by show rdJ (en_1469 0) 15 = _; rw [es1470]; rfl).symm.trans q))), if_neg (by omega)]; show _ = rdF (en_1469 11) N_1467; rw [es1474]; rfl⟩⟩, hkp_1469⟩) dX12_extreme_87
            · have n_1473 : N_1466 = 0 := n_eq (a := N_1466) (b := 0) c_1473 (by omega) (by decide)
              refine lv_aload_n hx hb dX12_extreme_72 rfl (lv_at hl 0 rfl) ?_
              refine hp_get hx hb hts ix12 hown hK hh (q := 0) rfl (hI.1 _ (by decide)) es1470 rfl 19 (by decide) (hts _ tw_898) (fun _ h9 => h9) rfl dX12_extreme_73 ?_
              refine lv_iload_n hx hb dX12_extreme_76 rfl (lv_at hl 3 rfl) ?_
              obtain ⟨f_1475, es1475⟩ := getr_gt hI_1469
              refine hp_iald hx hb hK hh (q := 10) rfl (hI.1 _ (by decide)) es1475 (vp_in_nI (n := N_1467) (by omega) (by decide)) dX12_extreme_77 ?_
              rw [nI_clamp (n := N_1467) (by omega)]
              refine lv_goto (tgt := 87) hx hb dX12_extreme_78 (by decide) ?_
              exact hp_iretM hx hb hr rfl hlocks hh (⟨hI_1469, hf_1469, Or.inr ⟨N_1465, N_1466, N_1467, rfl, rfl, rfl, by omega, by omega, by omega, by omega, Or.inr ⟨hy_1468, by unfold pickX; rw [← hg_1469, if_neg (fun q => c_1472 ((lg_cmp_eq _ _).mpr ((show (gtS en_1469).1 = many_1470 from by show rdJ (en_1469 0) 15 = _; rw [es1470]; rfl).symm.trans q))), if_pos (by omega)]; show _ = rdF (en_1469 10) N_1467; rw [es1475]; rfl⟩⟩, hkp_1469⟩) dX12_extreme_87
          · refine lv_bipush (v := (-9)) hx hb dX12_extreme_63 (by decide) ?_
            refine lv_goto (tgt := 87) hx hb dX12_extreme_65 (by decide) ?_
            exact hp_iretM hx hb hr rfl hlocks hh (⟨hI_1469, hf_1469, Or.inr ⟨N_1465, N_1466, N_1467, rfl, rfl, rfl, by omega, by omega, by omega, by omega, Or.inr ⟨hy_1468, by unfold pickX; rw [← hg_1469, if_pos ((show (gtS en_1469).1 = many_1470 from by show rdJ (en_1469 0) 15 = _; rw [es1470]; rfl).trans ((lg_cmp_eq _ _).mp c_1472))]⟩⟩, hkp_1469⟩) dX12_extreme_87
      · obtain rfl : r_1467 = 0 := Eq.trans hw_1467 (if_neg (fun q => hp_1467 ((wj_m1 (by omega)).mp q)))
        refine lv_if_ne (tgt := 38) hx hb dX12_extreme_32 (by decide) (fun c_0 => absurd c_0 (by decide)) (fun _ => ?_)
        refine lv_bipush (v := (-2)) hx hb dX12_extreme_35 (by decide) ?_
        exact hp_iretM hx hb hr rfl hlocks hh (⟨hI, hf0, Or.inl ⟨Or.inr (Or.inr ⟨N_1465, rfl, by omega, hp_1467⟩), rfl⟩, (KP_rf en)⟩) dX12_extreme_37
    · obtain rfl : r_1466 = 0 := Eq.trans hw_1466 (if_neg (fun q => hp_1466 ((wj_32 (by decide) (by decide)).mp q)))
      refine lv_if_eq (tgt := 35) hx hb dX12_extreme_19 (by decide) (fun _ => ?_) (fun c_0 => absurd c_0 (by decide))
      refine lv_bipush (v := (-2)) hx hb dX12_extreme_35 (by decide) ?_
      exact hp_iretM hx hb hr rfl hlocks hh (⟨hI, hf0, Or.inl ⟨Or.inr (Or.inl hp_1466), rfl⟩, (KP_rf en)⟩) dX12_extreme_37
  · obtain rfl : r_1465 = 0 := Eq.trans hw_1465 (if_neg (fun q => hp_1465 ((wj_32 (by decide) (by decide)).mp q)))
    refine lv_if_eq (tgt := 35) hx hb dX12_extreme_9 (by decide) (fun _ => ?_) (fun c_0 => absurd c_0 (by decide))
    refine lv_bipush (v := (-2)) hx hb dX12_extreme_35 (by decide) ?_
    exact hp_iretM hx hb hr rfl hlocks hh (⟨hI, hf0, Or.inl ⟨Or.inl hp_1465, rfl⟩, (KP_rf en)⟩) dX12_extreme_37
theorem kw_X12_extreme {R : Room} {s : State} {args : Array Value} {own : String} {idx : Nat} (hts : ∀ w ∈ TB, w.before args s = true) (hl : Cond.methodLink own idx yX12_extreme ∈ TB) (hR : 4 + 1 ≤ R.frames ∧ 8 + (4 + 11) + 40 * 4 ≤ R.locals) : CallW R s args own RX12 idx yX12_extreme cX12_extreme 4 (some .int) (Cond.code yX12_extreme cX12_extreme 4 (some .int) :: TB) (rmN 4) 0 0 3 := cwV 3 hts (TB_V hl tw_1066 tw_1067 tw_9 tw_1068) rfl rfl rfl (by decide +kernel) hR
set_option maxHeartbeats 4000000 in
set_option maxRecDepth 100000 in
/-- findRings -/
theorem c_X12_findRings (l : Launch) (D : va_G) (cy : Nat → ClassId) (sz : Nat) (cs : List Nat) (ad : Nat → Nat) (en : Nat → va_E) (hI : RX cy cs ad en) (n : Nat) (hn1 : 1 ≤ n) (hn8 : n ≤ 8) (R : List Nat → Bool) (hR : ∀ w, R w = true ↔ rgM (rdF (en 2)) (lF w) n)   : Met l yX12_findRings (Cond.code yX12_findRings cX12_findRings 3 none :: TB) (rmN 3) (va_Pc [.ref (ad 0), .int (nI n)] (Pre D cy cs ad en sz)) (va_Qv (S := Nat → va_E) (fun en1 => RX cy cs ad en1 ∧ (∀ c, (c ≠ 0 ∧ c ≠ 6 ∧ c ≠ 7 ∧ c ≠ 12 ∧ c ≠ 13) → en1 c = en c) ∧ frS en1 = List.foldl (fr1 (rdI (en 0) 2).toNatClampNeg (rdI (en 0) 3).toNatClampNeg n (rdF (en 1)) R) (0, 0, rdF (en 13)) (wds (rdI (en 0) 4).toNatClampNeg (alR (rdF (en 2))) n none) ∧ KP en en1) (PostM D cs ad) (Af cs ad sz)) 0 0 (Af cs ad sz) := by
  refine Met.ofW (cc := cX12_findRings) (maxL := 3) (ret := none) (by decide) rfl ?_
  intro p e s m args below meth c s₁ B hml hv
  obtain ⟨rfl, hsz, hP, hK, hD0⟩ := hv
  have hx := B.exec
  have hb := B.bytes
  have hr := B.returns
  have hts : ∀ w ∈ TB, w.before _ s = true := fun w h => atoms_spec (ws := _ :: TB) B.pre w (List.mem_cons_of_mem _ h)
  have hown : s.vm.findClass RX12 = some m.cls := findClass_of_methodNamed B.named
  have hlocks := B.notSynchronized
  have hh : Hp D (Af cs ad sz) (Af cs ad sz) s.heap s.heap [] cs ad en := ⟨hP, Af_self hD0, va_S.rf⟩
  have hA : ∀ q : Nat, s.heap.size ≤ q → Af cs ad sz q := fun q h => Or.inr (by rw [hsz] at h; exact h)
  have hl := lv_entry ([.ref (ad 0), .int (nI n)]) (n := 3) (Nat.le_of_ble_eq_true rfl)
  rw [lg_entry_eq]
  generalize (lg_sl ([.ref (ad 0), .int (nI n)]) ++ List.replicate (3 - (lg_sl ([.ref (ad 0), .int (nI n)])).length) Slot.unset).toArray = ls at hl ⊢
  have hl : lv_has ls 3 [(0, .ref (ad 0)), (1, .int (nI n))] := hl
  have hf0 : ∀ c, (c ≠ 0 ∧ c ≠ 6 ∧ c ≠ 7 ∧ c ≠ 12 ∧ c ≠ 13) → en c = en c := fun _ _ => rfl
  obtain ⟨fa, hi, wd, mo, tb, dp, many, grt, lst, nou, rm, rb, pr, wo, es1476, hwd2, hwd3, hmo, htb, hwo⟩ := getr_M hI
  refine lv_aload_n hx hb dX12_findRings_0 rfl (lv_at hl 0 rfl) ?_
  refine lv_iconst (v := 0) hx hb dX12_findRings_1 (by decide) ?_
  refine hp_put hx hb hts ix12 tyX12 tyX12_ok nmX12 hown hK hh (q := 0) rfl (hI.1 _ (by decide)) es1476 rfl 22 (by decide) (hts _ tw_901) (fun _ h9 => h9) rfl (ty := .int) (by decide +kernel) rfl rfl (Nat.le_of_ble_eq_true rfl) dX12_findRings_2 (fun H locs en_1477 hen_1477 hh => ?_)
  have es1476_1477 : en_1477 0 = .inr (11, [.int fa, .int hi, .int (nI wd), .int (nI mo), .int (nI tb), .ref (ad 1), .ref (ad 2), .ref (ad 3), .ref (ad 4), .ref (ad 5), .ref (ad 6), .ref (ad 7), .ref (ad 8), .ref (ad 9), .int dp, .long many, .long grt, .long lst, .long nou, .ref (ad 10), .ref (ad 11), .ref (ad 12), .int 0, .long rb, .ref (ad 13), .int pr, .ref (ad 14), .ref (ad 15), .ref (ad 16), .ref (ad 17), .int (nI wo), .ref (ad 18), .ref (ad 19)]) := by rw [hen_1477]; exact va_up_self _ _ _
  have hI_1477 : RX cy cs ad en_1477 := by rw [hen_1477]; exact upr_M hI ⟨fa, hi, wd, mo, tb, dp, many, grt, lst, nou, 0, rb, pr, wo, rfl, hwd2, hwd3, hmo, htb, hwo⟩
  have hf_1477 : ∀ c, (c ≠ 0 ∧ c ≠ 6 ∧ c ≠ 7 ∧ c ≠ 12 ∧ c ≠ 13) → en_1477 c = en c := fun c hc => Eq.trans (show en_1477 c = en c from by rw [hen_1477, va_up_ne _ _ (by omega)]) (hf0 c hc)
  have hkp_1477 : KP en en_1477 := KP_fv (KP_rf en) es1476 es1476_1477 hi (nI wd) (nI mo) (nI tb) pr (nI wo) rfl rfl rfl rfl rfl rfl rfl rfl rfl rfl rfl rfl
  refine lv_aload_n hx hb dX12_findRings_5 rfl (lv_at hl 0 rfl) ?_
  refine lv_lconst (v := 0) hx hb dX12_findRings_6 (by decide) ?_
  refine hp_put hx hb hts ix12 tyX12 tyX12_ok nmX12 hown hK hh (q := 0) rfl (hI.1 _ (by decide)) es1476_1477 rfl 23 (by decide) (hts _ tw_902) (fun _ h9 => h9) rfl (ty := .long) (by decide +kernel) rfl rfl (Nat.le_of_ble_eq_true rfl) dX12_findRings_7 (fun H locs en_1478 hen_1478 hh => ?_)
  have es1476_1478 : en_1478 0 = .inr (11, [.int fa, .int hi, .int (nI wd), .int (nI mo), .int (nI tb), .ref (ad 1), .ref (ad 2), .ref (ad 3), .ref (ad 4), .ref (ad 5), .ref (ad 6), .ref (ad 7), .ref (ad 8), .ref (ad 9), .int dp, .long many, .long grt, .long lst, .long nou, .ref (ad 10), .ref (ad 11), .ref (ad 12), .int 0, .long 0, .ref (ad 13), .int pr, .ref (ad 14), .ref (ad 15), .ref (ad 16), .ref (ad 17), .int (nI wo), .ref (ad 18), .ref (ad 19)]) := by rw [hen_1478]; exact va_up_self _ _ _
  have hI_1478 : RX cy cs ad en_1478 := by rw [hen_1478]; exact upr_M hI_1477 ⟨fa, hi, wd, mo, tb, dp, many, grt, lst, nou, 0, 0, pr, wo, rfl, hwd2, hwd3, hmo, htb, hwo⟩
  have hf_1478 : ∀ c, (c ≠ 0 ∧ c ≠ 6 ∧ c ≠ 7 ∧ c ≠ 12 ∧ c ≠ 13) → en_1478 c = en c := fun c hc => Eq.trans (show en_1478 c = en_1477 c from by rw [hen_1478, va_up_ne _ _ (by omega)]) (hf_1477 c hc)
  have hkp_1478 : KP en en_1478 := KP_fv hkp_1477 es1476_1477 es1476_1478 hi (nI wd) (nI mo) (nI tb) pr (nI wo) rfl rfl rfl rfl rfl rfl rfl rfl rfl rfl rfl rfl
  refine lv_aload_n hx hb dX12_findRings_10 rfl (lv_at hl 0 rfl) ?_
  refine hp_callMv (va_runV (As := []) (rest := []) ⟨hx, hb, hml, hown, hts⟩ (c_X12_beginWords l D cy _ cs ad en_1478 hI_1478  ) (kw_X12_beginWords hts tw_1038 ⟨by decide, by decide⟩) (preV_of hh hK (hI.1 _ (by decide)) es1476_1478 rfl) rfl rfl hl.1 rfl (lv_room (Nat.le_of_ble_eq_true rfl)) dX12_findRings_11 ⟨Nat.le_of_ble_eq_true rfl, Nat.le_of_ble_eq_true rfl⟩) hh hA (fun H locs en_1479 hw_1479 hh => ?_)
  obtain ⟨hI_1479, hu_1479, hd0_1479, hg0_1479, hbl_1479, hx_1479⟩ := hw_1479
  have hND_1479 : ND en_1479 n 0 0 := ⟨by omega, Or.inl hd0_1479, fun i h => absurd h (Nat.not_lt_zero i), by rw [hg0_1479]; decide, by omega⟩
  have hf_1479 : ∀ c, (c ≠ 0 ∧ c ≠ 6 ∧ c ≠ 7 ∧ c ≠ 12 ∧ c ≠ 13) → en_1479 c = en c := fun c hc => (hu_1479 c (by omega)).trans (hf_1478 c hc)
  have hkp_1479 : KP en en_1479 := KP_tr hkp_1478 (KPg.kp hx_1479)
  have loop_1480 : ∀ (fu mm1480 : Nat)  (d1480 : Nat) (u1480 : Nat) (en_1480 : Nat → va_E) (ls : Array Slot) (H : Heap) (locs : List Loc), mm1480 < fu → RX cy cs ad en_1480 → (∀ c, (c ≠ 0 ∧ c ≠ 6 ∧ c ≠ 7 ∧ c ≠ 12 ∧ c ≠ 13) → en_1480 c = en c) → (ND en_1480 n d1480 u1480) → (134217728 ≤ nmv (rdF (en_1480 7)) d1480 u1480 + mm1480) → (LVS en_1480 d1480) → (List.foldl (fr1 (rdI (en 0) 2).toNatClampNeg (rdI (en 0) 3).toNatClampNeg n (rdF (en 1)) R) (frS en_1480) (RM9 en_1480 n d1480 u1480) = List.foldl (fr1 (rdI (en 0) 2).toNatClampNeg (rdI (en 0) 3).toNatClampNeg n (rdF (en 1)) R) (0, 0, rdF (en 13)) (wds (rdI (en 0) 4).toNatClampNeg (alR (rdF (en 2))) n none)) → (KP en en_1480) → lv_has ls 3 [(0, .ref (ad 0)), (1, .int (nI n))] → Hp D (Af cs ad sz) (Af cs ad sz) s.heap H locs cs ad en_1480 → W p l e (headSpec (Cond.code yX12_findRings cX12_findRings 3 none :: TB) (rmN 3)).room s m ([.ref (ad 0), .int (nI n)] : List Value).toArray below meth c H locs 0 0 (MQ below (va_Qv (S := Nat → va_E) (fun en1 => RX cy cs ad en1 ∧ (∀ c, (c ≠ 0 ∧ c ≠ 6 ∧ c ≠ 7 ∧ c ≠ 12 ∧ c ≠ 13) → en1 c = en c) ∧ frS en1 = List.foldl (fr1 (rdI (en 0) 2).toNatClampNeg (rdI (en 0) 3).toNatClampNeg n (rdF (en 1)) R) (0, 0, rdF (en 13)) (wds (rdI (en 0) 4).toNatClampNeg (alR (rdF (en 2))) n none) ∧ KP en en1) (PostM D cs ad) (Af cs ad sz)) ([.ref (ad 0), .int (nI n)] : List Value).toArray s 0 0 (Af cs ad sz)) (F0 m 14 ls []) := by
    intro fu
    induction fu with
    | zero => intro mm1480 d1480 u1480 en_1480 ls H locs h2; exact absurd h2 (by omega)
    | succ fu ih_1480 =>
      intro mm1480 d1480 u1480 en_1480 ls H locs hmm_1480 hI_1480 hf_1480 i0_1480 i1_1480 i2_1480 i3_1480 i4_1480 hl hh
      have hlt_1480 := nmv_lt i0_1480.2.2 (by have h9 := i0_1480.1; omega)
      have hwd_1480 := i0_1480.1
      refine lv_aload_n hx hb dX12_findRings_14 rfl (lv_at hl 0 rfl) ?_
      refine lv_iload_n hx hb dX12_findRings_15 rfl (lv_at hl 1 rfl) ?_
      obtain ⟨fa_1481, hi_1481, wd_1481, mo_1481, tb_1481, dp_1481, many_1481, grt_1481, lst_1481, nou_1481, rm_1481, rb_1481, pr_1481, wo_1481, es1481, p0_1481, p1_1481, p2_1481, p3_1481, p4_1481⟩ := getr_M hI_1480
      have hq2_1482 : wd_1481 = wd := n_eq ((show nI wd_1481 = rdI (en_1480 0) 2 from by rw [es1481]; rfl).trans (i4_1480.2.1.trans (show rdI (en 0) 2 = nI wd from by rw [es1476]; rfl))) (by omega) (by omega)
      have hq3_1482 : mo_1481 = mo := n_eq ((show nI mo_1481 = rdI (en_1480 0) 3 from by rw [es1481]; rfl).trans (i4_1480.2.2.1.trans (show rdI (en 0) 3 = nI mo from by rw [es1476]; rfl))) (by omega) (by omega)
      have hq4_1482 : tb_1481 = tb := n_eq ((show nI tb_1481 = rdI (en_1480 0) 4 from by rw [es1481]; rfl).trans (i4_1480.2.2.2.1.trans (show rdI (en 0) 4 = nI tb from by rw [es1476]; rfl))) (by omega) (by omega)
      have hq30_1482 : wo_1481 = wo := n_eq ((show nI wo_1481 = rdI (en_1480 0) 30 from by rw [es1481]; rfl).trans (i4_1480.2.2.2.2.2.trans (show rdI (en 0) 30 = nI wo from by rw [es1476]; rfl))) (by omega) (by omega)
      rw [hq2_1482, hq3_1482, hq4_1482, hq30_1482] at es1481
      refine hp_callMi (va_runV (As := [.int (nI n)]) (rest := []) ⟨hx, hb, hml, hown, hts⟩ (c_X12_next l D cy _ cs ad en_1480 hI_1480 n (by omega) (by omega) d1480 u1480 i0_1480 _ rfl i2_1480) (kw_X12_next hts tw_1046 ⟨by decide, by decide⟩) (preV_of hh hK (hI.1 _ (by decide)) es1481 rfl) rfl rfl hl.1 rfl (lv_room (Nat.le_of_ble_eq_true rfl)) dX12_findRings_16 ⟨Nat.le_of_ble_eq_true rfl, Nat.le_of_ble_eq_true rfl⟩) hh hA (fun r_1483 H locs en_1483 hw_1483 hh => ?_)
      obtain ⟨hI_1483, hu_1483, hx_1483, hkq_1483⟩ := hw_1483
      have hf_1483 : ∀ c, (c ≠ 0 ∧ c ≠ 6 ∧ c ≠ 7 ∧ c ≠ 12 ∧ c ≠ 13) → en_1483 c = en c := fun c hc => (hu_1483 c (by omega)).trans (hf_1480 c hc)
      have hkp_1483 : KP en en_1483 := KP_tr i4_1480 (KPg.kp hkq_1483)
      rcases hx_1483 with ⟨hr_1483, hL_1483⟩ | ⟨hr_1483, u1_1483, hND_1483, hu1_1483, hnm_1483, hL_1483, hlv_1483⟩
      · rw [hr_1483]
        refine lv_if_eq (tgt := 131) hx hb dX12_findRings_19 (by decide) (fun _ => ?_) (fun c_0 => absurd c_0 (by decide))
        exact hp_vretM hx hb hr hlocks hh (⟨hI_1483, hf_1483, (by have h9 := i3_1480; rw [show RM9 en_1480 n d1480 u1480 = [] from hL_1483] at h9; rw [frS_next hkq_1483 (hu_1483 13 (by omega))]; exact h9), hkp_1483⟩) dX12_findRings_131
      · rw [hr_1483]
        have hall_1483 := NW_all hND_1483.2.2 (by omega) hu1_1483
        have hlq_1483 : LVS en_1483 n := LVS_of hlv_1483 (KPg.kp hkq_1483).2.1 (KPg.kp hkq_1483).2.2.1 (hu_1483 1 (by omega))
        refine lv_if_eq (tgt := 131) hx hb dX12_findRings_19 (by decide) (fun c_0 => absurd c_0 (by decide)) (fun _ => ?_)
        refine lv_iconst (v := 0) hx hb dX12_findRings_22 (by decide) ?_
        refine lv_istore_n (lv' := [(2, .int 0), (0, .ref (ad 0)), (1, .int (nI n))]) hx hb dX12_findRings_23 rfl hl (by decide) rfl (fun ls hl => ?_)
        have loop_1484 : ∀ (fu j1484 : Nat)  (en_1484 : Nat → va_E) (ls : Array Slot) (H : Heap) (locs : List Loc), 0 ≤ j1484 → j1484 ≤ n → n < j1484 + fu → RX cy cs ad en_1484 → (∀ c, (c ≠ 0 ∧ c ≠ 6 ∧ c ≠ 7 ∧ c ≠ 12 ∧ c ≠ 13) → en_1484 c = en c) → (∀ x, x < j1484 → rdF (en_1484 12) x = lF (pre (nwF en_1483) n) x) → (frS en_1484 = frS en_1483) → (KP en en_1484) → (SD en_1483 en_1484) → lv_has ls 3 [(2, .int (nI j1484)), (0, .ref (ad 0)), (1, .int (nI n))] → Hp D (Af cs ad sz) (Af cs ad sz) s.heap H locs cs ad en_1484 → W p l e (headSpec (Cond.code yX12_findRings cX12_findRings 3 none :: TB) (rmN 3)).room s m ([.ref (ad 0), .int (nI n)] : List Value).toArray below meth c H locs 0 0 (MQ below (va_Qv (S := Nat → va_E) (fun en1 => RX cy cs ad en1 ∧ (∀ c, (c ≠ 0 ∧ c ≠ 6 ∧ c ≠ 7 ∧ c ≠ 12 ∧ c ≠ 13) → en1 c = en c) ∧ frS en1 = List.foldl (fr1 (rdI (en 0) 2).toNatClampNeg (rdI (en 0) 3).toNatClampNeg n (rdF (en 1)) R) (0, 0, rdF (en 13)) (wds (rdI (en 0) 4).toNatClampNeg (alR (rdF (en 2))) n none) ∧ KP en en1) (PostM D cs ad) (Af cs ad sz)) ([.ref (ad 0), .int (nI n)] : List Value).toArray s 0 0 (Af cs ad sz)) (F0 m 24 ls []) := by
          intro fu
          induction fu with
          | zero => intro j1484  en_1484 ls H locs h0 h1 h2; exact absurd h2 (by omega)
          | succ fu ih_1484 =>
            intro j1484  en_1484 ls H locs hj0_1484 hj_1484 hfu_1484 hI_1484 hf_1484 i0_1484 i1_1484 i2_1484 i3_1484 hl hh
            refine lv_iload_n hx hb dX12_findRings_24 rfl (lv_at hl 0 rfl) ?_
            refine lv_iload_n hx hb dX12_findRings_25 rfl (lv_at hl 2 rfl) ?_
            refine lv_icmp_ge (tgt := 47) hx hb dX12_findRings_26 (by decide) (fun c_1485 => ?_) (fun c_1485 => ?_)
            · have n_1485 : n ≤ j1484 := n_le (a := n) (b := j1484) c_1485 (by omega) (by omega)
              refine lv_aload_n hx hb dX12_findRings_47 rfl (lv_at hl 1 rfl) ?_
              refine lv_iload_n hx hb dX12_findRings_48 rfl (lv_at hl 2 rfl) ?_
              obtain ⟨fa_1486, hi_1486, wd_1486, mo_1486, tb_1486, dp_1486, many_1486, grt_1486, lst_1486, nou_1486, rm_1486, rb_1486, pr_1486, wo_1486, es1486, p0_1486, p1_1486, p2_1486, p3_1486, p4_1486⟩ := getr_M hI_1484
              have hq2_1487 : wd_1486 = wd := n_eq ((show nI wd_1486 = rdI (en_1484 0) 2 from by rw [es1486]; rfl).trans (i2_1484.2.1.trans (show rdI (en 0) 2 = nI wd from by rw [es1476]; rfl))) (by omega) (by omega)
              have hq3_1487 : mo_1486 = mo := n_eq ((show nI mo_1486 = rdI (en_1484 0) 3 from by rw [es1486]; rfl).trans (i2_1484.2.2.1.trans (show rdI (en 0) 3 = nI mo from by rw [es1476]; rfl))) (by omega) (by omega)
              have hq4_1487 : tb_1486 = tb := n_eq ((show nI tb_1486 = rdI (en_1484 0) 4 from by rw [es1486]; rfl).trans (i2_1484.2.2.2.1.trans (show rdI (en 0) 4 = nI tb from by rw [es1476]; rfl))) (by omega) (by omega)
              have hq30_1487 : wo_1486 = wo := n_eq ((show nI wo_1486 = rdI (en_1484 0) 30 from by rw [es1486]; rfl).trans (i2_1484.2.2.2.2.2.trans (show rdI (en 0) 30 = nI wo from by rw [es1476]; rfl))) (by omega) (by omega)
              rw [hq2_1487, hq3_1487, hq4_1487, hq30_1487] at es1486
              refine hp_callRi (va_runV (As := [.int (nI n)]) (rest := []) ⟨hx, hb, hml, hown, hts⟩ (c_X12_isRing l D cy _ cs ad en_1484 hI_1484 n (by omega) (by omega)) (kw_X12_isRing hts tw_1077 ⟨by decide, by decide⟩) (preV_of hh hK (hI.1 _ (by decide)) es1486 rfl) rfl rfl hl.1 rfl (lv_room (Nat.le_of_ble_eq_true rfl)) dX12_findRings_49 ⟨Nat.le_of_ble_eq_true rfl, Nat.le_of_ble_eq_true rfl⟩) hh hA (fun r_1488 H locs hw_1488 hh => ?_)
              have hrg_1488 : rgM (rdF (en_1484 2)) (rdF (en_1484 12)) n ↔ R (pre (nwF en_1483) n) = true := by have e9 : j1484 = n := (by omega); rw [e9] at i0_1484; rw [hf_1484 2 (by omega)]; exact Iff.trans ⟨rgM_c hn1 i0_1484, rgM_c hn1 (fun x hx => (i0_1484 x hx).symm)⟩ (hR _).symm
              rcases hw_1488 with ⟨hb_1488, hy_1488⟩ | ⟨hb_1488, hy_1488⟩
              · obtain rfl : r_1488 = 1 := hb_1488
                refine lv_if_ne (tgt := 58) hx hb dX12_findRings_52 (by decide) (fun _ => ?_) (fun c_0 => absurd c_0 (by decide))
                have join_1489 : ∀  (en_1489 : Nat → va_E) (ls : Array Slot) (H : Heap) (locs : List Loc), RX cy cs ad en_1489 → (∀ c, (c ≠ 0 ∧ c ≠ 6 ∧ c ≠ 7 ∧ c ≠ 12 ∧ c ≠ 13) → en_1489 c = en c) → KP en en_1489 → SD en_1483 en_1489 → (frS en_1489 = frB n (trW (rdI (en 0) 2).toNatClampNeg (rdI (en 0) 3).toNatClampNeg n (rdF (en 1)) (pre (nwF en_1483) n)) (lF (pre (nwF en_1483) n)) (frS en_1483)) → lv_has ls 3 [(0, .ref (ad 0)), (1, .int (nI n))] → Hp D (Af cs ad sz) (Af cs ad sz) s.heap H locs cs ad en_1489 → W p l e (headSpec (Cond.code yX12_findRings cX12_findRings 3 none :: TB) (rmN 3)).room s m ([.ref (ad 0), .int (nI n)] : List Value).toArray below meth c H locs 0 0 (MQ below (va_Qv (S := Nat → va_E) (fun en1 => RX cy cs ad en1 ∧ (∀ c, (c ≠ 0 ∧ c ≠ 6 ∧ c ≠ 7 ∧ c ≠ 12 ∧ c ≠ 13) → en1 c = en c) ∧ frS en1 = List.foldl (fr1 (rdI (en 0) 2).toNatClampNeg (rdI (en 0) 3).toNatClampNeg n (rdF (en 1)) R) (0, 0, rdF (en 13)) (wds (rdI (en 0) 4).toNatClampNeg (alR (rdF (en 2))) n none) ∧ KP en en1) (PostM D cs ad) (Af cs ad sz)) ([.ref (ad 0), .int (nI n)] : List Value).toArray s 0 0 (Af cs ad sz)) (F0 m 118 ls []) := by
                  intro  en_1489 ls H locs hI_1489 hf_1489 hkp_1489 hsd_1489 hj0_1489  hl hh
                  obtain ⟨fa_1490, hi_1490, wd_1490, mo_1490, tb_1490, dp_1490, many_1490, grt_1490, lst_1490, nou_1490, rm_1490, rb_1490, pr_1490, wo_1490, es1490, p0_1490, p1_1490, p2_1490, p3_1490, p4_1490⟩ := getr_M hI_1489
                  have hq2_1491 : wd_1490 = wd := n_eq ((show nI wd_1490 = rdI (en_1489 0) 2 from by rw [es1490]; rfl).trans (hkp_1489.2.1.trans (show rdI (en 0) 2 = nI wd from by rw [es1476]; rfl))) (by omega) (by omega)
                  have hq3_1491 : mo_1490 = mo := n_eq ((show nI mo_1490 = rdI (en_1489 0) 3 from by rw [es1490]; rfl).trans (hkp_1489.2.2.1.trans (show rdI (en 0) 3 = nI mo from by rw [es1476]; rfl))) (by omega) (by omega)
                  have hq4_1491 : tb_1490 = tb := n_eq ((show nI tb_1490 = rdI (en_1489 0) 4 from by rw [es1490]; rfl).trans (hkp_1489.2.2.2.1.trans (show rdI (en 0) 4 = nI tb from by rw [es1476]; rfl))) (by omega) (by omega)
                  have hq30_1491 : wo_1490 = wo := n_eq ((show nI wo_1490 = rdI (en_1489 0) 30 from by rw [es1490]; rfl).trans (hkp_1489.2.2.2.2.2.trans (show rdI (en 0) 30 = nI wo from by rw [es1476]; rfl))) (by omega) (by omega)
                  rw [hq2_1491, hq3_1491, hq4_1491, hq30_1491] at es1490
                  refine lv_aload_n hx hb dX12_findRings_118 rfl (lv_at hl 0 rfl) ?_
                  refine lv_dup hx hb dX12_findRings_119 rfl ?_
                  refine hp_get hx hb hts ix12 hown hK hh (q := 0) rfl (hI.1 _ (by decide)) es1490 rfl 22 (by decide) (hts _ tw_901) (fun _ h9 => h9) rfl dX12_findRings_120 ?_
                  refine lv_iconst (v := 1) hx hb dX12_findRings_123 (by decide) ?_
                  refine lv_iadd hx hb dX12_findRings_124 ?_
                  refine hp_put hx hb hts ix12 tyX12 tyX12_ok nmX12 hown hK hh (q := 0) rfl (hI.1 _ (by decide)) es1490 rfl 22 (by decide) (hts _ tw_901) (fun _ h9 => h9) rfl (ty := .int) (by decide +kernel) rfl rfl (Nat.le_of_ble_eq_true rfl) dX12_findRings_125 (fun H locs en_1492 hen_1492 hh => ?_)
                  have es1490_1492 : en_1492 0 = .inr (11, [.int fa_1490, .int hi_1490, .int (nI wd), .int (nI mo), .int (nI tb), .ref (ad 1), .ref (ad 2), .ref (ad 3), .ref (ad 4), .ref (ad 5), .ref (ad 6), .ref (ad 7), .ref (ad 8), .ref (ad 9), .int dp_1490, .long many_1490, .long grt_1490, .long lst_1490, .long nou_1490, .ref (ad 10), .ref (ad 11), .ref (ad 12), .int (rm_1490 + 1), .long rb_1490, .ref (ad 13), .int pr_1490, .ref (ad 14), .ref (ad 15), .ref (ad 16), .ref (ad 17), .int (nI wo), .ref (ad 18), .ref (ad 19)]) := by rw [hen_1492]; exact va_up_self _ _ _
                  have hI_1492 : RX cy cs ad en_1492 := by rw [hen_1492]; exact upr_M hI_1489 ⟨fa_1490, hi_1490, wd, mo, tb, dp_1490, many_1490, grt_1490, lst_1490, nou_1490, (rm_1490 + 1), rb_1490, pr_1490, wo, rfl, hwd2, hwd3, hmo, htb, hwo⟩
                  have hf_1492 : ∀ c, (c ≠ 0 ∧ c ≠ 6 ∧ c ≠ 7 ∧ c ≠ 12 ∧ c ≠ 13) → en_1492 c = en c := fun c hc => Eq.trans (show en_1492 c = en_1489 c from by rw [hen_1492, va_up_ne _ _ (by omega)]) (hf_1489 c hc)
                  have hkp_1492 : KP en en_1492 := KP_fv hkp_1489 es1490 es1490_1492 hi_1490 (nI wd) (nI mo) (nI tb) pr_1490 (nI wo) rfl rfl rfl rfl rfl rfl rfl rfl rfl rfl rfl rfl
                  have hsd_1492 : SD en_1483 en_1492 := SD_fv hsd_1489 es1490 es1490_1492 (show en_1492 7 = en_1489 7 from by rw [hen_1492, va_up_ne _ _ (by decide)]) (show en_1492 6 = en_1489 6 from by rw [hen_1492, va_up_ne _ _ (by decide)]) dp_1490 rfl rfl
                  refine lv_goto (tgt := 14) hx hb dX12_findRings_128 (by decide) ?_
                  exact ih_1480 (mm1480 - 1) (n - 1) u1_1483 en_1492 ls H locs (by omega) hI_1492 hf_1492 (ND_sd hND_1483 hsd_1492) (by rw [hsd_1492.2.1]; have h1 := hnm_1483; have h2 := i1_1480; omega) (LVS_sd hlq_1483 (by omega) hsd_1492 (show rdI (en_1492 0) 2 = rdI (en_1483 0) 2 from (hkp_1492.2.1).trans (hkp_1483.2.1).symm) (show rdI (en_1492 0) 3 = rdI (en_1483 0) 3 from (hkp_1492.2.2.1).trans (hkp_1483.2.2.1).symm) ((hf_1492 1 (by omega)).trans (hf_1483 1 (by omega)).symm)) (by rw [show frS en_1492 = (fr1 (rdI (en 0) 2).toNatClampNeg (rdI (en 0) 3).toNatClampNeg n (rdF (en 1)) R) (frS en_1480) (pre (nwF en_1483) n) from by rw [fr1_yes (hrg_1488.mp hy_1488), ← frS_next hkq_1483 (hu_1483 13 (by omega)), ← hj0_1489]; exact frS_of (by rw [es1490_1492]; show _ = rdI (en_1489 0) 22 + 1; rw [es1490]; rfl) (by rw [es1490_1492]; show _ = rdJ (en_1489 0) 23; rw [es1490]; rfl) (by rw [hen_1492, va_up_ne _ _ (by decide)]; rfl), show RM9 en_1492 n (n - 1) u1_1483 = rem9 (rdI (en_1480 0) 4).toNatClampNeg (alR (rdF (en_1480 2))) n (nwF en_1483) (n - 1) u1_1483 from (RM9_c (a := en_1483) (show rdI (en_1492 0) 4 = rdI (en_1483 0) 4 from (hkp_1492.2.2.2.1).trans (hkp_1483.2.2.2.1).symm) ((hf_1492 2 (by omega)).trans (hf_1483 2 (by omega)).symm) hsd_1492.2.1).trans (by unfold RM9; rw [show rdI (en_1483 0) 4 = rdI (en_1480 0) 4 from (KPg.kp hkq_1483).2.2.2.1, hu_1483 2 (by omega)])]; have h9 := i3_1480; rw [show RM9 en_1480 n d1480 u1480 = _ from hL_1483] at h9; exact h9) (hkp_1492) (lv_sub hl [0, 1] rfl) hh
                refine lv_aload_n hx hb dX12_findRings_58 rfl (lv_at hl 1 rfl) ?_
                refine hp_get hx hb hts ix12 hown hK hh (q := 0) rfl (hI.1 _ (by decide)) es1486 rfl 22 (by decide) (hts _ tw_901) (fun _ h9 => h9) rfl dX12_findRings_59 ?_
                refine lv_if_eq (tgt := 84) hx hb dX12_findRings_62 (by decide) (fun c_1493 => ?_) (fun c_1493 => ?_)
                · refine lv_aload_n hx hb dX12_findRings_84 rfl (lv_at hl 1 rfl) ?_
                  refine lv_aload_n hx hb dX12_findRings_85 rfl (lv_at hl 1 rfl) ?_
                  refine lv_iload_n hx hb dX12_findRings_86 rfl (lv_at hl 2 rfl) ?_
                  refine hp_callRl (va_runV (As := [.int (nI n)]) (rest := [.ref (ad 0)]) ⟨hx, hb, hml, hown, hts⟩ (c_X12_trackAt l D cy _ cs ad en_1484 hI_1484 n (by omega)) (kw_X12_trackAt hts tw_1093 ⟨by decide, by decide⟩) (preV_of hh hK (hI.1 _ (by decide)) es1486 rfl) rfl rfl hl.1 rfl (lv_room (Nat.le_of_ble_eq_true rfl)) dX12_findRings_87 ⟨Nat.le_of_ble_eq_true rfl, Nat.le_of_ble_eq_true rfl⟩) hh hA (fun r_1494 H locs hw_1494 hh => ?_)
                  have htq_1494 : r_1494 = trW (rdI (en 0) 2).toNatClampNeg (rdI (en 0) 3).toNatClampNeg n (rdF (en 1)) (pre (nwF en_1483) n) := by have h9 := tr_at (LVS_sd hlq_1483 (Nat.le_refl _) i3_1484 (show rdI (en_1484 0) 2 = rdI (en_1483 0) 2 from (i2_1484.2.1).trans (hkp_1483.2.1).symm) (show rdI (en_1484 0) 3 = rdI (en_1483 0) 3 from (i2_1484.2.2.1).trans (hkp_1483.2.2.1).symm) ((hf_1484 1 (by omega)).trans (hf_1483 1 (by omega)).symm)) hw_1494; rw [nwF_sd i3_1484, show rdI (en_1484 0) 2 = rdI (en 0) 2 from i2_1484.2.1, show rdI (en_1484 0) 3 = rdI (en 0) 3 from i2_1484.2.2.1, show rdF (en_1484 1) = rdF (en 1) from by rw [hf_1484 1 (by omega)]] at h9; exact h9
                  refine hp_put hx hb hts ix12 tyX12 tyX12_ok nmX12 hown hK hh (q := 0) rfl (hI.1 _ (by decide)) es1486 rfl 23 (by decide) (hts _ tw_902) (fun _ h9 => h9) rfl (ty := .long) (by decide +kernel) rfl rfl (Nat.le_of_ble_eq_true rfl) dX12_findRings_90 (fun H locs en_1495 hen_1495 hh => ?_)
                  have es1486_1495 : en_1495 0 = .inr (11, [.int fa_1486, .int hi_1486, .int (nI wd), .int (nI mo), .int (nI tb), .ref (ad 1), .ref (ad 2), .ref (ad 3), .ref (ad 4), .ref (ad 5), .ref (ad 6), .ref (ad 7), .ref (ad 8), .ref (ad 9), .int dp_1486, .long many_1486, .long grt_1486, .long lst_1486, .long nou_1486, .ref (ad 10), .ref (ad 11), .ref (ad 12), .int rm_1486, .long r_1494, .ref (ad 13), .int pr_1486, .ref (ad 14), .ref (ad 15), .ref (ad 16), .ref (ad 17), .int (nI wo), .ref (ad 18), .ref (ad 19)]) := by rw [hen_1495]; exact va_up_self _ _ _
                  have hI_1495 : RX cy cs ad en_1495 := by rw [hen_1495]; exact upr_M hI_1484 ⟨fa_1486, hi_1486, wd, mo, tb, dp_1486, many_1486, grt_1486, lst_1486, nou_1486, rm_1486, r_1494, pr_1486, wo, rfl, hwd2, hwd3, hmo, htb, hwo⟩
                  have hf_1495 : ∀ c, (c ≠ 0 ∧ c ≠ 6 ∧ c ≠ 7 ∧ c ≠ 12 ∧ c ≠ 13) → en_1495 c = en c := fun c hc => Eq.trans (show en_1495 c = en_1484 c from by rw [hen_1495, va_up_ne _ _ (by omega)]) (hf_1484 c hc)
                  have hkp_1495 : KP en en_1495 := KP_fv i2_1484 es1486 es1486_1495 hi_1486 (nI wd) (nI mo) (nI tb) pr_1486 (nI wo) rfl rfl rfl rfl rfl rfl rfl rfl rfl rfl rfl rfl
                  have hsd_1495 : SD en_1483 en_1495 := SD_fv i3_1484 es1486 es1486_1495 (show en_1495 7 = en_1484 7 from by rw [hen_1495, va_up_ne _ _ (by decide)]) (show en_1495 6 = en_1484 6 from by rw [hen_1495, va_up_ne _ _ (by decide)]) dp_1486 rfl rfl
                  refine lv_iconst (v := 0) hx hb dX12_findRings_93 (by decide) ?_
                  refine lv_istore_n (lv' := [(2, .int 0), (0, .ref (ad 0)), (1, .int (nI n))]) hx hb dX12_findRings_94 rfl hl (by decide) rfl (fun ls hl => ?_)
                  have loop_1496 : ∀ (fu j1496 : Nat)  (en_1496 : Nat → va_E) (ls : Array Slot) (H : Heap) (locs : List Loc), 0 ≤ j1496 → j1496 ≤ n → n < j1496 + fu → RX cy cs ad en_1496 → (∀ c, (c ≠ 0 ∧ c ≠ 6 ∧ c ≠ 7 ∧ c ≠ 12 ∧ c ≠ 13) → en_1496 c = en c) → (frS en_1496 = ((frS en_1483).1, (trW (rdI (en 0) 2).toNatClampNeg (rdI (en 0) 3).toNatClampNeg n (rdF (en 1)) (pre (nwF en_1483) n)), cpN j1496 (lF (pre (nwF en_1483) n)) (frS en_1483).2.2)) → (KP en en_1496) → (SD en_1483 en_1496) → lv_has ls 3 [(2, .int (nI j1496)), (0, .ref (ad 0)), (1, .int (nI n))] → Hp D (Af cs ad sz) (Af cs ad sz) s.heap H locs cs ad en_1496 → W p l e (headSpec (Cond.code yX12_findRings cX12_findRings 3 none :: TB) (rmN 3)).room s m ([.ref (ad 0), .int (nI n)] : List Value).toArray below meth c H locs 0 0 (MQ below (va_Qv (S := Nat → va_E) (fun en1 => RX cy cs ad en1 ∧ (∀ c, (c ≠ 0 ∧ c ≠ 6 ∧ c ≠ 7 ∧ c ≠ 12 ∧ c ≠ 13) → en1 c = en c) ∧ frS en1 = List.foldl (fr1 (rdI (en 0) 2).toNatClampNeg (rdI (en 0) 3).toNatClampNeg n (rdF (en 1)) R) (0, 0, rdF (en 13)) (wds (rdI (en 0) 4).toNatClampNeg (alR (rdF (en 2))) n none) ∧ KP en en1) (PostM D cs ad) (Af cs ad sz)) ([.ref (ad 0), .int (nI n)] : List Value).toArray s 0 0 (Af cs ad sz)) (F0 m 95 ls []) := by
                    intro fu
                    induction fu with
                    | zero => intro j1496  en_1496 ls H locs h0 h1 h2; exact absurd h2 (by omega)
                    | succ fu ih_1496 =>
                      intro j1496  en_1496 ls H locs hj0_1496 hj_1496 hfu_1496 hI_1496 hf_1496 i0_1496 i1_1496 i2_1496 hl hh
                      refine lv_iload_n hx hb dX12_findRings_95 rfl (lv_at hl 0 rfl) ?_
                      refine lv_iload_n hx hb dX12_findRings_96 rfl (lv_at hl 2 rfl) ?_
                      refine lv_icmp_ge (tgt := 118) hx hb dX12_findRings_97 (by decide) (fun c_1497 => ?_) (fun c_1497 => ?_)
                      · have n_1497 : n ≤ j1496 := n_le (a := n) (b := j1496) c_1497 (by omega) (by omega)
                        exact join_1489  en_1496 ls _ _ hI_1496 hf_1496 i1_1496 i2_1496 (by have e9 : j1496 = n := (by omega); rw [e9] at i0_1496; exact i0_1496.trans (frB_pos (Or.inl ((show (frS en_1483).1 = rm_1486 from by rw [← i1_1484]; show rdI (en_1484 0) 22 = _; rw [es1486]; rfl).trans c_1493))).symm) (lv_sub hl [1, 2] rfl) hh
                      · have n_1497 : j1496 < n := n_nle (a := n) (b := j1496) c_1497 (by omega) (by omega)
                        refine lv_aload_n hx hb dX12_findRings_100 rfl (lv_at hl 1 rfl) ?_
                        obtain ⟨fa_1498, hi_1498, wd_1498, mo_1498, tb_1498, dp_1498, many_1498, grt_1498, lst_1498, nou_1498, rm_1498, rb_1498, pr_1498, wo_1498, es1498, p0_1498, p1_1498, p2_1498, p3_1498, p4_1498⟩ := getr_M hI_1496
                        have hq2_1499 : wd_1498 = wd := n_eq ((show nI wd_1498 = rdI (en_1496 0) 2 from by rw [es1498]; rfl).trans (i1_1496.2.1.trans (show rdI (en 0) 2 = nI wd from by rw [es1476]; rfl))) (by omega) (by omega)
                        have hq3_1499 : mo_1498 = mo := n_eq ((show nI mo_1498 = rdI (en_1496 0) 3 from by rw [es1498]; rfl).trans (i1_1496.2.2.1.trans (show rdI (en 0) 3 = nI mo from by rw [es1476]; rfl))) (by omega) (by omega)
                        have hq4_1499 : tb_1498 = tb := n_eq ((show nI tb_1498 = rdI (en_1496 0) 4 from by rw [es1498]; rfl).trans (i1_1496.2.2.2.1.trans (show rdI (en 0) 4 = nI tb from by rw [es1476]; rfl))) (by omega) (by omega)
                        have hq30_1499 : wo_1498 = wo := n_eq ((show nI wo_1498 = rdI (en_1496 0) 30 from by rw [es1498]; rfl).trans (i1_1496.2.2.2.2.2.trans (show rdI (en 0) 30 = nI wo from by rw [es1476]; rfl))) (by omega) (by omega)
                        rw [hq2_1499, hq3_1499, hq4_1499, hq30_1499] at es1498
                        refine hp_get hx hb hts ix12 hown hK hh (q := 0) rfl (hI.1 _ (by decide)) es1498 rfl 24 (by decide) (hts _ tw_903) (fun _ h9 => h9) rfl dX12_findRings_101 ?_
                        refine lv_iload_n hx hb dX12_findRings_104 rfl (lv_at hl 0 rfl) ?_
                        refine lv_aload_n hx hb dX12_findRings_105 rfl (lv_at hl 1 rfl) ?_
                        refine hp_get hx hb hts ix12 hown hK hh (q := 0) rfl (hI.1 _ (by decide)) es1498 rfl 11 (by decide) (hts _ tw_890) (fun _ h9 => h9) rfl dX12_findRings_106 ?_
                        refine lv_iload_n hx hb dX12_findRings_109 rfl (lv_at hl 0 rfl) ?_
                        obtain ⟨f_1500, es1500⟩ := getr_nw hI_1496
                        refine hp_iald hx hb hK hh (q := 7) rfl (hI.1 _ (by decide)) es1500 (vp_in_nI (n := j1496) (by omega) (by decide)) dX12_findRings_110 ?_
                        rw [nI_clamp (n := j1496) (by omega)]
                        obtain ⟨v_1501, hv_1501, hve_1501⟩ := hall_1483 j1496 (by omega)
                        rw [show f_1500 j1496 = nI v_1501 from (show f_1500 j1496 = rdF (en_1483 7) j1496 from by rw [← i2_1496.2.1, es1500]; rfl).trans hve_1501]
                        obtain ⟨f_1502, es1502⟩ := getr_rw hI_1496
                        refine hp_iast hx hb hK hh (q := 13) rfl (hI.1 _ (by decide)) es1502 (vp_in_nI (n := j1496) (by omega) (by decide)) dX12_findRings_111 (fun H locs en_1503 hen_1503 hh => ?_)
                        rw [nI_clamp (n := j1496) (by omega)] at hen_1503
                        have es1498_1503 : en_1503 0 = .inr (11, [.int fa_1498, .int hi_1498, .int (nI wd), .int (nI mo), .int (nI tb), .ref (ad 1), .ref (ad 2), .ref (ad 3), .ref (ad 4), .ref (ad 5), .ref (ad 6), .ref (ad 7), .ref (ad 8), .ref (ad 9), .int dp_1498, .long many_1498, .long grt_1498, .long lst_1498, .long nou_1498, .ref (ad 10), .ref (ad 11), .ref (ad 12), .int rm_1498, .long rb_1498, .ref (ad 13), .int pr_1498, .ref (ad 14), .ref (ad 15), .ref (ad 16), .ref (ad 17), .int (nI wo), .ref (ad 18), .ref (ad 19)]) := by rw [hen_1503, va_up_ne _ _ (by decide)]; exact es1498
                        have es1500_1503 : en_1503 7 = .inl (cy 0, 13, .inl f_1500) := by rw [hen_1503, va_up_ne _ _ (by decide)]; exact es1500
                        have es1502_1503 : en_1503 13 = .inl (cy 0, 12, .inl (upd f_1502 j1496 (nI v_1501))) := by rw [hen_1503]; exact va_up_self _ _ _
                        have hI_1503 : RX cy cs ad en_1503 := by rw [hen_1503]; exact upr_rw hI_1496 ⟨(upd f_1502 j1496 (nI v_1501)), rfl⟩
                        have hf_1503 : ∀ c, (c ≠ 0 ∧ c ≠ 6 ∧ c ≠ 7 ∧ c ≠ 12 ∧ c ≠ 13) → en_1503 c = en c := fun c hc => Eq.trans (show en_1503 c = en_1496 c from by rw [hen_1503, va_up_ne _ _ (by omega)]) (hf_1496 c hc)
                        have hkp_1503 : KP en en_1503 := KP_same i1_1496 (show en_1503 0 = en_1496 0 from by rw [hen_1503, va_up_ne _ _ (by decide)])
                        have hsd_1503 : SD en_1483 en_1503 := SD_same i2_1496 (show en_1503 0 = en_1496 0 from by rw [hen_1503, va_up_ne _ _ (by decide)]) (show en_1503 7 = en_1496 7 from by rw [hen_1503, va_up_ne _ _ (by decide)]) (show en_1503 6 = en_1496 6 from by rw [hen_1503, va_up_ne _ _ (by decide)])
                        refine lv_iinc (v := (nI (j1496 + 1))) (lv' := [(2, .int (nI (j1496 + 1))), (0, .ref (ad 0)), (1, .int (nI n))]) hx hb dX12_findRings_112 hl (k := 0) rfl (nI_1 _) (by decide) rfl (fun ls hl => ?_)
                        refine lv_goto (tgt := 95) hx hb dX12_findRings_115 (by decide) ?_
                        exact ih_1496 ((j1496 + 1))  en_1503 ls H locs (by omega) (by omega) (by omega) hI_1503 hf_1503 (frS_13 i0_1496 (by rw [hen_1503, va_up_ne _ _ (by decide)]) (by rw [es1502_1503]; exact cpN_s ((show f_1502 = rdF (en_1496 13) from by rw [es1502]; rfl).trans (congrArg (fun s : FR9 => s.2.2) i0_1496)) (lF_at (by omega) hve_1501 hv_1501))) (hkp_1503) (hsd_1503) (lv_sub hl [0, 1, 2] rfl) hh
                  exact loop_1496 (n + 1) 0  en_1495 ls _ _ (Nat.le_refl _) (by omega) (by omega) hI_1495 hf_1495 (by rw [cpN_0]; exact frS_of (by rw [es1486_1495, ← i1_1484]; show _ = rdI (en_1484 0) 22; rw [es1486]; rfl) (by rw [es1486_1495]; exact htq_1494) (by rw [hen_1495, va_up_ne _ _ (by decide), ← i1_1484]; rfl)) (hkp_1495) (hsd_1495) (lv_sub hl [0, 1, 2] rfl) hh
                · refine lv_aload_n hx hb dX12_findRings_65 rfl (lv_at hl 1 rfl) ?_
                  refine lv_iload_n hx hb dX12_findRings_66 rfl (lv_at hl 2 rfl) ?_
                  refine hp_callRl (va_runV (As := [.int (nI n)]) (rest := []) ⟨hx, hb, hml, hown, hts⟩ (c_X12_trackAt l D cy _ cs ad en_1484 hI_1484 n (by omega)) (kw_X12_trackAt hts tw_1093 ⟨by decide, by decide⟩) (preV_of hh hK (hI.1 _ (by decide)) es1486 rfl) rfl rfl hl.1 rfl (lv_room (Nat.le_of_ble_eq_true rfl)) dX12_findRings_67 ⟨Nat.le_of_ble_eq_true rfl, Nat.le_of_ble_eq_true rfl⟩) hh hA (fun r_1504 H locs hw_1504 hh => ?_)
                  have htq_1504 : r_1504 = trW (rdI (en 0) 2).toNatClampNeg (rdI (en 0) 3).toNatClampNeg n (rdF (en 1)) (pre (nwF en_1483) n) := by have h9 := tr_at (LVS_sd hlq_1483 (Nat.le_refl _) i3_1484 (show rdI (en_1484 0) 2 = rdI (en_1483 0) 2 from (i2_1484.2.1).trans (hkp_1483.2.1).symm) (show rdI (en_1484 0) 3 = rdI (en_1483 0) 3 from (i2_1484.2.2.1).trans (hkp_1483.2.2.1).symm) ((hf_1484 1 (by omega)).trans (hf_1483 1 (by omega)).symm)) hw_1504; rw [nwF_sd i3_1484, show rdI (en_1484 0) 2 = rdI (en 0) 2 from i2_1484.2.1, show rdI (en_1484 0) 3 = rdI (en 0) 3 from i2_1484.2.2.1, show rdF (en_1484 1) = rdF (en 1) from by rw [hf_1484 1 (by omega)]] at h9; exact h9
                  refine hp_callRl (va_runS (As := [.long r_1504]) (rest := []) ⟨hx, hb, hml, hown, hts⟩ (c_X12_sizeOf l D cy _ cs ad en_1484 hI_1484 r_1504 ) (kw_X12_sizeOf hts tw_1062 ⟨by decide, by decide⟩) (preS_of hh hK) rfl rfl hl.1 rfl (lv_room (Nat.le_of_ble_eq_true rfl)) dX12_findRings_70 ⟨Nat.le_of_ble_eq_true rfl, Nat.le_of_ble_eq_true rfl⟩) hh hA (fun r_1505 H locs hw_1505 hh => ?_)
                  obtain rfl : r_1505 = absR r_1504 := hw_1505
                  refine lv_aload_n hx hb dX12_findRings_73 rfl (lv_at hl 1 rfl) ?_
                  refine hp_get hx hb hts ix12 hown hK hh (q := 0) rfl (hI.1 _ (by decide)) es1486 rfl 23 (by decide) (hts _ tw_902) (fun _ h9 => h9) rfl dX12_findRings_74 ?_
                  refine hp_callRl (va_runS (As := [.long rb_1486]) (rest := [.long (absR r_1504)]) ⟨hx, hb, hml, hown, hts⟩ (c_X12_sizeOf l D cy _ cs ad en_1484 hI_1484 rb_1486 ) (kw_X12_sizeOf hts tw_1062 ⟨by decide, by decide⟩) (preS_of hh hK) rfl rfl hl.1 rfl (lv_room (Nat.le_of_ble_eq_true rfl)) dX12_findRings_77 ⟨Nat.le_of_ble_eq_true rfl, Nat.le_of_ble_eq_true rfl⟩) hh hA (fun r_1506 H locs hw_1506 hh => ?_)
                  obtain rfl : r_1506 = absR rb_1486 := hw_1506
                  refine W.lcmp hx hb dX12_findRings_80 ?_
                  refine lv_if_le (tgt := 118) hx hb dX12_findRings_81 (by decide) (fun c_1507 => ?_) (fun c_1507 => ?_)
                  · exact join_1489  en_1484 ls _ _ hI_1484 hf_1484 i2_1484 i3_1484 (i1_1484.trans (frB_neg (fun q => q.elim (fun q => c_1493 ((show (frS en_1483).1 = rm_1486 from by rw [← i1_1484]; show rdI (en_1484 0) 22 = _; rw [es1486]; rfl).symm.trans q)) (fun q => absurd (Int64.lt_iff_toInt_lt.mp q) (Int.not_lt.mpr (by rw [(show (frS en_1483).2.1 = rb_1486 from by rw [← i1_1484]; show rdJ (en_1484 0) 23 = _; rw [es1486]; rfl), ← htq_1504]; exact g_le c_1507))))).symm) (lv_sub hl [1, 2] rfl) hh
                  · refine lv_aload_n hx hb dX12_findRings_84 rfl (lv_at hl 1 rfl) ?_
                    refine lv_aload_n hx hb dX12_findRings_85 rfl (lv_at hl 1 rfl) ?_
                    refine lv_iload_n hx hb dX12_findRings_86 rfl (lv_at hl 2 rfl) ?_
                    refine hp_callRl (va_runV (As := [.int (nI n)]) (rest := [.ref (ad 0)]) ⟨hx, hb, hml, hown, hts⟩ (c_X12_trackAt l D cy _ cs ad en_1484 hI_1484 n (by omega)) (kw_X12_trackAt hts tw_1093 ⟨by decide, by decide⟩) (preV_of hh hK (hI.1 _ (by decide)) es1486 rfl) rfl rfl hl.1 rfl (lv_room (Nat.le_of_ble_eq_true rfl)) dX12_findRings_87 ⟨Nat.le_of_ble_eq_true rfl, Nat.le_of_ble_eq_true rfl⟩) hh hA (fun r_1508 H locs hw_1508 hh => ?_)
                    have htq_1508 : r_1508 = trW (rdI (en 0) 2).toNatClampNeg (rdI (en 0) 3).toNatClampNeg n (rdF (en 1)) (pre (nwF en_1483) n) := by have h9 := tr_at (LVS_sd hlq_1483 (Nat.le_refl _) i3_1484 (show rdI (en_1484 0) 2 = rdI (en_1483 0) 2 from (i2_1484.2.1).trans (hkp_1483.2.1).symm) (show rdI (en_1484 0) 3 = rdI (en_1483 0) 3 from (i2_1484.2.2.1).trans (hkp_1483.2.2.1).symm) ((hf_1484 1 (by omega)).trans (hf_1483 1 (by omega)).symm)) hw_1508; rw [nwF_sd i3_1484, show rdI (en_1484 0) 2 = rdI (en 0) 2 from i2_1484.2.1, show rdI (en_1484 0) 3 = rdI (en 0) 3 from i2_1484.2.2.1, show rdF (en_1484 1) = rdF (en 1) from by rw [hf_1484 1 (by omega)]] at h9; exact h9
                    refine hp_put hx hb hts ix12 tyX12 tyX12_ok nmX12 hown hK hh (q := 0) rfl (hI.1 _ (by decide)) es1486 rfl 23 (by decide) (hts _ tw_902) (fun _ h9 => h9) rfl (ty := .long) (by decide +kernel) rfl rfl (Nat.le_of_ble_eq_true rfl) dX12_findRings_90 (fun H locs en_1509 hen_1509 hh => ?_)
                    have es1486_1509 : en_1509 0 = .inr (11, [.int fa_1486, .int hi_1486, .int (nI wd), .int (nI mo), .int (nI tb), .ref (ad 1), .ref (ad 2), .ref (ad 3), .ref (ad 4), .ref (ad 5), .ref (ad 6), .ref (ad 7), .ref (ad 8), .ref (ad 9), .int dp_1486, .long many_1486, .long grt_1486, .long lst_1486, .long nou_1486, .ref (ad 10), .ref (ad 11), .ref (ad 12), .int rm_1486, .long r_1508, .ref (ad 13), .int pr_1486, .ref (ad 14), .ref (ad 15), .ref (ad 16), .ref (ad 17), .int (nI wo), .ref (ad 18), .ref (ad 19)]) := by rw [hen_1509]; exact va_up_self _ _ _
                    have hI_1509 : RX cy cs ad en_1509 := by rw [hen_1509]; exact upr_M hI_1484 ⟨fa_1486, hi_1486, wd, mo, tb, dp_1486, many_1486, grt_1486, lst_1486, nou_1486, rm_1486, r_1508, pr_1486, wo, rfl, hwd2, hwd3, hmo, htb, hwo⟩
                    have hf_1509 : ∀ c, (c ≠ 0 ∧ c ≠ 6 ∧ c ≠ 7 ∧ c ≠ 12 ∧ c ≠ 13) → en_1509 c = en c := fun c hc => Eq.trans (show en_1509 c = en_1484 c from by rw [hen_1509, va_up_ne _ _ (by omega)]) (hf_1484 c hc)
                    have hkp_1509 : KP en en_1509 := KP_fv i2_1484 es1486 es1486_1509 hi_1486 (nI wd) (nI mo) (nI tb) pr_1486 (nI wo) rfl rfl rfl rfl rfl rfl rfl rfl rfl rfl rfl rfl
                    have hsd_1509 : SD en_1483 en_1509 := SD_fv i3_1484 es1486 es1486_1509 (show en_1509 7 = en_1484 7 from by rw [hen_1509, va_up_ne _ _ (by decide)]) (show en_1509 6 = en_1484 6 from by rw [hen_1509, va_up_ne _ _ (by decide)]) dp_1486 rfl rfl
                    refine lv_iconst (v := 0) hx hb dX12_findRings_93 (by decide) ?_
                    refine lv_istore_n (lv' := [(2, .int 0), (0, .ref (ad 0)), (1, .int (nI n))]) hx hb dX12_findRings_94 rfl hl (by decide) rfl (fun ls hl => ?_)
                    have loop_1510 : ∀ (fu j1510 : Nat)  (en_1510 : Nat → va_E) (ls : Array Slot) (H : Heap) (locs : List Loc), 0 ≤ j1510 → j1510 ≤ n → n < j1510 + fu → RX cy cs ad en_1510 → (∀ c, (c ≠ 0 ∧ c ≠ 6 ∧ c ≠ 7 ∧ c ≠ 12 ∧ c ≠ 13) → en_1510 c = en c) → (frS en_1510 = ((frS en_1483).1, (trW (rdI (en 0) 2).toNatClampNeg (rdI (en 0) 3).toNatClampNeg n (rdF (en 1)) (pre (nwF en_1483) n)), cpN j1510 (lF (pre (nwF en_1483) n)) (frS en_1483).2.2)) → (KP en en_1510) → (SD en_1483 en_1510) → lv_has ls 3 [(2, .int (nI j1510)), (0, .ref (ad 0)), (1, .int (nI n))] → Hp D (Af cs ad sz) (Af cs ad sz) s.heap H locs cs ad en_1510 → W p l e (headSpec (Cond.code yX12_findRings cX12_findRings 3 none :: TB) (rmN 3)).room s m ([.ref (ad 0), .int (nI n)] : List Value).toArray below meth c H locs 0 0 (MQ below (va_Qv (S := Nat → va_E) (fun en1 => RX cy cs ad en1 ∧ (∀ c, (c ≠ 0 ∧ c ≠ 6 ∧ c ≠ 7 ∧ c ≠ 12 ∧ c ≠ 13) → en1 c = en c) ∧ frS en1 = List.foldl (fr1 (rdI (en 0) 2).toNatClampNeg (rdI (en 0) 3).toNatClampNeg n (rdF (en 1)) R) (0, 0, rdF (en 13)) (wds (rdI (en 0) 4).toNatClampNeg (alR (rdF (en 2))) n none) ∧ KP en en1) (PostM D cs ad) (Af cs ad sz)) ([.ref (ad 0), .int (nI n)] : List Value).toArray s 0 0 (Af cs ad sz)) (F0 m 95 ls []) := by
                      intro fu
                      induction fu with
                      | zero => intro j1510  en_1510 ls H locs h0 h1 h2; exact absurd h2 (by omega)
                      | succ fu ih_1510 =>
                        intro j1510  en_1510 ls H locs hj0_1510 hj_1510 hfu_1510 hI_1510 hf_1510 i0_1510 i1_1510 i2_1510 hl hh
                        refine lv_iload_n hx hb dX12_findRings_95 rfl (lv_at hl 0 rfl) ?_
                        refine lv_iload_n hx hb dX12_findRings_96 rfl (lv_at hl 2 rfl) ?_
                        refine lv_icmp_ge (tgt := 118) hx hb dX12_findRings_97 (by decide) (fun c_1511 => ?_) (fun c_1511 => ?_)
                        · have n_1511 : n ≤ j1510 := n_le (a := n) (b := j1510) c_1511 (by omega) (by omega)
                          exact join_1489  en_1510 ls _ _ hI_1510 hf_1510 i1_1510 i2_1510 (by have e9 : j1510 = n := (by omega); rw [e9] at i0_1510; exact i0_1510.trans (frB_pos (Or.inr (by rw [(show (frS en_1483).2.1 = rb_1486 from by rw [← i1_1484]; show rdJ (en_1484 0) 23 = _; rw [es1486]; rfl), ← htq_1504]; exact Int64.lt_iff_toInt_lt.mpr (g_nle c_1507)))).symm) (lv_sub hl [1, 2] rfl) hh
                        · have n_1511 : j1510 < n := n_nle (a := n) (b := j1510) c_1511 (by omega) (by omega)
                          refine lv_aload_n hx hb dX12_findRings_100 rfl (lv_at hl 1 rfl) ?_
                          obtain ⟨fa_1512, hi_1512, wd_1512, mo_1512, tb_1512, dp_1512, many_1512, grt_1512, lst_1512, nou_1512, rm_1512, rb_1512, pr_1512, wo_1512, es1512, p0_1512, p1_1512, p2_1512, p3_1512, p4_1512⟩ := getr_M hI_1510
                          have hq2_1513 : wd_1512 = wd := n_eq ((show nI wd_1512 = rdI (en_1510 0) 2 from by rw [es1512]; rfl).trans (i1_1510.2.1.trans (show rdI (en 0) 2 = nI wd from by rw [es1476]; rfl))) (by omega) (by omega)
                          have hq3_1513 : mo_1512 = mo := n_eq ((show nI mo_1512 = rdI (en_1510 0) 3 from by rw [es1512]; rfl).trans (i1_1510.2.2.1.trans (show rdI (en 0) 3 = nI mo from by rw [es1476]; rfl))) (by omega) (by omega)
                          have hq4_1513 : tb_1512 = tb := n_eq ((show nI tb_1512 = rdI (en_1510 0) 4 from by rw [es1512]; rfl).trans (i1_1510.2.2.2.1.trans (show rdI (en 0) 4 = nI tb from by rw [es1476]; rfl))) (by omega) (by omega)
                          have hq30_1513 : wo_1512 = wo := n_eq ((show nI wo_1512 = rdI (en_1510 0) 30 from by rw [es1512]; rfl).trans (i1_1510.2.2.2.2.2.trans (show rdI (en 0) 30 = nI wo from by rw [es1476]; rfl))) (by omega) (by omega)
                          rw [hq2_1513, hq3_1513, hq4_1513, hq30_1513] at es1512
                          refine hp_get hx hb hts ix12 hown hK hh (q := 0) rfl (hI.1 _ (by decide)) es1512 rfl 24 (by decide) (hts _ tw_903) (fun _ h9 => h9) rfl dX12_findRings_101 ?_
                          refine lv_iload_n hx hb dX12_findRings_104 rfl (lv_at hl 0 rfl) ?_
                          refine lv_aload_n hx hb dX12_findRings_105 rfl (lv_at hl 1 rfl) ?_
                          refine hp_get hx hb hts ix12 hown hK hh (q := 0) rfl (hI.1 _ (by decide)) es1512 rfl 11 (by decide) (hts _ tw_890) (fun _ h9 => h9) rfl dX12_findRings_106 ?_
                          refine lv_iload_n hx hb dX12_findRings_109 rfl (lv_at hl 0 rfl) ?_
                          obtain ⟨f_1514, es1514⟩ := getr_nw hI_1510
                          refine hp_iald hx hb hK hh (q := 7) rfl (hI.1 _ (by decide)) es1514 (vp_in_nI (n := j1510) (by omega) (by decide)) dX12_findRings_110 ?_
                          rw [nI_clamp (n := j1510) (by omega)]
                          obtain ⟨v_1515, hv_1515, hve_1515⟩ := hall_1483 j1510 (by omega)
                          rw [show f_1514 j1510 = nI v_1515 from (show f_1514 j1510 = rdF (en_1483 7) j1510 from by rw [← i2_1510.2.1, es1514]; rfl).trans hve_1515]
                          obtain ⟨f_1516, es1516⟩ := getr_rw hI_1510
                          refine hp_iast hx hb hK hh (q := 13) rfl (hI.1 _ (by decide)) es1516 (vp_in_nI (n := j1510) (by omega) (by decide)) dX12_findRings_111 (fun H locs en_1517 hen_1517 hh => ?_)
                          rw [nI_clamp (n := j1510) (by omega)] at hen_1517
                          have es1512_1517 : en_1517 0 = .inr (11, [.int fa_1512, .int hi_1512, .int (nI wd), .int (nI mo), .int (nI tb), .ref (ad 1), .ref (ad 2), .ref (ad 3), .ref (ad 4), .ref (ad 5), .ref (ad 6), .ref (ad 7), .ref (ad 8), .ref (ad 9), .int dp_1512, .long many_1512, .long grt_1512, .long lst_1512, .long nou_1512, .ref (ad 10), .ref (ad 11), .ref (ad 12), .int rm_1512, .long rb_1512, .ref (ad 13), .int pr_1512, .ref (ad 14), .ref (ad 15), .ref (ad 16), .ref (ad 17), .int (nI wo), .ref (ad 18), .ref (ad 19)]) := by rw [hen_1517, va_up_ne _ _ (by decide)]; exact es1512
                          have es1514_1517 : en_1517 7 = .inl (cy 0, 13, .inl f_1514) := by rw [hen_1517, va_up_ne _ _ (by decide)]; exact es1514
                          have es1516_1517 : en_1517 13 = .inl (cy 0, 12, .inl (upd f_1516 j1510 (nI v_1515))) := by rw [hen_1517]; exact va_up_self _ _ _
                          have hI_1517 : RX cy cs ad en_1517 := by rw [hen_1517]; exact upr_rw hI_1510 ⟨(upd f_1516 j1510 (nI v_1515)), rfl⟩
                          have hf_1517 : ∀ c, (c ≠ 0 ∧ c ≠ 6 ∧ c ≠ 7 ∧ c ≠ 12 ∧ c ≠ 13) → en_1517 c = en c := fun c hc => Eq.trans (show en_1517 c = en_1510 c from by rw [hen_1517, va_up_ne _ _ (by omega)]) (hf_1510 c hc)
                          have hkp_1517 : KP en en_1517 := KP_same i1_1510 (show en_1517 0 = en_1510 0 from by rw [hen_1517, va_up_ne _ _ (by decide)])
                          have hsd_1517 : SD en_1483 en_1517 := SD_same i2_1510 (show en_1517 0 = en_1510 0 from by rw [hen_1517, va_up_ne _ _ (by decide)]) (show en_1517 7 = en_1510 7 from by rw [hen_1517, va_up_ne _ _ (by decide)]) (show en_1517 6 = en_1510 6 from by rw [hen_1517, va_up_ne _ _ (by decide)])
                          refine lv_iinc (v := (nI (j1510 + 1))) (lv' := [(2, .int (nI (j1510 + 1))), (0, .ref (ad 0)), (1, .int (nI n))]) hx hb dX12_findRings_112 hl (k := 0) rfl (nI_1 _) (by decide) rfl (fun ls hl => ?_)
                          refine lv_goto (tgt := 95) hx hb dX12_findRings_115 (by decide) ?_
                          exact ih_1510 ((j1510 + 1))  en_1517 ls H locs (by omega) (by omega) (by omega) hI_1517 hf_1517 (frS_13 i0_1510 (by rw [hen_1517, va_up_ne _ _ (by decide)]) (by rw [es1516_1517]; exact cpN_s ((show f_1516 = rdF (en_1510 13) from by rw [es1516]; rfl).trans (congrArg (fun s : FR9 => s.2.2) i0_1510)) (lF_at (by omega) hve_1515 hv_1515))) (hkp_1517) (hsd_1517) (lv_sub hl [0, 1, 2] rfl) hh
                    exact loop_1510 (n + 1) 0  en_1509 ls _ _ (Nat.le_refl _) (by omega) (by omega) hI_1509 hf_1509 (by rw [cpN_0]; exact frS_of (by rw [es1486_1509, ← i1_1484]; show _ = rdI (en_1484 0) 22; rw [es1486]; rfl) (by rw [es1486_1509]; exact htq_1508) (by rw [hen_1509, va_up_ne _ _ (by decide), ← i1_1484]; rfl)) (hkp_1509) (hsd_1509) (lv_sub hl [0, 1, 2] rfl) hh
              · obtain rfl : r_1488 = 0 := hb_1488
                refine lv_if_ne (tgt := 58) hx hb dX12_findRings_52 (by decide) (fun c_0 => absurd c_0 (by decide)) (fun _ => ?_)
                refine lv_goto (tgt := 14) hx hb dX12_findRings_55 (by decide) ?_
                exact ih_1480 (mm1480 - 1) (n - 1) u1_1483 en_1484 ls H locs (by omega) hI_1484 hf_1484 (ND_sd hND_1483 i3_1484) (by rw [i3_1484.2.1]; have h1 := hnm_1483; have h2 := i1_1480; omega) (LVS_sd hlq_1483 (by omega) i3_1484 (show rdI (en_1484 0) 2 = rdI (en_1483 0) 2 from (i2_1484.2.1).trans (hkp_1483.2.1).symm) (show rdI (en_1484 0) 3 = rdI (en_1483 0) 3 from (i2_1484.2.2.1).trans (hkp_1483.2.2.1).symm) ((hf_1484 1 (by omega)).trans (hf_1483 1 (by omega)).symm)) (by rw [show frS en_1484 = (fr1 (rdI (en 0) 2).toNatClampNeg (rdI (en 0) 3).toNatClampNeg n (rdF (en 1)) R) (frS en_1480) (pre (nwF en_1483) n) from by rw [fr1_no (fun q => hy_1488 (hrg_1488.mpr q)), ← frS_next hkq_1483 (hu_1483 13 (by omega))]; exact i1_1484, show RM9 en_1484 n (n - 1) u1_1483 = rem9 (rdI (en_1480 0) 4).toNatClampNeg (alR (rdF (en_1480 2))) n (nwF en_1483) (n - 1) u1_1483 from (RM9_c (a := en_1483) (show rdI (en_1484 0) 4 = rdI (en_1483 0) 4 from (i2_1484.2.2.2.1).trans (hkp_1483.2.2.2.1).symm) ((hf_1484 2 (by omega)).trans (hf_1483 2 (by omega)).symm) i3_1484.2.1).trans (by unfold RM9; rw [show rdI (en_1483 0) 4 = rdI (en_1480 0) 4 from (KPg.kp hkq_1483).2.2.2.1, hu_1483 2 (by omega)])]; have h9 := i3_1480; rw [show RM9 en_1480 n d1480 u1480 = _ from hL_1483] at h9; exact h9) (i2_1484) (lv_sub hl [1, 2] rfl) hh
            · have n_1485 : j1484 < n := n_nle (a := n) (b := j1484) c_1485 (by omega) (by omega)
              refine lv_aload_n hx hb dX12_findRings_29 rfl (lv_at hl 1 rfl) ?_
              obtain ⟨fa_1518, hi_1518, wd_1518, mo_1518, tb_1518, dp_1518, many_1518, grt_1518, lst_1518, nou_1518, rm_1518, rb_1518, pr_1518, wo_1518, es1518, p0_1518, p1_1518, p2_1518, p3_1518, p4_1518⟩ := getr_M hI_1484
              have hq2_1519 : wd_1518 = wd := n_eq ((show nI wd_1518 = rdI (en_1484 0) 2 from by rw [es1518]; rfl).trans (i2_1484.2.1.trans (show rdI (en 0) 2 = nI wd from by rw [es1476]; rfl))) (by omega) (by omega)
              have hq3_1519 : mo_1518 = mo := n_eq ((show nI mo_1518 = rdI (en_1484 0) 3 from by rw [es1518]; rfl).trans (i2_1484.2.2.1.trans (show rdI (en 0) 3 = nI mo from by rw [es1476]; rfl))) (by omega) (by omega)
              have hq4_1519 : tb_1518 = tb := n_eq ((show nI tb_1518 = rdI (en_1484 0) 4 from by rw [es1518]; rfl).trans (i2_1484.2.2.2.1.trans (show rdI (en 0) 4 = nI tb from by rw [es1476]; rfl))) (by omega) (by omega)
              have hq30_1519 : wo_1518 = wo := n_eq ((show nI wo_1518 = rdI (en_1484 0) 30 from by rw [es1518]; rfl).trans (i2_1484.2.2.2.2.2.trans (show rdI (en 0) 30 = nI wo from by rw [es1476]; rfl))) (by omega) (by omega)
              rw [hq2_1519, hq3_1519, hq4_1519, hq30_1519] at es1518
              refine hp_get hx hb hts ix12 hown hK hh (q := 0) rfl (hI.1 _ (by decide)) es1518 rfl 21 (by decide) (hts _ tw_900) (fun _ h9 => h9) rfl dX12_findRings_30 ?_
              refine lv_iload_n hx hb dX12_findRings_33 rfl (lv_at hl 0 rfl) ?_
              refine lv_aload_n hx hb dX12_findRings_34 rfl (lv_at hl 1 rfl) ?_
              refine hp_get hx hb hts ix12 hown hK hh (q := 0) rfl (hI.1 _ (by decide)) es1518 rfl 11 (by decide) (hts _ tw_890) (fun _ h9 => h9) rfl dX12_findRings_35 ?_
              refine lv_iload_n hx hb dX12_findRings_38 rfl (lv_at hl 0 rfl) ?_
              obtain ⟨f_1520, es1520⟩ := getr_nw hI_1484
              refine hp_iald hx hb hK hh (q := 7) rfl (hI.1 _ (by decide)) es1520 (vp_in_nI (n := j1484) (by omega) (by decide)) dX12_findRings_39 ?_
              rw [nI_clamp (n := j1484) (by omega)]
              obtain ⟨v_1521, hv_1521, hve_1521⟩ := hall_1483 j1484 (by omega)
              rw [show f_1520 j1484 = nI v_1521 from (show f_1520 j1484 = rdF (en_1483 7) j1484 from by rw [← i3_1484.2.1, es1520]; rfl).trans hve_1521]
              obtain ⟨f_1522, es1522, p0_1522⟩ := getr_ak hI_1484
              refine hp_iast hx hb hK hh (q := 12) rfl (hI.1 _ (by decide)) es1522 (vp_in_nI (n := j1484) (by omega) (by decide)) dX12_findRings_40 (fun H locs en_1523 hen_1523 hh => ?_)
              rw [nI_clamp (n := j1484) (by omega)] at hen_1523
              have es1518_1523 : en_1523 0 = .inr (11, [.int fa_1518, .int hi_1518, .int (nI wd), .int (nI mo), .int (nI tb), .ref (ad 1), .ref (ad 2), .ref (ad 3), .ref (ad 4), .ref (ad 5), .ref (ad 6), .ref (ad 7), .ref (ad 8), .ref (ad 9), .int dp_1518, .long many_1518, .long grt_1518, .long lst_1518, .long nou_1518, .ref (ad 10), .ref (ad 11), .ref (ad 12), .int rm_1518, .long rb_1518, .ref (ad 13), .int pr_1518, .ref (ad 14), .ref (ad 15), .ref (ad 16), .ref (ad 17), .int (nI wo), .ref (ad 18), .ref (ad 19)]) := by rw [hen_1523, va_up_ne _ _ (by decide)]; exact es1518
              have es1520_1523 : en_1523 7 = .inl (cy 0, 13, .inl f_1520) := by rw [hen_1523, va_up_ne _ _ (by decide)]; exact es1520
              have es1522_1523 : en_1523 12 = .inl (cy 0, 12, .inl (upd f_1522 j1484 (nI v_1521))) := by rw [hen_1523]; exact va_up_self _ _ _
              have hI_1523 : RX cy cs ad en_1523 := by rw [hen_1523]; exact upr_ak hI_1484 ⟨(upd f_1522 j1484 (nI v_1521)), rfl, (vals_updB p0_1522 (by omega))⟩
              have hf_1523 : ∀ c, (c ≠ 0 ∧ c ≠ 6 ∧ c ≠ 7 ∧ c ≠ 12 ∧ c ≠ 13) → en_1523 c = en c := fun c hc => Eq.trans (show en_1523 c = en_1484 c from by rw [hen_1523, va_up_ne _ _ (by omega)]) (hf_1484 c hc)
              have hkp_1523 : KP en en_1523 := KP_same i2_1484 (show en_1523 0 = en_1484 0 from by rw [hen_1523, va_up_ne _ _ (by decide)])
              have hsd_1523 : SD en_1483 en_1523 := SD_same i3_1484 (show en_1523 0 = en_1484 0 from by rw [hen_1523, va_up_ne _ _ (by decide)]) (show en_1523 7 = en_1484 7 from by rw [hen_1523, va_up_ne _ _ (by decide)]) (show en_1523 6 = en_1484 6 from by rw [hen_1523, va_up_ne _ _ (by decide)])
              refine lv_iinc (v := (nI (j1484 + 1))) (lv' := [(2, .int (nI (j1484 + 1))), (0, .ref (ad 0)), (1, .int (nI n))]) hx hb dX12_findRings_41 hl (k := 0) rfl (nI_1 _) (by decide) rfl (fun ls hl => ?_)
              refine lv_goto (tgt := 24) hx hb dX12_findRings_44 (by decide) ?_
              exact ih_1484 ((j1484 + 1))  en_1523 ls H locs (by omega) (by omega) (by omega) hI_1523 hf_1523 (fun x hx => by rw [es1522_1523]; exact lw_up (fun y hy => (show f_1522 y = rdF (en_1484 12) y from by rw [es1522]; rfl).trans (i0_1484 y hy)) (lF_at (by omega) hve_1521 hv_1521) x hx) (frS_same i1_1484 (by rw [hen_1523, va_up_ne _ _ (by decide)]) (by rw [hen_1523, va_up_ne _ _ (by decide)])) (hkp_1523) (hsd_1523) (lv_sub hl [0, 1, 2] rfl) hh
        exact loop_1484 (n + 1) 0  en_1483 ls _ _ (Nat.le_refl _) (by omega) (by omega) hI_1483 hf_1483 (fun x h => absurd h (Nat.not_lt_zero x)) (rfl) (hkp_1483) ((SD_rf en_1483)) (lv_sub hl [0, 1, 2] rfl) hh
  exact loop_1480 (134217728 + 1) 134217728 0 0 en_1479 ls _ _ (by omega) hI_1479 hf_1479 (hND_1479) (by omega) (LVS_0 hbl_1479 (KPg.kp hx_1479).2.1 (KPg.kp hx_1479).2.2.1) (by rw [frS_next hx_1479 (hu_1479 13 (by omega)), frS_of (en := en_1478) (a := 0) (b := 0) (f := rdF (en 13)) (by rw [es1476_1478]; rfl) (by rw [es1476_1478]; rfl) (by rw [hen_1478, va_up_ne _ _ (by decide), hen_1477, va_up_ne _ _ (by decide)])]; unfold RM9; rw [rem9_all (by omega), show rdI (en_1479 0) 4 = rdI (en 0) 4 from hkp_1479.2.2.2.1, show rdF (en_1479 2) = rdF (en 2) from by rw [hf_1479 2 (by omega)]]) (hkp_1479) (lv_sub hl [0, 1] rfl) hh
theorem kw_X12_findRings {R : Room} {s : State} {args : Array Value} {own : String} {idx : Nat} (hts : ∀ w ∈ TB, w.before args s = true) (hl : Cond.methodLink own idx yX12_findRings ∈ TB) (hR : 3 + 1 ≤ R.frames ∧ 8 + (3 + 11) + 40 * 3 ≤ R.locals) : CallW R s args own RX12 idx yX12_findRings cX12_findRings 3 none (Cond.code yX12_findRings cX12_findRings 3 none :: TB) (rmN 3) 0 0 1 := cwV 1 hts (TB_V hl tw_1075 ts_44 tw_9 tw_1076) rfl rfl rfl (by decide +kernel) hR
set_option maxHeartbeats 4000000 in
set_option maxRecDepth 100000 in
/-- X12_rings -/
theorem c_X12_rings (l : Launch) (D : va_G) (cy : Nat → ClassId) (sz : Nat) (cs : List Nat) (ad : Nat → Nat) (en : Nat → va_E) (hI : RX cy cs ad en) (n9 : Int32)   : Met l yX12_rings (Cond.code yX12_rings cX12_rings 2 (some .int) :: TB) (rmN 4) (va_Pc [.ref (ad 0), .int n9] (Pre D cy cs ad en sz)) (va_Qi (S := Nat → va_E) (fun r en1 => RX cy cs ad en1 ∧ (∀ c, (c ≠ 0 ∧ c ≠ 6 ∧ c ≠ 7 ∧ c ≠ 8 ∧ c ≠ 9 ∧ c ≠ 12 ∧ c ≠ 13) → en1 c = en c) ∧ (∃ R, hRR R en ∧ RRG n9 r R en) ∧ KP en en1) (PostM D cs ad) (Af cs ad sz)) 0 0 (Af cs ad sz) := by
  refine Met.ofW (cc := cX12_rings) (maxL := 2) (ret := (some .int)) (by decide) rfl ?_
  intro p e s m args below meth c s₁ B hml hv
  obtain ⟨rfl, hsz, hP, hK, hD0⟩ := hv
  have hx := B.exec
  have hb := B.bytes
  have hr := B.returns
  have hts : ∀ w ∈ TB, w.before _ s = true := fun w h => atoms_spec (ws := _ :: TB) B.pre w (List.mem_cons_of_mem _ h)
  have hown : s.vm.findClass RX12 = some m.cls := findClass_of_methodNamed B.named
  have hlocks := B.notSynchronized
  have hh : Hp D (Af cs ad sz) (Af cs ad sz) s.heap s.heap [] cs ad en := ⟨hP, Af_self hD0, va_S.rf⟩
  have hA : ∀ q : Nat, s.heap.size ≤ q → Af cs ad sz q := fun q h => Or.inr (by rw [hsz] at h; exact h)
  have hl := lv_entry ([.ref (ad 0), .int n9]) (n := 2) (Nat.le_of_ble_eq_true rfl)
  rw [lg_entry_eq]
  generalize (lg_sl ([.ref (ad 0), .int n9]) ++ List.replicate (2 - (lg_sl ([.ref (ad 0), .int n9])).length) Slot.unset).toArray = ls at hl ⊢
  have hl : lv_has ls 2 [(0, .ref (ad 0)), (1, .int n9)] := hl
  have hf0 : ∀ c, (c ≠ 0 ∧ c ≠ 6 ∧ c ≠ 7 ∧ c ≠ 8 ∧ c ≠ 9 ∧ c ≠ 12 ∧ c ≠ 13) → en c = en c := fun _ _ => rfl
  obtain ⟨fa, hi, wd, mo, tb, dp, many, grt, lst, nou, rm, rb, pr, wo, es1524, hwd2, hwd3, hmo, htb, hwo⟩ := getr_M hI
  obtain ⟨R, hR⟩ := exRR en
  refine lv_iload_n hx hb dX12_rings_0 rfl (lv_at hl 1 rfl) ?_
  refine lv_i2l hx hb dX12_rings_1 rfl ?_
  refine lv_lconst (v := 1) hx hb dX12_rings_2 (by decide) ?_
  refine lv_ldc2 hx hb hown (hts _ tw_1024) dX12_rings_3 ?_
  refine hp_callRi (va_runS (As := [.long n9.toInt64, .long 1, .long 8]) (rest := []) ⟨hx, hb, hml, hown, hts⟩ (c_X12_within l D cy _ cs ad en n9.toInt64 1 8) (kw_X12_within hts tw_985 ⟨by decide, by decide⟩) (preS_of hh hK) rfl rfl hl.1 rfl (lv_room (Nat.le_of_ble_eq_true rfl)) dX12_rings_6 ⟨Nat.le_of_ble_eq_true rfl, Nat.le_of_ble_eq_true rfl⟩) hh hA (fun r_1525 H locs hw_1525 hh => ?_)
  rcases Decidable.em (wi n9 1 8) with hp_1525 | hp_1525
  · obtain rfl : r_1525 = 1 := Eq.trans hw_1525 (if_pos ((wj_32 (by decide) (by decide)).mpr hp_1525))
    obtain ⟨N_1525, rfl, hA_1525, hB_1525⟩ := wi_natB hp_1525 1 8 (by decide) (by decide)
    refine lv_if_ne (tgt := 15) hx hb dX12_rings_9 (by decide) (fun _ => ?_) (fun c_0 => absurd c_0 (by decide))
    refine lv_aload_n hx hb dX12_rings_15 rfl (lv_at hl 0 rfl) ?_
    refine lv_iload_n hx hb dX12_rings_16 rfl (lv_at hl 1 rfl) ?_
    refine hp_callMi (va_runV (As := [.int (nI N_1525)]) (rest := []) ⟨hx, hb, hml, hown, hts⟩ (c_X12_isSpent l D cy _ cs ad en hI N_1525 (by omega) (by omega)) (kw_X12_isSpent hts tw_1025 ⟨by decide, by decide⟩) (preV_of hh hK (hI.1 _ (by decide)) es1524 rfl) rfl rfl hl.1 rfl (lv_room (Nat.le_of_ble_eq_true rfl)) dX12_rings_17 ⟨Nat.le_of_ble_eq_true rfl, Nat.le_of_ble_eq_true rfl⟩) hh hA (fun r_1526 H locs en_1526 hw_1526 hh => ?_)
    obtain ⟨hI_1526, hu_1526, hx_1526⟩ := hw_1526
    have es1524_1526 : en_1526 0 = .inr (11, [.int fa, .int hi, .int (nI wd), .int (nI mo), .int (nI tb), .ref (ad 1), .ref (ad 2), .ref (ad 3), .ref (ad 4), .ref (ad 5), .ref (ad 6), .ref (ad 7), .ref (ad 8), .ref (ad 9), .int dp, .long many, .long grt, .long lst, .long nou, .ref (ad 10), .ref (ad 11), .ref (ad 12), .int rm, .long rb, .ref (ad 13), .int pr, .ref (ad 14), .ref (ad 15), .ref (ad 16), .ref (ad 17), .int (nI wo), .ref (ad 18), .ref (ad 19)]) := (hu_1526 0 (by omega)).trans es1524
    have hf_1526 : ∀ c, (c ≠ 0 ∧ c ≠ 6 ∧ c ≠ 7 ∧ c ≠ 8 ∧ c ≠ 9 ∧ c ≠ 12 ∧ c ≠ 13) → en_1526 c = en c := fun c hc => (hu_1526 c (by omega)).trans (hf0 c hc)
    have hkp_1526 : KP en en_1526 := KP_same (KP_rf en) (hu_1526 0 (by omega))
    have hw_1526 := hx_1526
    rcases hw_1526 with ⟨hb_1526, hy_1526⟩ | ⟨hb_1526, hy_1526⟩
    · obtain rfl : r_1526 = 1 := hb_1526
      refine lv_if_eq (tgt := 26) hx hb dX12_rings_20 (by decide) (fun c_0 => absurd c_0 (by decide)) (fun _ => ?_)
      refine lv_bipush (v := (-6)) hx hb dX12_rings_23 (by decide) ?_
      exact hp_iretM hx hb hr rfl hlocks hh (⟨hI_1526, hf_1526, ⟨R, hR, Or.inr ⟨N_1525, rfl, by omega, by omega, Or.inl ⟨hy_1526, rfl⟩⟩⟩, hkp_1526⟩) dX12_rings_25
    · obtain rfl : r_1526 = 0 := hb_1526
      refine lv_if_eq (tgt := 26) hx hb dX12_rings_20 (by decide) (fun _ => ?_) (fun c_0 => absurd c_0 (by decide))
      refine lv_aload_n hx hb dX12_rings_26 rfl (lv_at hl 0 rfl) ?_
      refine lv_iload_n hx hb dX12_rings_27 rfl (lv_at hl 1 rfl) ?_
      refine hp_callMv (va_runV (As := [.int (nI N_1525)]) (rest := []) ⟨hx, hb, hml, hown, hts⟩ (c_X12_findRings l D cy _ cs ad en_1526 hI_1526 N_1525 (by omega) (by omega) (R N_1525) (fun w => by rw [hu_1526 2 (by omega)]; exact hR N_1525 w)) (kw_X12_findRings hts tw_1073 ⟨by decide, by decide⟩) (preV_of hh hK (hI.1 _ (by decide)) es1524_1526 rfl) rfl rfl hl.1 rfl (lv_room (Nat.le_of_ble_eq_true rfl)) dX12_rings_28 ⟨Nat.le_of_ble_eq_true rfl, Nat.le_of_ble_eq_true rfl⟩) hh hA (fun H locs en_1527 hw_1527 hh => ?_)
      obtain ⟨hI_1527, hu_1527, hx_1527⟩ := hw_1527
      have hf_1527 : ∀ c, (c ≠ 0 ∧ c ≠ 6 ∧ c ≠ 7 ∧ c ≠ 8 ∧ c ≠ 9 ∧ c ≠ 12 ∧ c ≠ 13) → en_1527 c = en c := fun c hc => (hu_1527 c (by omega)).trans (hf_1526 c hc)
      have hkp_1527 : KP en en_1527 := KP_tr hkp_1526 hx_1527.2
      have hg_1527 : frS en_1527 = FRF9 en N_1525 (R N_1525) := (show frS en_1527 = FRF9 en_1526 N_1525 (R N_1525) from hx_1527.1).trans (FRF9_c (hu_1526 0 (by omega)) (hu_1526 1 (by omega)) (hu_1526 2 (by omega)) (hu_1526 13 (by omega)))
      refine lv_aload_n hx hb dX12_rings_31 rfl (lv_at hl 0 rfl) ?_
      obtain ⟨fa_1528, hi_1528, wd_1528, mo_1528, tb_1528, dp_1528, many_1528, grt_1528, lst_1528, nou_1528, rm_1528, rb_1528, pr_1528, wo_1528, es1528, p0_1528, p1_1528, p2_1528, p3_1528, p4_1528⟩ := getr_M hI_1527
      have hq2_1529 : wd_1528 = wd := n_eq ((show nI wd_1528 = rdI (en_1527 0) 2 from by rw [es1528]; rfl).trans (hkp_1527.2.1.trans (show rdI (en 0) 2 = nI wd from by rw [es1524]; rfl))) (by omega) (by omega)
      have hq3_1529 : mo_1528 = mo := n_eq ((show nI mo_1528 = rdI (en_1527 0) 3 from by rw [es1528]; rfl).trans (hkp_1527.2.2.1.trans (show rdI (en 0) 3 = nI mo from by rw [es1524]; rfl))) (by omega) (by omega)
      have hq4_1529 : tb_1528 = tb := n_eq ((show nI tb_1528 = rdI (en_1527 0) 4 from by rw [es1528]; rfl).trans (hkp_1527.2.2.2.1.trans (show rdI (en 0) 4 = nI tb from by rw [es1524]; rfl))) (by omega) (by omega)
      have hq30_1529 : wo_1528 = wo := n_eq ((show nI wo_1528 = rdI (en_1527 0) 30 from by rw [es1528]; rfl).trans (hkp_1527.2.2.2.2.2.trans (show rdI (en 0) 30 = nI wo from by rw [es1524]; rfl))) (by omega) (by omega)
      rw [hq2_1529, hq3_1529, hq4_1529, hq30_1529] at es1528
      refine hp_get hx hb hts ix12 hown hK hh (q := 0) rfl (hI.1 _ (by decide)) es1528 rfl 22 (by decide) (hts _ tw_901) (fun _ h9 => h9) rfl dX12_rings_32 ?_
      exact hp_iretM hx hb hr rfl hlocks hh (⟨hI_1527, hf_1527, ⟨R, hR, Or.inr ⟨N_1525, rfl, by omega, by omega, Or.inr ⟨hy_1526, by rw [← hg_1527]; show _ = rdI (en_1527 0) 22; rw [es1528]; rfl⟩⟩⟩, hkp_1527⟩) dX12_rings_35
  · obtain rfl : r_1525 = 0 := Eq.trans hw_1525 (if_neg (fun q => hp_1525 ((wj_32 (by decide) (by decide)).mp q)))
    refine lv_if_ne (tgt := 15) hx hb dX12_rings_9 (by decide) (fun c_0 => absurd c_0 (by decide)) (fun _ => ?_)
    refine lv_bipush (v := (-2)) hx hb dX12_rings_12 (by decide) ?_
    exact hp_iretM hx hb hr rfl hlocks hh (⟨hI, hf0, ⟨R, hR, Or.inl ⟨hp_1525, rfl⟩⟩, (KP_rf en)⟩) dX12_rings_14
theorem kw_X12_rings {R : Room} {s : State} {args : Array Value} {own : String} {idx : Nat} (hts : ∀ w ∈ TB, w.before args s = true) (hl : Cond.methodLink own idx yX12_rings ∈ TB) (hR : 4 + 1 ≤ R.frames ∧ 8 + (2 + 11) + 40 * 4 ≤ R.locals) : CallW R s args own RX12 idx yX12_rings cX12_rings 2 (some .int) (Cond.code yX12_rings cX12_rings 2 (some .int) :: TB) (rmN 4) 0 0 1 := cwV 1 hts (TB_V hl tw_1070 tw_1071 tw_9 tw_1072) rfl rfl rfl (by decide +kernel) hR
set_option maxHeartbeats 4000000 in
set_option maxRecDepth 100000 in
/-- X12_ringTrack -/
theorem c_X12_ringTrack (l : Launch) (D : va_G) (cy : Nat → ClassId) (sz : Nat) (cs : List Nat) (ad : Nat → Nat) (en : Nat → va_E) (hI : RX cy cs ad en) (n9 : Int32)   : Met l yX12_ringTrack (Cond.code yX12_ringTrack cX12_ringTrack 2 (some .long) :: TB) (rmN 4) (va_Pc [.ref (ad 0), .int n9] (Pre D cy cs ad en sz)) (va_Ql (S := Nat → va_E) (fun r en1 => RX cy cs ad en1 ∧ (∀ c, (c ≠ 0 ∧ c ≠ 6 ∧ c ≠ 7 ∧ c ≠ 8 ∧ c ≠ 9 ∧ c ≠ 12 ∧ c ≠ 13) → en1 c = en c) ∧ (∃ R, hRR R en ∧ RRT n9 r R en) ∧ KP en en1) (PostM D cs ad) (Af cs ad sz)) 0 0 (Af cs ad sz) := by
  refine Met.ofW (cc := cX12_ringTrack) (maxL := 2) (ret := (some .long)) (by decide) rfl ?_
  intro p e s m args below meth c s₁ B hml hv
  obtain ⟨rfl, hsz, hP, hK, hD0⟩ := hv
  have hx := B.exec
  have hb := B.bytes
  have hr := B.returns
  have hts : ∀ w ∈ TB, w.before _ s = true := fun w h => atoms_spec (ws := _ :: TB) B.pre w (List.mem_cons_of_mem _ h)
  have hown : s.vm.findClass RX12 = some m.cls := findClass_of_methodNamed B.named
  have hlocks := B.notSynchronized
  have hh : Hp D (Af cs ad sz) (Af cs ad sz) s.heap s.heap [] cs ad en := ⟨hP, Af_self hD0, va_S.rf⟩
  have hA : ∀ q : Nat, s.heap.size ≤ q → Af cs ad sz q := fun q h => Or.inr (by rw [hsz] at h; exact h)
  have hl := lv_entry ([.ref (ad 0), .int n9]) (n := 2) (Nat.le_of_ble_eq_true rfl)
  rw [lg_entry_eq]
  generalize (lg_sl ([.ref (ad 0), .int n9]) ++ List.replicate (2 - (lg_sl ([.ref (ad 0), .int n9])).length) Slot.unset).toArray = ls at hl ⊢
  have hl : lv_has ls 2 [(0, .ref (ad 0)), (1, .int n9)] := hl
  have hf0 : ∀ c, (c ≠ 0 ∧ c ≠ 6 ∧ c ≠ 7 ∧ c ≠ 8 ∧ c ≠ 9 ∧ c ≠ 12 ∧ c ≠ 13) → en c = en c := fun _ _ => rfl
  obtain ⟨fa, hi, wd, mo, tb, dp, many, grt, lst, nou, rm, rb, pr, wo, es1530, hwd2, hwd3, hmo, htb, hwo⟩ := getr_M hI
  obtain ⟨R, hR⟩ := exRR en
  refine lv_iload_n hx hb dX12_ringTrack_0 rfl (lv_at hl 1 rfl) ?_
  refine lv_i2l hx hb dX12_ringTrack_1 rfl ?_
  refine lv_lconst (v := 1) hx hb dX12_ringTrack_2 (by decide) ?_
  refine lv_ldc2 hx hb hown (hts _ tw_1024) dX12_ringTrack_3 ?_
  refine hp_callRi (va_runS (As := [.long n9.toInt64, .long 1, .long 8]) (rest := []) ⟨hx, hb, hml, hown, hts⟩ (c_X12_within l D cy _ cs ad en n9.toInt64 1 8) (kw_X12_within hts tw_985 ⟨by decide, by decide⟩) (preS_of hh hK) rfl rfl hl.1 rfl (lv_room (Nat.le_of_ble_eq_true rfl)) dX12_ringTrack_6 ⟨Nat.le_of_ble_eq_true rfl, Nat.le_of_ble_eq_true rfl⟩) hh hA (fun r_1531 H locs hw_1531 hh => ?_)
  rcases Decidable.em (wi n9 1 8) with hp_1531 | hp_1531
  · obtain rfl : r_1531 = 1 := Eq.trans hw_1531 (if_pos ((wj_32 (by decide) (by decide)).mpr hp_1531))
    obtain ⟨N_1531, rfl, hA_1531, hB_1531⟩ := wi_natB hp_1531 1 8 (by decide) (by decide)
    refine lv_if_eq (tgt := 20) hx hb dX12_ringTrack_9 (by decide) (fun c_0 => absurd c_0 (by decide)) (fun _ => ?_)
    refine lv_aload_n hx hb dX12_ringTrack_12 rfl (lv_at hl 0 rfl) ?_
    refine lv_iload_n hx hb dX12_ringTrack_13 rfl (lv_at hl 1 rfl) ?_
    refine hp_callMi (va_runV (As := [.int (nI N_1531)]) (rest := []) ⟨hx, hb, hml, hown, hts⟩ (c_X12_isSpent l D cy _ cs ad en hI N_1531 (by omega) (by omega)) (kw_X12_isSpent hts tw_1025 ⟨by decide, by decide⟩) (preV_of hh hK (hI.1 _ (by decide)) es1530 rfl) rfl rfl hl.1 rfl (lv_room (Nat.le_of_ble_eq_true rfl)) dX12_ringTrack_14 ⟨Nat.le_of_ble_eq_true rfl, Nat.le_of_ble_eq_true rfl⟩) hh hA (fun r_1532 H locs en_1532 hw_1532 hh => ?_)
    obtain ⟨hI_1532, hu_1532, hx_1532⟩ := hw_1532
    have es1530_1532 : en_1532 0 = .inr (11, [.int fa, .int hi, .int (nI wd), .int (nI mo), .int (nI tb), .ref (ad 1), .ref (ad 2), .ref (ad 3), .ref (ad 4), .ref (ad 5), .ref (ad 6), .ref (ad 7), .ref (ad 8), .ref (ad 9), .int dp, .long many, .long grt, .long lst, .long nou, .ref (ad 10), .ref (ad 11), .ref (ad 12), .int rm, .long rb, .ref (ad 13), .int pr, .ref (ad 14), .ref (ad 15), .ref (ad 16), .ref (ad 17), .int (nI wo), .ref (ad 18), .ref (ad 19)]) := (hu_1532 0 (by omega)).trans es1530
    have hf_1532 : ∀ c, (c ≠ 0 ∧ c ≠ 6 ∧ c ≠ 7 ∧ c ≠ 8 ∧ c ≠ 9 ∧ c ≠ 12 ∧ c ≠ 13) → en_1532 c = en c := fun c hc => (hu_1532 c (by omega)).trans (hf0 c hc)
    have hkp_1532 : KP en en_1532 := KP_same (KP_rf en) (hu_1532 0 (by omega))
    have hw_1532 := hx_1532
    rcases hw_1532 with ⟨hb_1532, hy_1532⟩ | ⟨hb_1532, hy_1532⟩
    · obtain rfl : r_1532 = 1 := hb_1532
      refine lv_if_eq (tgt := 24) hx hb dX12_ringTrack_17 (by decide) (fun c_0 => absurd c_0 (by decide)) (fun _ => ?_)
      refine lv_ldc2 hx hb hown (hts _ tw_1015) dX12_ringTrack_20 ?_
      exact hp_lretM hx hb hr hlocks hh (⟨hI_1532, hf_1532, ⟨R, hR, Or.inr ⟨N_1531, rfl, by omega, by omega, Or.inl ⟨hy_1532, rfl⟩⟩⟩, hkp_1532⟩) dX12_ringTrack_23
    · obtain rfl : r_1532 = 0 := hb_1532
      refine lv_if_eq (tgt := 24) hx hb dX12_ringTrack_17 (by decide) (fun _ => ?_) (fun c_0 => absurd c_0 (by decide))
      refine lv_aload_n hx hb dX12_ringTrack_24 rfl (lv_at hl 0 rfl) ?_
      refine lv_iload_n hx hb dX12_ringTrack_25 rfl (lv_at hl 1 rfl) ?_
      refine hp_callMv (va_runV (As := [.int (nI N_1531)]) (rest := []) ⟨hx, hb, hml, hown, hts⟩ (c_X12_findRings l D cy _ cs ad en_1532 hI_1532 N_1531 (by omega) (by omega) (R N_1531) (fun w => by rw [hu_1532 2 (by omega)]; exact hR N_1531 w)) (kw_X12_findRings hts tw_1073 ⟨by decide, by decide⟩) (preV_of hh hK (hI.1 _ (by decide)) es1530_1532 rfl) rfl rfl hl.1 rfl (lv_room (Nat.le_of_ble_eq_true rfl)) dX12_ringTrack_26 ⟨Nat.le_of_ble_eq_true rfl, Nat.le_of_ble_eq_true rfl⟩) hh hA (fun H locs en_1533 hw_1533 hh => ?_)
      obtain ⟨hI_1533, hu_1533, hx_1533⟩ := hw_1533
      have hf_1533 : ∀ c, (c ≠ 0 ∧ c ≠ 6 ∧ c ≠ 7 ∧ c ≠ 8 ∧ c ≠ 9 ∧ c ≠ 12 ∧ c ≠ 13) → en_1533 c = en c := fun c hc => (hu_1533 c (by omega)).trans (hf_1532 c hc)
      have hkp_1533 : KP en en_1533 := KP_tr hkp_1532 hx_1533.2
      have hg_1533 : frS en_1533 = FRF9 en N_1531 (R N_1531) := (show frS en_1533 = FRF9 en_1532 N_1531 (R N_1531) from hx_1533.1).trans (FRF9_c (hu_1532 0 (by omega)) (hu_1532 1 (by omega)) (hu_1532 2 (by omega)) (hu_1532 13 (by omega)))
      refine lv_aload_n hx hb dX12_ringTrack_29 rfl (lv_at hl 0 rfl) ?_
      obtain ⟨fa_1534, hi_1534, wd_1534, mo_1534, tb_1534, dp_1534, many_1534, grt_1534, lst_1534, nou_1534, rm_1534, rb_1534, pr_1534, wo_1534, es1534, p0_1534, p1_1534, p2_1534, p3_1534, p4_1534⟩ := getr_M hI_1533
      have hq2_1535 : wd_1534 = wd := n_eq ((show nI wd_1534 = rdI (en_1533 0) 2 from by rw [es1534]; rfl).trans (hkp_1533.2.1.trans (show rdI (en 0) 2 = nI wd from by rw [es1530]; rfl))) (by omega) (by omega)
      have hq3_1535 : mo_1534 = mo := n_eq ((show nI mo_1534 = rdI (en_1533 0) 3 from by rw [es1534]; rfl).trans (hkp_1533.2.2.1.trans (show rdI (en 0) 3 = nI mo from by rw [es1530]; rfl))) (by omega) (by omega)
      have hq4_1535 : tb_1534 = tb := n_eq ((show nI tb_1534 = rdI (en_1533 0) 4 from by rw [es1534]; rfl).trans (hkp_1533.2.2.2.1.trans (show rdI (en 0) 4 = nI tb from by rw [es1530]; rfl))) (by omega) (by omega)
      have hq30_1535 : wo_1534 = wo := n_eq ((show nI wo_1534 = rdI (en_1533 0) 30 from by rw [es1534]; rfl).trans (hkp_1533.2.2.2.2.2.trans (show rdI (en 0) 30 = nI wo from by rw [es1530]; rfl))) (by omega) (by omega)
      rw [hq2_1535, hq3_1535, hq4_1535, hq30_1535] at es1534
      refine hp_get hx hb hts ix12 hown hK hh (q := 0) rfl (hI.1 _ (by decide)) es1534 rfl 22 (by decide) (hts _ tw_901) (fun _ h9 => h9) rfl dX12_ringTrack_30 ?_
      refine lv_if_ne (tgt := 42) hx hb dX12_ringTrack_33 (by decide) (fun c_1536 => ?_) (fun c_1536 => ?_)
      · refine lv_aload_n hx hb dX12_ringTrack_42 rfl (lv_at hl 0 rfl) ?_
        refine hp_get hx hb hts ix12 hown hK hh (q := 0) rfl (hI.1 _ (by decide)) es1534 rfl 23 (by decide) (hts _ tw_902) (fun _ h9 => h9) rfl dX12_ringTrack_43 ?_
        exact hp_lretM hx hb hr hlocks hh (⟨hI_1533, hf_1533, ⟨R, hR, Or.inr ⟨N_1531, rfl, by omega, by omega, Or.inr ⟨hy_1532, by unfold pickT; rw [← hg_1533, if_neg (fun q => c_1536 ((show (frS en_1533).1 = rm_1534 from by show rdI (en_1533 0) 22 = _; rw [es1534]; rfl).symm.trans q))]; show _ = rdJ (en_1533 0) 23; rw [es1534]; rfl⟩⟩⟩, hkp_1533⟩) dX12_ringTrack_46
      · refine lv_ldc2 hx hb hown (hts _ tw_1015) dX12_ringTrack_36 ?_
        refine lv_goto (tgt := 46) hx hb dX12_ringTrack_39 (by decide) ?_
        exact hp_lretM hx hb hr hlocks hh (⟨hI_1533, hf_1533, ⟨R, hR, Or.inr ⟨N_1531, rfl, by omega, by omega, Or.inr ⟨hy_1532, by unfold pickT; rw [← hg_1533, if_pos ((show (frS en_1533).1 = rm_1534 from by show rdI (en_1533 0) 22 = _; rw [es1534]; rfl).trans c_1536)]⟩⟩⟩, hkp_1533⟩) dX12_ringTrack_46
  · obtain rfl : r_1531 = 0 := Eq.trans hw_1531 (if_neg (fun q => hp_1531 ((wj_32 (by decide) (by decide)).mp q)))
    refine lv_if_eq (tgt := 20) hx hb dX12_ringTrack_9 (by decide) (fun _ => ?_) (fun c_0 => absurd c_0 (by decide))
    refine lv_ldc2 hx hb hown (hts _ tw_1015) dX12_ringTrack_20 ?_
    exact hp_lretM hx hb hr hlocks hh (⟨hI, hf0, ⟨R, hR, Or.inl ⟨hp_1531, rfl⟩⟩, (KP_rf en)⟩) dX12_ringTrack_23
theorem kw_X12_ringTrack {R : Room} {s : State} {args : Array Value} {own : String} {idx : Nat} (hts : ∀ w ∈ TB, w.before args s = true) (hl : Cond.methodLink own idx yX12_ringTrack ∈ TB) (hR : 4 + 1 ≤ R.frames ∧ 8 + (2 + 11) + 40 * 4 ≤ R.locals) : CallW R s args own RX12 idx yX12_ringTrack cX12_ringTrack 2 (some .long) (Cond.code yX12_ringTrack cX12_ringTrack 2 (some .long) :: TB) (rmN 4) 0 0 1 := cwV 1 hts (TB_V hl tw_1098 tw_1099 tw_9 tw_1100) rfl rfl rfl (by decide +kernel) hR
set_option maxHeartbeats 4000000 in
set_option maxRecDepth 100000 in
/-- X12_ring -/
theorem c_X12_ring (l : Launch) (D : va_G) (cy : Nat → ClassId) (sz : Nat) (cs : List Nat) (ad : Nat → Nat) (en : Nat → va_E) (hI : RX cy cs ad en) (n9 i9 : Int32)   : Met l yX12_ring (Cond.code yX12_ring cX12_ring 3 (some .int) :: TB) (rmN 4) (va_Pc [.ref (ad 0), .int n9, .int i9] (Pre D cy cs ad en sz)) (va_Qi (S := Nat → va_E) (fun r en1 => RX cy cs ad en1 ∧ (∀ c, (c ≠ 0 ∧ c ≠ 6 ∧ c ≠ 7 ∧ c ≠ 8 ∧ c ≠ 9 ∧ c ≠ 12 ∧ c ≠ 13) → en1 c = en c) ∧ (∃ R, hRR R en ∧ RRI n9 i9 r R en) ∧ KP en en1) (PostM D cs ad) (Af cs ad sz)) 0 0 (Af cs ad sz) := by
  refine Met.ofW (cc := cX12_ring) (maxL := 3) (ret := (some .int)) (by decide) rfl ?_
  intro p e s m args below meth c s₁ B hml hv
  obtain ⟨rfl, hsz, hP, hK, hD0⟩ := hv
  have hx := B.exec
  have hb := B.bytes
  have hr := B.returns
  have hts : ∀ w ∈ TB, w.before _ s = true := fun w h => atoms_spec (ws := _ :: TB) B.pre w (List.mem_cons_of_mem _ h)
  have hown : s.vm.findClass RX12 = some m.cls := findClass_of_methodNamed B.named
  have hlocks := B.notSynchronized
  have hh : Hp D (Af cs ad sz) (Af cs ad sz) s.heap s.heap [] cs ad en := ⟨hP, Af_self hD0, va_S.rf⟩
  have hA : ∀ q : Nat, s.heap.size ≤ q → Af cs ad sz q := fun q h => Or.inr (by rw [hsz] at h; exact h)
  have hl := lv_entry ([.ref (ad 0), .int n9, .int i9]) (n := 3) (Nat.le_of_ble_eq_true rfl)
  rw [lg_entry_eq]
  generalize (lg_sl ([.ref (ad 0), .int n9, .int i9]) ++ List.replicate (3 - (lg_sl ([.ref (ad 0), .int n9, .int i9])).length) Slot.unset).toArray = ls at hl ⊢
  have hl : lv_has ls 3 [(0, .ref (ad 0)), (1, .int n9), (2, .int i9)] := hl
  have hf0 : ∀ c, (c ≠ 0 ∧ c ≠ 6 ∧ c ≠ 7 ∧ c ≠ 8 ∧ c ≠ 9 ∧ c ≠ 12 ∧ c ≠ 13) → en c = en c := fun _ _ => rfl
  obtain ⟨fa, hi, wd, mo, tb, dp, many, grt, lst, nou, rm, rb, pr, wo, es1537, hwd2, hwd3, hmo, htb, hwo⟩ := getr_M hI
  obtain ⟨R, hR⟩ := exRR en
  refine lv_iload_n hx hb dX12_ring_0 rfl (lv_at hl 1 rfl) ?_
  refine lv_i2l hx hb dX12_ring_1 rfl ?_
  refine lv_lconst (v := 1) hx hb dX12_ring_2 (by decide) ?_
  refine lv_ldc2 hx hb hown (hts _ tw_1024) dX12_ring_3 ?_
  refine hp_callRi (va_runS (As := [.long n9.toInt64, .long 1, .long 8]) (rest := []) ⟨hx, hb, hml, hown, hts⟩ (c_X12_within l D cy _ cs ad en n9.toInt64 1 8) (kw_X12_within hts tw_985 ⟨by decide, by decide⟩) (preS_of hh hK) rfl rfl hl.1 rfl (lv_room (Nat.le_of_ble_eq_true rfl)) dX12_ring_6 ⟨Nat.le_of_ble_eq_true rfl, Nat.le_of_ble_eq_true rfl⟩) hh hA (fun r_1538 H locs hw_1538 hh => ?_)
  rcases Decidable.em (wi n9 1 8) with hp_1538 | hp_1538
  · obtain rfl : r_1538 = 1 := Eq.trans hw_1538 (if_pos ((wj_32 (by decide) (by decide)).mpr hp_1538))
    obtain ⟨N_1538, rfl, hA_1538, hB_1538⟩ := wi_natB hp_1538 1 8 (by decide) (by decide)
    refine lv_if_eq (tgt := 25) hx hb dX12_ring_9 (by decide) (fun c_0 => absurd c_0 (by decide)) (fun _ => ?_)
    refine lv_iload_n hx hb dX12_ring_12 rfl (lv_at hl 2 rfl) ?_
    refine lv_i2l hx hb dX12_ring_13 rfl ?_
    refine lv_lconst (v := 0) hx hb dX12_ring_14 (by decide) ?_
    refine lv_iload_n hx hb dX12_ring_15 rfl (lv_at hl 1 rfl) ?_
    refine lv_i2l hx hb dX12_ring_16 rfl ?_
    refine lv_lconst (v := 1) hx hb dX12_ring_17 (by decide) ?_
    refine lv_lsub hx hb dX12_ring_18 ?_
    refine hp_callRi (va_runS (As := [.long i9.toInt64, .long 0, .long ((nI N_1538).toInt64 - 1)]) (rest := []) ⟨hx, hb, hml, hown, hts⟩ (c_X12_within l D cy _ cs ad en i9.toInt64 0 ((nI N_1538).toInt64 - 1)) (kw_X12_within hts tw_985 ⟨by decide, by decide⟩) (preS_of hh hK) rfl rfl hl.1 rfl (lv_room (Nat.le_of_ble_eq_true rfl)) dX12_ring_19 ⟨Nat.le_of_ble_eq_true rfl, Nat.le_of_ble_eq_true rfl⟩) hh hA (fun r_1539 H locs hw_1539 hh => ?_)
    rcases Decidable.em (0 ≤ i9.toInt ∧ i9.toInt < (N_1538 : Int)) with hp_1539 | hp_1539
    · obtain rfl : r_1539 = 1 := Eq.trans hw_1539 (if_pos ((wj_m1 (by omega)).mpr hp_1539))
      obtain ⟨N_1539, rfl, hB_1539⟩ := has_nat hp_1539
      refine lv_if_ne (tgt := 28) hx hb dX12_ring_22 (by decide) (fun _ => ?_) (fun c_0 => absurd c_0 (by decide))
      refine lv_aload_n hx hb dX12_ring_28 rfl (lv_at hl 0 rfl) ?_
      refine lv_iload_n hx hb dX12_ring_29 rfl (lv_at hl 1 rfl) ?_
      refine hp_callMi (va_runV (As := [.int (nI N_1538)]) (rest := []) ⟨hx, hb, hml, hown, hts⟩ (c_X12_isSpent l D cy _ cs ad en hI N_1538 (by omega) (by omega)) (kw_X12_isSpent hts tw_1025 ⟨by decide, by decide⟩) (preV_of hh hK (hI.1 _ (by decide)) es1537 rfl) rfl rfl hl.1 rfl (lv_room (Nat.le_of_ble_eq_true rfl)) dX12_ring_30 ⟨Nat.le_of_ble_eq_true rfl, Nat.le_of_ble_eq_true rfl⟩) hh hA (fun r_1540 H locs en_1540 hw_1540 hh => ?_)
      obtain ⟨hI_1540, hu_1540, hx_1540⟩ := hw_1540
      have es1537_1540 : en_1540 0 = .inr (11, [.int fa, .int hi, .int (nI wd), .int (nI mo), .int (nI tb), .ref (ad 1), .ref (ad 2), .ref (ad 3), .ref (ad 4), .ref (ad 5), .ref (ad 6), .ref (ad 7), .ref (ad 8), .ref (ad 9), .int dp, .long many, .long grt, .long lst, .long nou, .ref (ad 10), .ref (ad 11), .ref (ad 12), .int rm, .long rb, .ref (ad 13), .int pr, .ref (ad 14), .ref (ad 15), .ref (ad 16), .ref (ad 17), .int (nI wo), .ref (ad 18), .ref (ad 19)]) := (hu_1540 0 (by omega)).trans es1537
      have hf_1540 : ∀ c, (c ≠ 0 ∧ c ≠ 6 ∧ c ≠ 7 ∧ c ≠ 8 ∧ c ≠ 9 ∧ c ≠ 12 ∧ c ≠ 13) → en_1540 c = en c := fun c hc => (hu_1540 c (by omega)).trans (hf0 c hc)
      have hkp_1540 : KP en en_1540 := KP_same (KP_rf en) (hu_1540 0 (by omega))
      have hw_1540 := hx_1540
      rcases hw_1540 with ⟨hb_1540, hy_1540⟩ | ⟨hb_1540, hy_1540⟩
      · obtain rfl : r_1540 = 1 := hb_1540
        refine lv_if_eq (tgt := 39) hx hb dX12_ring_33 (by decide) (fun c_0 => absurd c_0 (by decide)) (fun _ => ?_)
        refine lv_bipush (v := (-6)) hx hb dX12_ring_36 (by decide) ?_
        exact hp_iretM hx hb hr rfl hlocks hh (⟨hI_1540, hf_1540, ⟨R, hR, Or.inr ⟨N_1538, N_1539, rfl, rfl, by omega, by omega, by omega, Or.inl ⟨hy_1540, rfl⟩⟩⟩, hkp_1540⟩) dX12_ring_38
      · obtain rfl : r_1540 = 0 := hb_1540
        refine lv_if_eq (tgt := 39) hx hb dX12_ring_33 (by decide) (fun _ => ?_) (fun c_0 => absurd c_0 (by decide))
        refine lv_aload_n hx hb dX12_ring_39 rfl (lv_at hl 0 rfl) ?_
        refine lv_iload_n hx hb dX12_ring_40 rfl (lv_at hl 1 rfl) ?_
        refine hp_callMv (va_runV (As := [.int (nI N_1538)]) (rest := []) ⟨hx, hb, hml, hown, hts⟩ (c_X12_findRings l D cy _ cs ad en_1540 hI_1540 N_1538 (by omega) (by omega) (R N_1538) (fun w => by rw [hu_1540 2 (by omega)]; exact hR N_1538 w)) (kw_X12_findRings hts tw_1073 ⟨by decide, by decide⟩) (preV_of hh hK (hI.1 _ (by decide)) es1537_1540 rfl) rfl rfl hl.1 rfl (lv_room (Nat.le_of_ble_eq_true rfl)) dX12_ring_41 ⟨Nat.le_of_ble_eq_true rfl, Nat.le_of_ble_eq_true rfl⟩) hh hA (fun H locs en_1541 hw_1541 hh => ?_)
        obtain ⟨hI_1541, hu_1541, hx_1541⟩ := hw_1541
        have hf_1541 : ∀ c, (c ≠ 0 ∧ c ≠ 6 ∧ c ≠ 7 ∧ c ≠ 8 ∧ c ≠ 9 ∧ c ≠ 12 ∧ c ≠ 13) → en_1541 c = en c := fun c hc => (hu_1541 c (by omega)).trans (hf_1540 c hc)
        have hkp_1541 : KP en en_1541 := KP_tr hkp_1540 hx_1541.2
        have hg_1541 : frS en_1541 = FRF9 en N_1538 (R N_1538) := (show frS en_1541 = FRF9 en_1540 N_1538 (R N_1538) from hx_1541.1).trans (FRF9_c (hu_1540 0 (by omega)) (hu_1540 1 (by omega)) (hu_1540 2 (by omega)) (hu_1540 13 (by omega)))
        refine lv_aload_n hx hb dX12_ring_44 rfl (lv_at hl 0 rfl) ?_
        obtain ⟨fa_1542, hi_1542, wd_1542, mo_1542, tb_1542, dp_1542, many_1542, grt_1542, lst_1542, nou_1542, rm_1542, rb_1542, pr_1542, wo_1542, es1542, p0_1542, p1_1542, p2_1542, p3_1542, p4_1542⟩ := getr_M hI_1541
        have hq2_1543 : wd_1542 = wd := n_eq ((show nI wd_1542 = rdI (en_1541 0) 2 from by rw [es1542]; rfl).trans (hkp_1541.2.1.trans (show rdI (en 0) 2 = nI wd from by rw [es1537]; rfl))) (by omega) (by omega)
        have hq3_1543 : mo_1542 = mo := n_eq ((show nI mo_1542 = rdI (en_1541 0) 3 from by rw [es1542]; rfl).trans (hkp_1541.2.2.1.trans (show rdI (en 0) 3 = nI mo from by rw [es1537]; rfl))) (by omega) (by omega)
        have hq4_1543 : tb_1542 = tb := n_eq ((show nI tb_1542 = rdI (en_1541 0) 4 from by rw [es1542]; rfl).trans (hkp_1541.2.2.2.1.trans (show rdI (en 0) 4 = nI tb from by rw [es1537]; rfl))) (by omega) (by omega)
        have hq30_1543 : wo_1542 = wo := n_eq ((show nI wo_1542 = rdI (en_1541 0) 30 from by rw [es1542]; rfl).trans (hkp_1541.2.2.2.2.2.trans (show rdI (en 0) 30 = nI wo from by rw [es1537]; rfl))) (by omega) (by omega)
        rw [hq2_1543, hq3_1543, hq4_1543, hq30_1543] at es1542
        refine hp_get hx hb hts ix12 hown hK hh (q := 0) rfl (hI.1 _ (by decide)) es1542 rfl 22 (by decide) (hts _ tw_901) (fun _ h9 => h9) rfl dX12_ring_45 ?_
        refine lv_if_ne (tgt := 56) hx hb dX12_ring_48 (by decide) (fun c_1544 => ?_) (fun c_1544 => ?_)
        · refine lv_aload_n hx hb dX12_ring_56 rfl (lv_at hl 0 rfl) ?_
          refine hp_get hx hb hts ix12 hown hK hh (q := 0) rfl (hI.1 _ (by decide)) es1542 rfl 24 (by decide) (hts _ tw_903) (fun _ h9 => h9) rfl dX12_ring_57 ?_
          refine lv_iload_n hx hb dX12_ring_60 rfl (lv_at hl 2 rfl) ?_
          obtain ⟨f_1545, es1545⟩ := getr_rw hI_1541
          refine hp_iald hx hb hK hh (q := 13) rfl (hI.1 _ (by decide)) es1545 (vp_in_nI (n := N_1539) (by omega) (by decide)) dX12_ring_61 ?_
          rw [nI_clamp (n := N_1539) (by omega)]
          exact hp_iretM hx hb hr rfl hlocks hh (⟨hI_1541, hf_1541, ⟨R, hR, Or.inr ⟨N_1538, N_1539, rfl, rfl, by omega, by omega, by omega, Or.inr ⟨hy_1540, by unfold pickR; rw [← hg_1541, if_neg (fun q => c_1544 ((show (frS en_1541).1 = rm_1542 from by show rdI (en_1541 0) 22 = _; rw [es1542]; rfl).symm.trans q))]; show _ = rdF (en_1541 13) N_1539; rw [es1545]; rfl⟩⟩⟩, hkp_1541⟩) dX12_ring_62
        · refine lv_bipush (v := (-9)) hx hb dX12_ring_51 (by decide) ?_
          refine lv_goto (tgt := 62) hx hb dX12_ring_53 (by decide) ?_
          exact hp_iretM hx hb hr rfl hlocks hh (⟨hI_1541, hf_1541, ⟨R, hR, Or.inr ⟨N_1538, N_1539, rfl, rfl, by omega, by omega, by omega, Or.inr ⟨hy_1540, by unfold pickR; rw [← hg_1541, if_pos ((show (frS en_1541).1 = rm_1542 from by show rdI (en_1541 0) 22 = _; rw [es1542]; rfl).trans c_1544)]⟩⟩⟩, hkp_1541⟩) dX12_ring_62
    · obtain rfl : r_1539 = 0 := Eq.trans hw_1539 (if_neg (fun q => hp_1539 ((wj_m1 (by omega)).mp q)))
      refine lv_if_ne (tgt := 28) hx hb dX12_ring_22 (by decide) (fun c_0 => absurd c_0 (by decide)) (fun _ => ?_)
      refine lv_bipush (v := (-2)) hx hb dX12_ring_25 (by decide) ?_
      exact hp_iretM hx hb hr rfl hlocks hh (⟨hI, hf0, ⟨R, hR, Or.inl ⟨Or.inr ⟨N_1538, rfl, by omega, hp_1539⟩, rfl⟩⟩, (KP_rf en)⟩) dX12_ring_27
  · obtain rfl : r_1538 = 0 := Eq.trans hw_1538 (if_neg (fun q => hp_1538 ((wj_32 (by decide) (by decide)).mp q)))
    refine lv_if_eq (tgt := 25) hx hb dX12_ring_9 (by decide) (fun _ => ?_) (fun c_0 => absurd c_0 (by decide))
    refine lv_bipush (v := (-2)) hx hb dX12_ring_25 (by decide) ?_
    exact hp_iretM hx hb hr rfl hlocks hh (⟨hI, hf0, ⟨R, hR, Or.inl ⟨Or.inl hp_1538, rfl⟩⟩, (KP_rf en)⟩) dX12_ring_27
theorem kw_X12_ring {R : Room} {s : State} {args : Array Value} {own : String} {idx : Nat} (hts : ∀ w ∈ TB, w.before args s = true) (hl : Cond.methodLink own idx yX12_ring ∈ TB) (hR : 4 + 1 ≤ R.frames ∧ 8 + (3 + 11) + 40 * 4 ≤ R.locals) : CallW R s args own RX12 idx yX12_ring cX12_ring 3 (some .int) (Cond.code yX12_ring cX12_ring 3 (some .int) :: TB) (rmN 4) 0 0 2 := cwV 2 hts (TB_V hl tw_1102 tw_1103 tw_9 tw_1104) rfl rfl rfl (by decide +kernel) hR
set_option maxHeartbeats 4000000 in
set_option maxRecDepth 100000 in
/-- power -/
theorem c_X12_power (l : Launch) (D : va_G) (cy : Nat → ClassId) (sz : Nat) (cs : List Nat) (ad : Nat → Nat) (en : Nat → va_E) (hI : RX cy cs ad en) (v : Int64) (n : Nat) (hn8 : n ≤ 8)   : Met l yX12_power (Cond.code yX12_power cX12_power 6 (some .long) :: TB) (rmN 0) (va_Pc [.long v, .int (nI n)] (Pre D cy cs ad en sz)) (va_Ql (S := Unit) (fun r _ => r = pwR v n) (fun _ _ => True) (Nf sz)) 0 0 (Nf sz) := by
  refine Met.ofW (cc := cX12_power) (maxL := 6) (ret := (some .long)) (by decide) rfl ?_
  intro p e s m args below meth c s₁ B hml hv
  obtain ⟨rfl, hsz, hP, hK, hD0⟩ := hv
  have hx := B.exec
  have hb := B.bytes
  have hr := B.returns
  have hts : ∀ w ∈ TB, w.before _ s = true := fun w h => atoms_spec (ws := _ :: TB) B.pre w (List.mem_cons_of_mem _ h)
  have hown : s.vm.findClass RX12 = some m.cls := findClass_of_methodNamed B.named
  have hlocks := B.notSynchronized
  have hh : Hp D (Nf sz) (fun _ => True) s.heap s.heap [] cs ad en := ⟨hP, hD0, va_S.rf⟩
  have hA : ∀ q : Nat, s.heap.size ≤ q → Nf sz q := fun q h => by rw [hsz] at h; exact h
  have hl := lv_entry ([.long v, .int (nI n)]) (n := 6) (Nat.le_of_ble_eq_true rfl)
  rw [lg_entry_eq]
  generalize (lg_sl ([.long v, .int (nI n)]) ++ List.replicate (6 - (lg_sl ([.long v, .int (nI n)])).length) Slot.unset).toArray = ls at hl ⊢
  have hl : lv_has ls 6 [(0, .long v), (2, .int (nI n))] := hl
  refine lv_lconst (v := 1) hx hb dX12_power_0 (by decide) ?_
  refine lv_lstore_n (lv' := [(3, .long 1), (0, .long v), (2, .int (nI n))]) hx hb dX12_power_1 rfl hl (by decide) rfl (fun ls hl => ?_)
  refine lv_iconst (v := 0) hx hb dX12_power_2 (by decide) ?_
  refine lv_istore (lv' := [(5, .int 0), (3, .long 1), (0, .long v), (2, .int (nI n))]) hx hb dX12_power_3 hl (by decide) rfl (fun ls hl => ?_)
  have loop_1546 : ∀ (fu j1546 : Nat) (pw1546 : Int64)  (ls : Array Slot) (H : Heap) (locs : List Loc), 0 ≤ j1546 → j1546 ≤ n → n < j1546 + fu →  (pw1546 = pwR v j1546) → lv_has ls 6 [(5, .int (nI j1546)), (3, .long pw1546), (0, .long v), (2, .int (nI n))] → Hp D (Nf sz) (fun _ => True) s.heap H locs cs ad en → W p l e (headSpec (Cond.code yX12_power cX12_power 6 (some .long) :: TB) (rmN 0)).room s m ([.long v, .int (nI n)] : List Value).toArray below meth c H locs 0 0 (MQ below (va_Ql (S := Unit) (fun r _ => r = pwR v n) (fun _ _ => True) (Nf sz)) ([.long v, .int (nI n)] : List Value).toArray s 0 0 (Nf sz)) (F0 m 5 ls []) := by
    intro fu
    induction fu with
    | zero => intro j1546 pw1546 ls H locs h0 h1 h2; exact absurd h2 (by omega)
    | succ fu ih_1546 =>
      intro j1546 pw1546 ls H locs hj0_1546 hj_1546 hfu_1546 i0_1546 hl hh
      refine lv_iload hx hb dX12_power_5 (lv_at hl 0 rfl) ?_
      refine lv_iload_n hx hb dX12_power_7 rfl (lv_at hl 3 rfl) ?_
      refine lv_icmp_ge (tgt := 21) hx hb dX12_power_8 (by decide) (fun c_1547 => ?_) (fun c_1547 => ?_)
      · have n_1547 : n ≤ j1546 := n_le (a := n) (b := j1546) c_1547 (by omega) (by omega)
        refine lv_lload_n hx hb dX12_power_21 rfl (lv_at hl 1 rfl) ?_
        exact hp_lretR hx hb hr hlocks hsz hh (by have e9 : j1546 = n := (by omega); rw [e9] at i0_1546; exact i0_1546) dX12_power_22
      · have n_1547 : j1546 < n := n_nle (a := n) (b := j1546) c_1547 (by omega) (by omega)
        refine lv_lload_n hx hb dX12_power_11 rfl (lv_at hl 1 rfl) ?_
        refine lv_lload_n hx hb dX12_power_12 rfl (lv_at hl 2 rfl) ?_
        refine lv_lmul hx hb dX12_power_13 ?_
        refine lv_lstore_n (lv' := [(3, .long (pw1546 * v)), (5, .int (nI j1546)), (0, .long v), (2, .int (nI n))]) hx hb dX12_power_14 rfl hl (by decide) rfl (fun ls hl => ?_)
        refine lv_iinc (v := (nI (j1546 + 1))) (lv' := [(5, .int (nI (j1546 + 1))), (3, .long (pw1546 * v)), (0, .long v), (2, .int (nI n))]) hx hb dX12_power_15 hl (k := 1) rfl (nI_1 _) (by decide) rfl (fun ls hl => ?_)
        refine lv_goto (tgt := 5) hx hb dX12_power_18 (by decide) ?_
        exact ih_1546 ((j1546 + 1)) (pw1546 * v) ls H locs (by omega) (by omega) (by omega) (by rw [i0_1546]; rfl) (lv_sub hl [0, 1, 2, 3] rfl) hh
  exact loop_1546 (n + 1) 0 1 ls _ _ (Nat.le_refl _) (by omega) (by omega) (rfl) (lv_sub hl [0, 1, 2, 3] rfl) hh
theorem kw_X12_power {R : Room} {s : State} {args : Array Value} {idx : Nat} (hts : ∀ w ∈ TB, w.before args s = true) (hl : Cond.methodLink RX12 idx yX12_power ∈ TB) (hR : 0 + 1 ≤ R.frames ∧ 8 + (6 + 11) + 40 * 0 ≤ R.locals) : CallB R s args RX12 idx yX12_power cX12_power 6 (some .long) (Cond.code yX12_power cX12_power 6 (some .long) :: TB) (rmN 0) 0 0 2 ∧ (Cond.static yX12_power).before args s = true := cwS 2 hts (TB_S hl tw_1111 tw_9 tw_1112) rfl rfl rfl (by decide +kernel) hR
set_option maxHeartbeats 4000000 in
set_option maxRecDepth 100000 in
/-- growth -/
theorem c_X12_growth (l : Launch) (D : va_G) (cy : Nat → ClassId) (sz : Nat) (cs : List Nat) (ad : Nat → Nat) (en : Nat → va_E) (hI : RX cy cs ad en) (a9 b9 n9 : Int32)   : Met l yX12_growth (Cond.code yX12_growth cX12_growth 7 (some .int) :: TB) (rmN 4) (va_Pc [.ref (ad 0), .int a9, .int b9, .int n9] (Pre D cy cs ad en sz)) (va_Qi (S := Nat → va_E) (fun r en1 => RX cy cs ad en1 ∧ (∀ c, (c ≠ 0 ∧ c ≠ 6 ∧ c ≠ 7 ∧ c ≠ 8 ∧ c ≠ 9) → en1 c = en c) ∧ RGW a9 b9 n9 r en ∧ KP en en1) (PostM D cs ad) (Af cs ad sz)) 0 0 (Af cs ad sz) := by
  refine Met.ofW (cc := cX12_growth) (maxL := 7) (ret := (some .int)) (by decide) rfl ?_
  intro p e s m args below meth c s₁ B hml hv
  obtain ⟨rfl, hsz, hP, hK, hD0⟩ := hv
  have hx := B.exec
  have hb := B.bytes
  have hr := B.returns
  have hts : ∀ w ∈ TB, w.before _ s = true := fun w h => atoms_spec (ws := _ :: TB) B.pre w (List.mem_cons_of_mem _ h)
  have hown : s.vm.findClass RX12 = some m.cls := findClass_of_methodNamed B.named
  have hlocks := B.notSynchronized
  have hh : Hp D (Af cs ad sz) (Af cs ad sz) s.heap s.heap [] cs ad en := ⟨hP, Af_self hD0, va_S.rf⟩
  have hA : ∀ q : Nat, s.heap.size ≤ q → Af cs ad sz q := fun q h => Or.inr (by rw [hsz] at h; exact h)
  have hl := lv_entry ([.ref (ad 0), .int a9, .int b9, .int n9]) (n := 7) (Nat.le_of_ble_eq_true rfl)
  rw [lg_entry_eq]
  generalize (lg_sl ([.ref (ad 0), .int a9, .int b9, .int n9]) ++ List.replicate (7 - (lg_sl ([.ref (ad 0), .int a9, .int b9, .int n9])).length) Slot.unset).toArray = ls at hl ⊢
  have hl : lv_has ls 7 [(0, .ref (ad 0)), (1, .int a9), (2, .int b9), (3, .int n9)] := hl
  have hf0 : ∀ c, (c ≠ 0 ∧ c ≠ 6 ∧ c ≠ 7 ∧ c ≠ 8 ∧ c ≠ 9) → en c = en c := fun _ _ => rfl
  obtain ⟨fa, hi, wd, mo, tb, dp, many, grt, lst, nou, rm, rb, pr, wo, es1548, hwd2, hwd3, hmo, htb, hwo⟩ := getr_M hI
  refine lv_iload_n hx hb dX12_growth_0 rfl (lv_at hl 1 rfl) ?_
  refine lv_i2l hx hb dX12_growth_1 rfl ?_
  refine lv_lconst (v := 1) hx hb dX12_growth_2 (by decide) ?_
  refine lv_ldc2 hx hb hown (hts _ tw_1002) dX12_growth_3 ?_
  refine hp_callRi (va_runS (As := [.long a9.toInt64, .long 1, .long 9]) (rest := []) ⟨hx, hb, hml, hown, hts⟩ (c_X12_within l D cy _ cs ad en a9.toInt64 1 9) (kw_X12_within hts tw_985 ⟨by decide, by decide⟩) (preS_of hh hK) rfl rfl hl.1 rfl (lv_room (Nat.le_of_ble_eq_true rfl)) dX12_growth_6 ⟨Nat.le_of_ble_eq_true rfl, Nat.le_of_ble_eq_true rfl⟩) hh hA (fun r_1549 H locs hw_1549 hh => ?_)
  rcases Decidable.em (wi a9 1 9) with hp_1549 | hp_1549
  · obtain rfl : r_1549 = 1 := Eq.trans hw_1549 (if_pos ((wj_32 (by decide) (by decide)).mpr hp_1549))
    obtain ⟨N_1549, rfl, hA_1549, hB_1549⟩ := wi_natB hp_1549 1 9 (by decide) (by decide)
    refine lv_if_eq (tgt := 36) hx hb dX12_growth_9 (by decide) (fun c_0 => absurd c_0 (by decide)) (fun _ => ?_)
    refine lv_iload_n hx hb dX12_growth_12 rfl (lv_at hl 2 rfl) ?_
    refine lv_i2l hx hb dX12_growth_13 rfl ?_
    refine lv_lconst (v := 1) hx hb dX12_growth_14 (by decide) ?_
    refine lv_ldc2 hx hb hown (hts _ tw_1002) dX12_growth_15 ?_
    refine hp_callRi (va_runS (As := [.long b9.toInt64, .long 1, .long 9]) (rest := []) ⟨hx, hb, hml, hown, hts⟩ (c_X12_within l D cy _ cs ad en b9.toInt64 1 9) (kw_X12_within hts tw_985 ⟨by decide, by decide⟩) (preS_of hh hK) rfl rfl hl.1 rfl (lv_room (Nat.le_of_ble_eq_true rfl)) dX12_growth_18 ⟨Nat.le_of_ble_eq_true rfl, Nat.le_of_ble_eq_true rfl⟩) hh hA (fun r_1550 H locs hw_1550 hh => ?_)
    rcases Decidable.em (wi b9 1 9) with hp_1550 | hp_1550
    · obtain rfl : r_1550 = 1 := Eq.trans hw_1550 (if_pos ((wj_32 (by decide) (by decide)).mpr hp_1550))
      obtain ⟨N_1550, rfl, hA_1550, hB_1550⟩ := wi_natB hp_1550 1 9 (by decide) (by decide)
      refine lv_if_eq (tgt := 36) hx hb dX12_growth_21 (by decide) (fun c_0 => absurd c_0 (by decide)) (fun _ => ?_)
      refine lv_iload_n hx hb dX12_growth_24 rfl (lv_at hl 3 rfl) ?_
      refine lv_i2l hx hb dX12_growth_25 rfl ?_
      refine lv_lconst (v := 1) hx hb dX12_growth_26 (by decide) ?_
      refine lv_ldc2 hx hb hown (hts _ tw_1109) dX12_growth_27 ?_
      refine hp_callRi (va_runS (As := [.long n9.toInt64, .long 1, .long 7]) (rest := []) ⟨hx, hb, hml, hown, hts⟩ (c_X12_within l D cy _ cs ad en n9.toInt64 1 7) (kw_X12_within hts tw_985 ⟨by decide, by decide⟩) (preS_of hh hK) rfl rfl hl.1 rfl (lv_room (Nat.le_of_ble_eq_true rfl)) dX12_growth_30 ⟨Nat.le_of_ble_eq_true rfl, Nat.le_of_ble_eq_true rfl⟩) hh hA (fun r_1551 H locs hw_1551 hh => ?_)
      rcases Decidable.em (wi n9 1 7) with hp_1551 | hp_1551
      · obtain rfl : r_1551 = 1 := Eq.trans hw_1551 (if_pos ((wj_32 (by decide) (by decide)).mpr hp_1551))
        obtain ⟨N_1551, rfl, hA_1551, hB_1551⟩ := wi_natB hp_1551 1 7 (by decide) (by decide)
        refine lv_if_ne (tgt := 39) hx hb dX12_growth_33 (by decide) (fun _ => ?_) (fun c_0 => absurd c_0 (by decide))
        refine lv_aload_n hx hb dX12_growth_39 rfl (lv_at hl 0 rfl) ?_
        refine hp_get hx hb hts ix12 hown hK hh (q := 0) rfl (hI.1 _ (by decide)) es1548 rfl 3 (by decide) (hts _ tw_882) (fun _ h9 => h9) rfl dX12_growth_40 ?_
        refine lv_if_gt (tgt := 53) hx hb dX12_growth_43 (by decide) (fun c_1552 => ?_) (fun c_1552 => ?_)
        · have n_1552 : 0 < mo := n_lt (a := 0) (b := mo) c_1552 (by decide) (by omega)
          refine lv_bipush (v := (-3)) hx hb dX12_growth_53 (by decide) ?_
          exact hp_iretM hx hb hr rfl hlocks hh (⟨hI, hf0, Or.inr ⟨N_1549, N_1550, N_1551, rfl, rfl, rfl, by omega, by omega, by omega, by omega, by omega, by omega, Or.inl ⟨Or.inl (by rw [show rdI (en 0) 3 = nI mo from by rw [es1548]; rfl, nI_toInt (n := mo) (by omega)]; omega), rfl⟩⟩, (KP_rf en)⟩) dX12_growth_55
        · have n_1552 : mo ≤ 0 := n_nlt (a := 0) (b := mo) c_1552 (by decide) (by omega)
          refine lv_aload_n hx hb dX12_growth_46 rfl (lv_at hl 0 rfl) ?_
          refine hp_get hx hb hts ix12 hown hK hh (q := 0) rfl (hI.1 _ (by decide)) es1548 rfl 4 (by decide) (hts _ tw_883) (fun _ h9 => h9) rfl dX12_growth_47 ?_
          refine lv_if_ne (tgt := 56) hx hb dX12_growth_50 (by decide) (fun c_1553 => ?_) (fun c_1553 => ?_)
          · have n_1553 : tb ≠ 0 := n_neq (a := tb) (b := 0) c_1553 (by omega) (by decide)
            refine lv_iconst (v := 1) hx hb dX12_growth_56 (by decide) ?_
            refine lv_istore (lv' := [(4, .int 1), (0, .ref (ad 0)), (1, .int (nI N_1549)), (2, .int (nI N_1550)), (3, .int (nI N_1551))]) hx hb dX12_growth_57 hl (by decide) rfl (fun ls hl => ?_)
            have loop_1554 : ∀ (fu j1554 : Nat)  (en_1554 : Nat → va_E) (ls : Array Slot) (H : Heap) (locs : List Loc), 1 ≤ j1554 → j1554 ≤ (N_1551 + 1) → (N_1551 + 1) < j1554 + fu → RX cy cs ad en_1554 → (∀ c, (c ≠ 0 ∧ c ≠ 6 ∧ c ≠ 7 ∧ c ≠ 8 ∧ c ≠ 9) → en_1554 c = en c) → (∀ q, 1 ≤ q → q < j1554 → ¬ 20000 < SPN en q) → (KP en en_1554) → lv_has ls 7 [(4, .int (nI j1554)), (0, .ref (ad 0)), (1, .int (nI N_1549)), (2, .int (nI N_1550)), (3, .int (nI N_1551))] → Hp D (Af cs ad sz) (Af cs ad sz) s.heap H locs cs ad en_1554 → W p l e (headSpec (Cond.code yX12_growth cX12_growth 7 (some .int) :: TB) (rmN 4)).room s m ([.ref (ad 0), .int (nI N_1549), .int (nI N_1550), .int (nI N_1551)] : List Value).toArray below meth c H locs 0 0 (MQ below (va_Qi (S := Nat → va_E) (fun r en1 => RX cy cs ad en1 ∧ (∀ c, (c ≠ 0 ∧ c ≠ 6 ∧ c ≠ 7 ∧ c ≠ 8 ∧ c ≠ 9) → en1 c = en c) ∧ RGW (nI N_1549) (nI N_1550) (nI N_1551) r en ∧ KP en en1) (PostM D cs ad) (Af cs ad sz)) ([.ref (ad 0), .int (nI N_1549), .int (nI N_1550), .int (nI N_1551)] : List Value).toArray s 0 0 (Af cs ad sz)) (F0 m 59 ls []) := by
              intro fu
              induction fu with
              | zero => intro j1554  en_1554 ls H locs h0 h1 h2; exact absurd h2 (by omega)
              | succ fu ih_1554 =>
                intro j1554  en_1554 ls H locs hj0_1554 hj_1554 hfu_1554 hI_1554 hf_1554 i0_1554 i1_1554 hl hh
                refine lv_iload hx hb dX12_growth_59 (lv_at hl 0 rfl) ?_
                refine lv_iload_n hx hb dX12_growth_61 rfl (lv_at hl 4 rfl) ?_
                refine lv_icmp_gt (tgt := 83) hx hb dX12_growth_62 (by decide) (fun c_1555 => ?_) (fun c_1555 => ?_)
                · have n_1555 : N_1551 < j1554 := n_lt (a := N_1551) (b := j1554) c_1555 (by omega) (by omega)
                  refine lv_iconst (v := 0) hx hb dX12_growth_83 (by decide) ?_
                  refine lv_istore (lv' := [(4, .int 0), (0, .ref (ad 0)), (1, .int (nI N_1549)), (2, .int (nI N_1550)), (3, .int (nI N_1551))]) hx hb dX12_growth_84 hl (by decide) rfl (fun ls hl => ?_)
                  refine lv_iconst (v := 1) hx hb dX12_growth_86 (by decide) ?_
                  refine lv_istore (lv' := [(5, .int 1), (4, .int 0), (0, .ref (ad 0)), (1, .int (nI N_1549)), (2, .int (nI N_1550)), (3, .int (nI N_1551))]) hx hb dX12_growth_87 hl (by decide) rfl (fun ls hl => ?_)
                  have loop_1556 : ∀ (fu j1556 : Nat) (be1556 : Int32) (en_1556 : Nat → va_E) (ls : Array Slot) (H : Heap) (locs : List Loc), 1 ≤ j1556 → j1556 ≤ (N_1551 + 1) → (N_1551 + 1) < j1556 + fu → RX cy cs ad en_1556 → (∀ c, (c ≠ 0 ∧ c ≠ 6 ∧ c ≠ 7 ∧ c ≠ 8 ∧ c ≠ 9) → en_1556 c = en c) → (GO9 en N_1549 N_1550 j1556 be1556) → (KP en en_1556) → lv_has ls 7 [(5, .int (nI j1556)), (4, .int be1556), (0, .ref (ad 0)), (1, .int (nI N_1549)), (2, .int (nI N_1550)), (3, .int (nI N_1551))] → Hp D (Af cs ad sz) (Af cs ad sz) s.heap H locs cs ad en_1556 → W p l e (headSpec (Cond.code yX12_growth cX12_growth 7 (some .int) :: TB) (rmN 4)).room s m ([.ref (ad 0), .int (nI N_1549), .int (nI N_1550), .int (nI N_1551)] : List Value).toArray below meth c H locs 0 0 (MQ below (va_Qi (S := Nat → va_E) (fun r en1 => RX cy cs ad en1 ∧ (∀ c, (c ≠ 0 ∧ c ≠ 6 ∧ c ≠ 7 ∧ c ≠ 8 ∧ c ≠ 9) → en1 c = en c) ∧ RGW (nI N_1549) (nI N_1550) (nI N_1551) r en ∧ KP en en1) (PostM D cs ad) (Af cs ad sz)) ([.ref (ad 0), .int (nI N_1549), .int (nI N_1550), .int (nI N_1551)] : List Value).toArray s 0 0 (Af cs ad sz)) (F0 m 89 ls []) := by
                    intro fu
                    induction fu with
                    | zero => intro j1556 be1556 en_1556 ls H locs h0 h1 h2; exact absurd h2 (by omega)
                    | succ fu ih_1556 =>
                      intro j1556 be1556 en_1556 ls H locs hj0_1556 hj_1556 hfu_1556 hI_1556 hf_1556 i0_1556 i1_1556 hl hh
                      refine lv_iload hx hb dX12_growth_89 (lv_at hl 0 rfl) ?_
                      refine lv_iload_n hx hb dX12_growth_91 rfl (lv_at hl 5 rfl) ?_
                      refine lv_icmp_gt (tgt := 220) hx hb dX12_growth_92 (by decide) (fun c_1557 => ?_) (fun c_1557 => ?_)
                      · have n_1557 : N_1551 < j1556 := n_lt (a := N_1551) (b := j1556) c_1557 (by omega) (by omega)
                        refine lv_iload hx hb dX12_growth_220 (lv_at hl 1 rfl) ?_
                        refine lv_if_eq (tgt := 229) hx hb dX12_growth_222 (by decide) (fun c_1558 => ?_) (fun c_1558 => ?_)
                        · refine lv_iconst (v := 0) hx hb dX12_growth_229 (by decide) ?_
                          exact hp_iretM hx hb hr rfl hlocks hh (⟨hI_1556, hf_1556, Or.inr ⟨N_1549, N_1550, N_1551, rfl, rfl, rfl, by omega, by omega, by omega, by omega, by omega, by omega, Or.inr ⟨⟨by rw [show rdI (en 0) 3 = nI mo from by rw [es1548]; rfl, nI_toInt (n := mo) (by omega)]; omega, fun q => n_1553 (n_eq (b := 0) ((show rdI (en 0) 4 = nI tb from by rw [es1548]; rfl).symm.trans q) (by omega) (by decide))⟩, Or.inr ⟨fun q h1 h2 => i0_1554 q h1 (by omega), (GO9_e (by have h9 := i0_1556; rw [show j1556 = N_1551 + 1 by omega] at h9; exact h9)).1 c_1558⟩⟩⟩, i1_1556⟩) dX12_growth_230
                        · refine lv_iconst (v := (-1)) hx hb dX12_growth_225 (by decide) ?_
                          refine lv_goto (tgt := 230) hx hb dX12_growth_226 (by decide) ?_
                          exact hp_iretM hx hb hr rfl hlocks hh (⟨hI_1556, hf_1556, Or.inr ⟨N_1549, N_1550, N_1551, rfl, rfl, rfl, by omega, by omega, by omega, by omega, by omega, by omega, Or.inr ⟨⟨by rw [show rdI (en 0) 3 = nI mo from by rw [es1548]; rfl, nI_toInt (n := mo) (by omega)]; omega, fun q => n_1553 (n_eq (b := 0) ((show rdI (en 0) 4 = nI tb from by rw [es1548]; rfl).symm.trans q) (by omega) (by decide))⟩, Or.inr ⟨fun q h1 h2 => i0_1554 q h1 (by omega), (GO9_e (by have h9 := i0_1556; rw [show j1556 = N_1551 + 1 by omega] at h9; exact h9)).2 c_1558⟩⟩⟩, i1_1556⟩) dX12_growth_230
                      · have n_1557 : j1556 ≤ N_1551 := n_nlt (a := N_1551) (b := j1556) c_1557 (by omega) (by omega)
                        refine lv_iconst (v := 1) hx hb dX12_growth_95 (by decide) ?_
                        refine lv_istore (lv' := [(6, .int 1), (5, .int (nI j1556)), (4, .int be1556), (0, .ref (ad 0)), (1, .int (nI N_1549)), (2, .int (nI N_1550)), (3, .int (nI N_1551))]) hx hb dX12_growth_96 hl (by decide) rfl (fun ls hl => ?_)
                        refine lv_aload_n hx hb dX12_growth_98 rfl (lv_at hl 3 rfl) ?_
                        obtain ⟨fa_1559, hi_1559, wd_1559, mo_1559, tb_1559, dp_1559, many_1559, grt_1559, lst_1559, nou_1559, rm_1559, rb_1559, pr_1559, wo_1559, es1559, p0_1559, p1_1559, p2_1559, p3_1559, p4_1559⟩ := getr_M hI_1556
                        have hq2_1560 : wd_1559 = wd := n_eq ((show nI wd_1559 = rdI (en_1556 0) 2 from by rw [es1559]; rfl).trans (i1_1556.2.1.trans (show rdI (en 0) 2 = nI wd from by rw [es1548]; rfl))) (by omega) (by omega)
                        have hq3_1560 : mo_1559 = mo := n_eq ((show nI mo_1559 = rdI (en_1556 0) 3 from by rw [es1559]; rfl).trans (i1_1556.2.2.1.trans (show rdI (en 0) 3 = nI mo from by rw [es1548]; rfl))) (by omega) (by omega)
                        have hq4_1560 : tb_1559 = tb := n_eq ((show nI tb_1559 = rdI (en_1556 0) 4 from by rw [es1559]; rfl).trans (i1_1556.2.2.2.1.trans (show rdI (en 0) 4 = nI tb from by rw [es1548]; rfl))) (by omega) (by omega)
                        have hq30_1560 : wo_1559 = wo := n_eq ((show nI wo_1559 = rdI (en_1556 0) 30 from by rw [es1559]; rfl).trans (i1_1556.2.2.2.2.2.trans (show rdI (en 0) 30 = nI wo from by rw [es1548]; rfl))) (by omega) (by omega)
                        rw [hq2_1560, hq3_1560, hq4_1560, hq30_1560] at es1559
                        refine hp_callMv (va_runV (As := []) (rest := []) ⟨hx, hb, hml, hown, hts⟩ (c_X12_beginWords l D cy _ cs ad en_1556 hI_1556  ) (kw_X12_beginWords hts tw_1038 ⟨by decide, by decide⟩) (preV_of hh hK (hI.1 _ (by decide)) es1559 rfl) rfl rfl hl.1 rfl (lv_room (Nat.le_of_ble_eq_true rfl)) dX12_growth_99 ⟨Nat.le_of_ble_eq_true rfl, Nat.le_of_ble_eq_true rfl⟩) hh hA (fun H locs en_1561 hw_1561 hh => ?_)
                        obtain ⟨hI_1561, hu_1561, hd0_1561, hg0_1561, hbl_1561, hx_1561⟩ := hw_1561
                        have hND_1561 : ND en_1561 j1556 0 0 := ⟨by omega, Or.inl hd0_1561, fun i h => absurd h (Nat.not_lt_zero i), by rw [hg0_1561]; decide, by omega⟩
                        have hf_1561 : ∀ c, (c ≠ 0 ∧ c ≠ 6 ∧ c ≠ 7 ∧ c ≠ 8 ∧ c ≠ 9) → en_1561 c = en c := fun c hc => (hu_1561 c (by omega)).trans (hf_1556 c hc)
                        have hkp_1561 : KP en en_1561 := KP_tr i1_1556 (KPg.kp hx_1561)
                        have loop_1562 : ∀ (fu mm1562 : Nat) (al1562 : Int32) (d1562 : Nat) (u1562 : Nat) (en_1562 : Nat → va_E) (ls : Array Slot) (H : Heap) (locs : List Loc), mm1562 < fu → RX cy cs ad en_1562 → (∀ c, (c ≠ 0 ∧ c ≠ 6 ∧ c ≠ 7 ∧ c ≠ 8 ∧ c ≠ 9) → en_1562 c = en c) → (ND en_1562 j1556 d1562 u1562) → (134217728 ≤ nmv (rdF (en_1562 7)) d1562 u1562 + mm1562) → (LVS en_1562 d1562) → (GI9 en N_1549 N_1550 j1556 (RM9 en_1562 j1556 d1562 u1562) al1562) → (KP en en_1562) → lv_has ls 7 [(6, .int al1562), (5, .int (nI j1556)), (4, .int be1556), (0, .ref (ad 0)), (1, .int (nI N_1549)), (2, .int (nI N_1550)), (3, .int (nI N_1551))] → Hp D (Af cs ad sz) (Af cs ad sz) s.heap H locs cs ad en_1562 → W p l e (headSpec (Cond.code yX12_growth cX12_growth 7 (some .int) :: TB) (rmN 4)).room s m ([.ref (ad 0), .int (nI N_1549), .int (nI N_1550), .int (nI N_1551)] : List Value).toArray below meth c H locs 0 0 (MQ below (va_Qi (S := Nat → va_E) (fun r en1 => RX cy cs ad en1 ∧ (∀ c, (c ≠ 0 ∧ c ≠ 6 ∧ c ≠ 7 ∧ c ≠ 8 ∧ c ≠ 9) → en1 c = en c) ∧ RGW (nI N_1549) (nI N_1550) (nI N_1551) r en ∧ KP en en1) (PostM D cs ad) (Af cs ad sz)) ([.ref (ad 0), .int (nI N_1549), .int (nI N_1550), .int (nI N_1551)] : List Value).toArray s 0 0 (Af cs ad sz)) (F0 m 102 ls []) := by
                          intro fu
                          induction fu with
                          | zero => intro mm1562 al1562 d1562 u1562 en_1562 ls H locs h2; exact absurd h2 (by omega)
                          | succ fu ih_1562 =>
                            intro mm1562 al1562 d1562 u1562 en_1562 ls H locs hmm_1562 hI_1562 hf_1562 i0_1562 i1_1562 i2_1562 i3_1562 i4_1562 hl hh
                            have hlt_1562 := nmv_lt i0_1562.2.2 (by have h9 := i0_1562.1; omega)
                            have hwd_1562 := i0_1562.1
                            refine lv_aload_n hx hb dX12_growth_102 rfl (lv_at hl 3 rfl) ?_
                            refine lv_iload hx hb dX12_growth_103 (lv_at hl 1 rfl) ?_
                            obtain ⟨fa_1563, hi_1563, wd_1563, mo_1563, tb_1563, dp_1563, many_1563, grt_1563, lst_1563, nou_1563, rm_1563, rb_1563, pr_1563, wo_1563, es1563, p0_1563, p1_1563, p2_1563, p3_1563, p4_1563⟩ := getr_M hI_1562
                            have hq2_1564 : wd_1563 = wd := n_eq ((show nI wd_1563 = rdI (en_1562 0) 2 from by rw [es1563]; rfl).trans (i4_1562.2.1.trans (show rdI (en 0) 2 = nI wd from by rw [es1548]; rfl))) (by omega) (by omega)
                            have hq3_1564 : mo_1563 = mo := n_eq ((show nI mo_1563 = rdI (en_1562 0) 3 from by rw [es1563]; rfl).trans (i4_1562.2.2.1.trans (show rdI (en 0) 3 = nI mo from by rw [es1548]; rfl))) (by omega) (by omega)
                            have hq4_1564 : tb_1563 = tb := n_eq ((show nI tb_1563 = rdI (en_1562 0) 4 from by rw [es1563]; rfl).trans (i4_1562.2.2.2.1.trans (show rdI (en 0) 4 = nI tb from by rw [es1548]; rfl))) (by omega) (by omega)
                            have hq30_1564 : wo_1563 = wo := n_eq ((show nI wo_1563 = rdI (en_1562 0) 30 from by rw [es1563]; rfl).trans (i4_1562.2.2.2.2.2.trans (show rdI (en 0) 30 = nI wo from by rw [es1548]; rfl))) (by omega) (by omega)
                            rw [hq2_1564, hq3_1564, hq4_1564, hq30_1564] at es1563
                            refine hp_callMi (va_runV (As := [.int (nI j1556)]) (rest := []) ⟨hx, hb, hml, hown, hts⟩ (c_X12_next l D cy _ cs ad en_1562 hI_1562 j1556 (by omega) (by omega) d1562 u1562 i0_1562 _ rfl i2_1562) (kw_X12_next hts tw_1046 ⟨by decide, by decide⟩) (preV_of hh hK (hI.1 _ (by decide)) es1563 rfl) rfl rfl hl.1 rfl (lv_room (Nat.le_of_ble_eq_true rfl)) dX12_growth_105 ⟨Nat.le_of_ble_eq_true rfl, Nat.le_of_ble_eq_true rfl⟩) hh hA (fun r_1565 H locs en_1565 hw_1565 hh => ?_)
                            obtain ⟨hI_1565, hu_1565, hx_1565, hkq_1565⟩ := hw_1565
                            have hf_1565 : ∀ c, (c ≠ 0 ∧ c ≠ 6 ∧ c ≠ 7 ∧ c ≠ 8 ∧ c ≠ 9) → en_1565 c = en c := fun c hc => (hu_1565 c (by omega)).trans (hf_1562 c hc)
                            have hkp_1565 : KP en en_1565 := KP_tr i4_1562 (KPg.kp hkq_1565)
                            rcases hx_1565 with ⟨hr_1565, hL_1565⟩ | ⟨hr_1565, u1_1565, hND_1565, hu1_1565, hnm_1565, hL_1565, hlv_1565⟩
                            · rw [hr_1565]
                              refine lv_if_eq (tgt := 207) hx hb dX12_growth_108 (by decide) (fun _ => ?_) (fun c_0 => absurd c_0 (by decide))
                              refine lv_iload hx hb dX12_growth_207 (lv_at hl 2 rfl) ?_
                              refine lv_iload hx hb dX12_growth_209 (lv_at hl 0 rfl) ?_
                              refine lv_ior hx hb dX12_growth_211 ?_
                              refine lv_istore (lv' := [(4, .int (be1556 ||| al1562)), (6, .int al1562), (5, .int (nI j1556)), (0, .ref (ad 0)), (1, .int (nI N_1549)), (2, .int (nI N_1550)), (3, .int (nI N_1551))]) hx hb dX12_growth_212 hl (by decide) rfl (fun ls hl => ?_)
                              refine lv_iinc (v := (nI (j1556 + 1))) (lv' := [(5, .int (nI (j1556 + 1))), (4, .int (be1556 ||| al1562)), (6, .int al1562), (0, .ref (ad 0)), (1, .int (nI N_1549)), (2, .int (nI N_1550)), (3, .int (nI N_1551))]) hx hb dX12_growth_214 hl (k := 2) rfl (nI_1 _) (by decide) rfl (fun ls hl => ?_)
                              refine lv_goto (tgt := 89) hx hb dX12_growth_217 (by decide) ?_
                              exact ih_1556 ((j1556 + 1)) (be1556 ||| al1562) en_1565 ls H locs (by omega) (by omega) (by omega) hI_1565 hf_1565 (GO9_s (by omega) i0_1556 (by have h9 := i3_1562; rw [show RM9 en_1562 j1556 d1562 u1562 = [] from hL_1565] at h9; exact h9)) (hkp_1565) (lv_sub hl [0, 1, 3, 4, 5, 6] rfl) hh
                            · rw [hr_1565]
                              have hall_1565 := NW_all hND_1565.2.2 (by omega) hu1_1565
                              have hlq_1565 : LVS en_1565 j1556 := LVS_of hlv_1565 (KPg.kp hkq_1565).2.1 (KPg.kp hkq_1565).2.2.1 (hu_1565 1 (by omega))
                              refine lv_if_eq (tgt := 207) hx hb dX12_growth_108 (by decide) (fun c_0 => absurd c_0 (by decide)) (fun _ => ?_)
                              have join_1566 : ∀  (en_1566 : Nat → va_E) (ls : Array Slot) (H : Heap) (locs : List Loc), RX cy cs ad en_1566 → (∀ c, (c ≠ 0 ∧ c ≠ 6 ∧ c ≠ 7 ∧ c ≠ 8 ∧ c ≠ 9) → en_1566 c = en c) → KP en en_1566 → SD en_1565 en_1566 → (¬ GP9 en N_1549 N_1550 j1556 (pre (nwF en_1565) j1556)) → lv_has ls 7 [(6, .int al1562), (5, .int (nI j1556)), (4, .int be1556), (0, .ref (ad 0)), (1, .int (nI N_1549)), (2, .int (nI N_1550)), (3, .int (nI N_1551))] → Hp D (Af cs ad sz) (Af cs ad sz) s.heap H locs cs ad en_1566 → W p l e (headSpec (Cond.code yX12_growth cX12_growth 7 (some .int) :: TB) (rmN 4)).room s m ([.ref (ad 0), .int (nI N_1549), .int (nI N_1550), .int (nI N_1551)] : List Value).toArray below meth c H locs 0 0 (MQ below (va_Qi (S := Nat → va_E) (fun r en1 => RX cy cs ad en1 ∧ (∀ c, (c ≠ 0 ∧ c ≠ 6 ∧ c ≠ 7 ∧ c ≠ 8 ∧ c ≠ 9) → en1 c = en c) ∧ RGW (nI N_1549) (nI N_1550) (nI N_1551) r en ∧ KP en en1) (PostM D cs ad) (Af cs ad sz)) ([.ref (ad 0), .int (nI N_1549), .int (nI N_1550), .int (nI N_1551)] : List Value).toArray s 0 0 (Af cs ad sz)) (F0 m 169 ls []) := by
                                intro  en_1566 ls H locs hI_1566 hf_1566 hkp_1566 hsd_1566 hj0_1566  hl hh
                                refine lv_iload hx hb dX12_growth_169 (lv_at hl 0 rfl) ?_
                                refine lv_aload_n hx hb dX12_growth_171 rfl (lv_at hl 3 rfl) ?_
                                refine lv_iload hx hb dX12_growth_172 (lv_at hl 1 rfl) ?_
                                obtain ⟨fa_1567, hi_1567, wd_1567, mo_1567, tb_1567, dp_1567, many_1567, grt_1567, lst_1567, nou_1567, rm_1567, rb_1567, pr_1567, wo_1567, es1567, p0_1567, p1_1567, p2_1567, p3_1567, p4_1567⟩ := getr_M hI_1566
                                have hq2_1568 : wd_1567 = wd := n_eq ((show nI wd_1567 = rdI (en_1566 0) 2 from by rw [es1567]; rfl).trans (hkp_1566.2.1.trans (show rdI (en 0) 2 = nI wd from by rw [es1548]; rfl))) (by omega) (by omega)
                                have hq3_1568 : mo_1567 = mo := n_eq ((show nI mo_1567 = rdI (en_1566 0) 3 from by rw [es1567]; rfl).trans (hkp_1566.2.2.1.trans (show rdI (en 0) 3 = nI mo from by rw [es1548]; rfl))) (by omega) (by omega)
                                have hq4_1568 : tb_1567 = tb := n_eq ((show nI tb_1567 = rdI (en_1566 0) 4 from by rw [es1567]; rfl).trans (hkp_1566.2.2.2.1.trans (show rdI (en 0) 4 = nI tb from by rw [es1548]; rfl))) (by omega) (by omega)
                                have hq30_1568 : wo_1567 = wo := n_eq ((show nI wo_1567 = rdI (en_1566 0) 30 from by rw [es1567]; rfl).trans (hkp_1566.2.2.2.2.2.trans (show rdI (en 0) 30 = nI wo from by rw [es1548]; rfl))) (by omega) (by omega)
                                rw [hq2_1568, hq3_1568, hq4_1568, hq30_1568] at es1567
                                refine hp_callRl (va_runV (As := [.int (nI j1556)]) (rest := [.int al1562]) ⟨hx, hb, hml, hown, hts⟩ (c_X12_normAt l D cy _ cs ad en_1566 hI_1566 j1556 (by omega)) (kw_X12_normAt hts tw_1058 ⟨by decide, by decide⟩) (preV_of hh hK (hI.1 _ (by decide)) es1567 rfl) rfl rfl hl.1 rfl (lv_room (Nat.le_of_ble_eq_true rfl)) dX12_growth_174 ⟨Nat.le_of_ble_eq_true rfl, Nat.le_of_ble_eq_true rfl⟩) hh hA (fun r_1569 H locs hw_1569 hh => ?_)
                                have hnq_1569 : r_1569 = nmW (rdI (en 0) 2).toNatClampNeg (rdI (en 0) 3).toNatClampNeg j1556 (rdF (en 1)) (pre (nwF en_1565) j1556) := by have h9 := nm_at (LVS_sd hlq_1565 (Nat.le_refl _) hsd_1566 (show rdI (en_1566 0) 2 = rdI (en_1565 0) 2 from (hkp_1566.2.1).trans (hkp_1565.2.1).symm) (show rdI (en_1566 0) 3 = rdI (en_1565 0) 3 from (hkp_1566.2.2.1).trans (hkp_1565.2.2.1).symm) ((hf_1566 1 (by omega)).trans (hf_1565 1 (by omega)).symm)) hw_1569; rw [nwF_sd hsd_1566, show rdI (en_1566 0) 2 = rdI (en 0) 2 from hkp_1566.2.1, show rdI (en_1566 0) 3 = rdI (en 0) 3 from hkp_1566.2.2.1, show rdF (en_1566 1) = rdF (en 1) from by rw [hf_1566 1 (by omega)]] at h9; exact h9
                                refine lv_iload_n hx hb dX12_growth_177 rfl (lv_at hl 5 rfl) ?_
                                refine lv_i2l hx hb dX12_growth_178 rfl ?_
                                refine lv_iload hx hb dX12_growth_179 (lv_at hl 1 rfl) ?_
                                refine hp_callRl (va_runS (As := [.long ((nI N_1550).toInt64), .int (nI j1556)]) (rest := [.long r_1569, .int al1562]) ⟨hx, hb, hml, hown, hts⟩ (c_X12_power l D cy _ cs ad en_1566 hI_1566 ((nI N_1550).toInt64) j1556 (by omega)) (kw_X12_power hts tw_1110 ⟨by decide, by decide⟩) (preS_of hh hK) rfl rfl hl.1 rfl (lv_room (Nat.le_of_ble_eq_true rfl)) dX12_growth_181 ⟨Nat.le_of_ble_eq_true rfl, Nat.le_of_ble_eq_true rfl⟩) hh hA (fun r_1570 H locs hw_1570 hh => ?_)
                                obtain rfl : r_1570 = (pwR ((nI N_1550).toInt64) j1556) := hw_1570
                                refine lv_lmul hx hb dX12_growth_184 ?_
                                refine lv_iload_n hx hb dX12_growth_185 rfl (lv_at hl 4 rfl) ?_
                                refine lv_i2l hx hb dX12_growth_186 rfl ?_
                                refine lv_iload hx hb dX12_growth_187 (lv_at hl 1 rfl) ?_
                                refine hp_callRl (va_runS (As := [.long ((nI N_1549).toInt64), .int (nI j1556)]) (rest := [.long (r_1569 * (pwR ((nI N_1550).toInt64) j1556)), .int al1562]) ⟨hx, hb, hml, hown, hts⟩ (c_X12_power l D cy _ cs ad en_1566 hI_1566 ((nI N_1549).toInt64) j1556 (by omega)) (kw_X12_power hts tw_1110 ⟨by decide, by decide⟩) (preS_of hh hK) rfl rfl hl.1 rfl (lv_room (Nat.le_of_ble_eq_true rfl)) dX12_growth_189 ⟨Nat.le_of_ble_eq_true rfl, Nat.le_of_ble_eq_true rfl⟩) hh hA (fun r_1571 H locs hw_1571 hh => ?_)
                                obtain rfl : r_1571 = (pwR ((nI N_1549).toInt64) j1556) := hw_1571
                                refine W.lcmp hx hb dX12_growth_192 ?_
                                refine lv_if_ge (tgt := 200) hx hb dX12_growth_193 (by decide) (fun c_1572 => ?_) (fun c_1572 => ?_)
                                · refine lv_iconst (v := 0) hx hb dX12_growth_200 (by decide) ?_
                                  refine lv_iand hx hb dX12_growth_201 ?_
                                  refine lv_istore (lv' := [(6, .int (al1562 &&& 0)), (5, .int (nI j1556)), (4, .int be1556), (0, .ref (ad 0)), (1, .int (nI N_1549)), (2, .int (nI N_1550)), (3, .int (nI N_1551))]) hx hb dX12_growth_202 hl (by decide) rfl (fun ls hl => ?_)
                                  refine lv_goto (tgt := 102) hx hb dX12_growth_204 (by decide) ?_
                                  exact ih_1562 (mm1562 - 1) (al1562 &&& 0) (j1556 - 1) u1_1565 en_1566 ls H locs (by omega) hI_1566 hf_1566 (ND_sd hND_1565 hsd_1566) (by rw [hsd_1566.2.1]; have h1 := hnm_1565; have h2 := i1_1562; omega) (LVS_sd hlq_1565 (by omega) hsd_1566 (show rdI (en_1566 0) 2 = rdI (en_1565 0) 2 from (hkp_1566.2.1).trans (hkp_1565.2.1).symm) (show rdI (en_1566 0) 3 = rdI (en_1565 0) 3 from (hkp_1566.2.2.1).trans (hkp_1565.2.2.1).symm) ((hf_1566 1 (by omega)).trans (hf_1565 1 (by omega)).symm)) (by rw [show RM9 en_1566 j1556 (j1556 - 1) u1_1565 = rem9 (rdI (en_1562 0) 4).toNatClampNeg (alR (rdF (en_1562 2))) j1556 (nwF en_1565) (j1556 - 1) u1_1565 from (RM9_c (a := en_1565) (show rdI (en_1566 0) 4 = rdI (en_1565 0) 4 from (hkp_1566.2.2.2.1).trans (hkp_1565.2.2.2.1).symm) ((hf_1566 2 (by omega)).trans (hf_1565 2 (by omega)).symm) hsd_1566.2.1).trans (by unfold RM9; rw [show rdI (en_1565 0) 4 = rdI (en_1562 0) 4 from (KPg.kp hkq_1565).2.2.2.1, hu_1565 2 (by omega)])]; have h9 := i3_1562; rw [show RM9 en_1562 j1556 d1562 u1562 = _ from hL_1565] at h9; exact GI9_s h9 hj0_1566 (Or.inr ⟨rfl, (fun q => absurd (Int64.lt_iff_toInt_lt.mp q) (Int.not_lt.mpr (by rw [← hnq_1569]; exact g_ge c_1572)))⟩)) (hkp_1566) (lv_sub hl [0, 1, 2, 3, 4, 5, 6] rfl) hh
                                · refine lv_iconst (v := 1) hx hb dX12_growth_196 (by decide) ?_
                                  refine lv_goto (tgt := 201) hx hb dX12_growth_197 (by decide) ?_
                                  refine lv_iand hx hb dX12_growth_201 ?_
                                  refine lv_istore (lv' := [(6, .int (al1562 &&& 1)), (5, .int (nI j1556)), (4, .int be1556), (0, .ref (ad 0)), (1, .int (nI N_1549)), (2, .int (nI N_1550)), (3, .int (nI N_1551))]) hx hb dX12_growth_202 hl (by decide) rfl (fun ls hl => ?_)
                                  refine lv_goto (tgt := 102) hx hb dX12_growth_204 (by decide) ?_
                                  exact ih_1562 (mm1562 - 1) (al1562 &&& 1) (j1556 - 1) u1_1565 en_1566 ls H locs (by omega) hI_1566 hf_1566 (ND_sd hND_1565 hsd_1566) (by rw [hsd_1566.2.1]; have h1 := hnm_1565; have h2 := i1_1562; omega) (LVS_sd hlq_1565 (by omega) hsd_1566 (show rdI (en_1566 0) 2 = rdI (en_1565 0) 2 from (hkp_1566.2.1).trans (hkp_1565.2.1).symm) (show rdI (en_1566 0) 3 = rdI (en_1565 0) 3 from (hkp_1566.2.2.1).trans (hkp_1565.2.2.1).symm) ((hf_1566 1 (by omega)).trans (hf_1565 1 (by omega)).symm)) (by rw [show RM9 en_1566 j1556 (j1556 - 1) u1_1565 = rem9 (rdI (en_1562 0) 4).toNatClampNeg (alR (rdF (en_1562 2))) j1556 (nwF en_1565) (j1556 - 1) u1_1565 from (RM9_c (a := en_1565) (show rdI (en_1566 0) 4 = rdI (en_1565 0) 4 from (hkp_1566.2.2.2.1).trans (hkp_1565.2.2.2.1).symm) ((hf_1566 2 (by omega)).trans (hf_1565 2 (by omega)).symm) hsd_1566.2.1).trans (by unfold RM9; rw [show rdI (en_1565 0) 4 = rdI (en_1562 0) 4 from (KPg.kp hkq_1565).2.2.2.1, hu_1565 2 (by omega)])]; have h9 := i3_1562; rw [show RM9 en_1562 j1556 d1562 u1562 = _ from hL_1565] at h9; exact GI9_s h9 hj0_1566 (Or.inl ⟨rfl, (by unfold GN9; rw [← hnq_1569]; exact Int64.lt_iff_toInt_lt.mpr (g_nge c_1572))⟩)) (hkp_1566) (lv_sub hl [0, 1, 2, 3, 4, 5, 6] rfl) hh
                              refine lv_aload_n hx hb dX12_growth_111 rfl (lv_at hl 3 rfl) ?_
                              refine lv_aload_n hx hb dX12_growth_112 rfl (lv_at hl 3 rfl) ?_
                              obtain ⟨fa_1573, hi_1573, wd_1573, mo_1573, tb_1573, dp_1573, many_1573, grt_1573, lst_1573, nou_1573, rm_1573, rb_1573, pr_1573, wo_1573, es1573, p0_1573, p1_1573, p2_1573, p3_1573, p4_1573⟩ := getr_M hI_1565
                              have hq2_1574 : wd_1573 = wd := n_eq ((show nI wd_1573 = rdI (en_1565 0) 2 from by rw [es1573]; rfl).trans (hkp_1565.2.1.trans (show rdI (en 0) 2 = nI wd from by rw [es1548]; rfl))) (by omega) (by omega)
                              have hq3_1574 : mo_1573 = mo := n_eq ((show nI mo_1573 = rdI (en_1565 0) 3 from by rw [es1573]; rfl).trans (hkp_1565.2.2.1.trans (show rdI (en 0) 3 = nI mo from by rw [es1548]; rfl))) (by omega) (by omega)
                              have hq4_1574 : tb_1573 = tb := n_eq ((show nI tb_1573 = rdI (en_1565 0) 4 from by rw [es1573]; rfl).trans (hkp_1565.2.2.2.1.trans (show rdI (en 0) 4 = nI tb from by rw [es1548]; rfl))) (by omega) (by omega)
                              have hq30_1574 : wo_1573 = wo := n_eq ((show nI wo_1573 = rdI (en_1565 0) 30 from by rw [es1573]; rfl).trans (hkp_1565.2.2.2.2.2.trans (show rdI (en 0) 30 = nI wo from by rw [es1548]; rfl))) (by omega) (by omega)
                              rw [hq2_1574, hq3_1574, hq4_1574, hq30_1574] at es1573
                              refine hp_get hx hb hts ix12 hown hK hh (q := 0) rfl (hI.1 _ (by decide)) es1573 rfl 11 (by decide) (hts _ tw_890) (fun _ h9 => h9) rfl dX12_growth_113 ?_
                              refine lv_iload hx hb dX12_growth_116 (lv_at hl 1 rfl) ?_
                              refine lv_iconst (v := 1) hx hb dX12_growth_118 (by decide) ?_
                              refine lv_isub hx hb dX12_growth_119 ?_
                              rw [show (1 : Int32) = nI 1 from rfl, pk_sub (a := j1556) (b := 1) (by omega)]
                              obtain ⟨f_1575, es1575⟩ := getr_nw hI_1565
                              refine hp_iald hx hb hK hh (q := 7) rfl (hI.1 _ (by decide)) es1575 (vp_in_nI (n := (j1556 - 1)) (by omega) (by decide)) dX12_growth_120 ?_
                              rw [nI_clamp (n := (j1556 - 1)) (by omega)]
                              obtain ⟨v_1576, hv_1576, hve_1576⟩ := hall_1565 (j1556 - 1) (by omega)
                              rw [show f_1575 (j1556 - 1) = nI v_1576 from (show f_1575 (j1556 - 1) = rdF (en_1565 7) (j1556 - 1) from by rw [← (SD_rf en_1565).2.1, es1575]; rfl).trans hve_1576]
                              refine lv_aload_n hx hb dX12_growth_121 rfl (lv_at hl 3 rfl) ?_
                              refine hp_get hx hb hts ix12 hown hK hh (q := 0) rfl (hI.1 _ (by decide)) es1573 rfl 11 (by decide) (hts _ tw_890) (fun _ h9 => h9) rfl dX12_growth_122 ?_
                              refine lv_iconst (v := 0) hx hb dX12_growth_125 (by decide) ?_
                              rw [show (0 : Int32) = nI 0 from rfl]
                              refine hp_iald hx hb hK hh (q := 7) rfl (hI.1 _ (by decide)) es1575 (vp_in_nI (n := 0) (by omega) (by decide)) dX12_growth_126 ?_
                              rw [nI_clamp (n := 0) (by omega)]
                              obtain ⟨v_1577, hv_1577, hve_1577⟩ := hall_1565 0 (by omega)
                              rw [show f_1575 0 = nI v_1577 from (show f_1575 0 = rdF (en_1565 7) 0 from by rw [← (SD_rf en_1565).2.1, es1575]; rfl).trans hve_1577]
                              refine hp_callRi (va_runV (As := [.int (nI v_1576), .int (nI v_1577)]) (rest := []) ⟨hx, hb, hml, hown, hts⟩ (c_X12_mayFollow l D cy _ cs ad en_1565 hI_1565 v_1576 v_1577 (by omega) (by omega)) (kw_X12_mayFollow hts tw_1029 ⟨by decide, by decide⟩) (preV_of hh hK (hI.1 _ (by decide)) es1573 rfl) rfl rfl hl.1 rfl (lv_room (Nat.le_of_ble_eq_true rfl)) dX12_growth_127 ⟨Nat.le_of_ble_eq_true rfl, Nat.le_of_ble_eq_true rfl⟩) hh hA (fun r_1578 H locs hw_1578 hh => ?_)
                              rcases Decidable.em (rdF (en_1565 2) (6 * v_1576 + v_1577) = 0) with hp_1578 | hp_1578
                              · obtain rfl : r_1578 = 1 := Eq.trans hw_1578 (if_pos hp_1578)
                                refine lv_if_eq (tgt := 169) hx hb dX12_growth_130 (by decide) (fun c_0 => absurd c_0 (by decide)) (fun _ => ?_)
                                refine lv_aload_n hx hb dX12_growth_133 rfl (lv_at hl 3 rfl) ?_
                                refine lv_iload hx hb dX12_growth_134 (lv_at hl 1 rfl) ?_
                                refine hp_callRl (va_runV (As := [.int (nI j1556)]) (rest := []) ⟨hx, hb, hml, hown, hts⟩ (c_X12_trackAt l D cy _ cs ad en_1565 hI_1565 j1556 (by omega)) (kw_X12_trackAt hts tw_1093 ⟨by decide, by decide⟩) (preV_of hh hK (hI.1 _ (by decide)) es1573 rfl) rfl rfl hl.1 rfl (lv_room (Nat.le_of_ble_eq_true rfl)) dX12_growth_136 ⟨Nat.le_of_ble_eq_true rfl, Nat.le_of_ble_eq_true rfl⟩) hh hA (fun r_1579 H locs hw_1579 hh => ?_)
                                have htq_1579 : r_1579 = trW (rdI (en 0) 2).toNatClampNeg (rdI (en 0) 3).toNatClampNeg j1556 (rdF (en 1)) (pre (nwF en_1565) j1556) := by have h9 := tr_at hlq_1565 hw_1579; rw [show rdI (en_1565 0) 2 = rdI (en 0) 2 from hkp_1565.2.1, show rdI (en_1565 0) 3 = rdI (en 0) 3 from hkp_1565.2.2.1, show rdF (en_1565 1) = rdF (en 1) from by rw [hf_1565 1 (by omega)]] at h9; exact h9
                                refine hp_callRl (va_runS (As := [.long r_1579]) (rest := []) ⟨hx, hb, hml, hown, hts⟩ (c_X12_sizeOf l D cy _ cs ad en_1565 hI_1565 r_1579 ) (kw_X12_sizeOf hts tw_1062 ⟨by decide, by decide⟩) (preS_of hh hK) rfl rfl hl.1 rfl (lv_room (Nat.le_of_ble_eq_true rfl)) dX12_growth_139 ⟨Nat.le_of_ble_eq_true rfl, Nat.le_of_ble_eq_true rfl⟩) hh hA (fun r_1580 H locs hw_1580 hh => ?_)
                                obtain rfl : r_1580 = absR r_1579 := hw_1580
                                refine lv_iload_n hx hb dX12_growth_142 rfl (lv_at hl 5 rfl) ?_
                                refine lv_i2l hx hb dX12_growth_143 rfl ?_
                                refine lv_iload hx hb dX12_growth_144 (lv_at hl 1 rfl) ?_
                                refine hp_callRl (va_runS (As := [.long ((nI N_1550).toInt64), .int (nI j1556)]) (rest := [.long (absR r_1579)]) ⟨hx, hb, hml, hown, hts⟩ (c_X12_power l D cy _ cs ad en_1565 hI_1565 ((nI N_1550).toInt64) j1556 (by omega)) (kw_X12_power hts tw_1110 ⟨by decide, by decide⟩) (preS_of hh hK) rfl rfl hl.1 rfl (lv_room (Nat.le_of_ble_eq_true rfl)) dX12_growth_146 ⟨Nat.le_of_ble_eq_true rfl, Nat.le_of_ble_eq_true rfl⟩) hh hA (fun r_1581 H locs hw_1581 hh => ?_)
                                obtain rfl : r_1581 = (pwR ((nI N_1550).toInt64) j1556) := hw_1581
                                refine lv_lmul hx hb dX12_growth_149 ?_
                                refine lv_aload_n hx hb dX12_growth_150 rfl (lv_at hl 3 rfl) ?_
                                refine hp_get hx hb hts ix12 hown hK hh (q := 0) rfl (hI.1 _ (by decide)) es1573 rfl 2 (by decide) (hts _ tw_881) (fun _ h9 => h9) rfl dX12_growth_151 ?_
                                refine lv_i2l hx hb dX12_growth_154 rfl ?_
                                refine lv_iload_n hx hb dX12_growth_155 rfl (lv_at hl 4 rfl) ?_
                                refine lv_i2l hx hb dX12_growth_156 rfl ?_
                                refine lv_iload hx hb dX12_growth_157 (lv_at hl 1 rfl) ?_
                                refine hp_callRl (va_runS (As := [.long ((nI N_1549).toInt64), .int (nI j1556)]) (rest := [.long ((nI wd).toInt64), .long ((absR r_1579) * (pwR ((nI N_1550).toInt64) j1556))]) ⟨hx, hb, hml, hown, hts⟩ (c_X12_power l D cy _ cs ad en_1565 hI_1565 ((nI N_1549).toInt64) j1556 (by omega)) (kw_X12_power hts tw_1110 ⟨by decide, by decide⟩) (preS_of hh hK) rfl rfl hl.1 rfl (lv_room (Nat.le_of_ble_eq_true rfl)) dX12_growth_159 ⟨Nat.le_of_ble_eq_true rfl, Nat.le_of_ble_eq_true rfl⟩) hh hA (fun r_1582 H locs hw_1582 hh => ?_)
                                obtain rfl : r_1582 = (pwR ((nI N_1549).toInt64) j1556) := hw_1582
                                refine lv_lmul hx hb dX12_growth_162 ?_
                                refine W.lcmp hx hb dX12_growth_163 ?_
                                refine lv_if_le (tgt := 169) hx hb dX12_growth_164 (by decide) (fun c_1583 => ?_) (fun c_1583 => ?_)
                                · exact join_1566  en_1565 ls _ _ hI_1565 hf_1565 hkp_1565 (SD_rf en_1565) (fun q => absurd (Int64.lt_iff_toInt_lt.mp q.2) (Int.not_lt.mpr (by rw [← htq_1579, show rdI (en 0) 2 = nI wd from by rw [es1548]; rfl]; exact g_le c_1583))) (lv_sub hl [0, 1, 2, 3, 4, 5, 6] rfl) hh
                                · refine lv_iconst (v := 1) hx hb dX12_growth_167 (by decide) ?_
                                  exact hp_iretM hx hb hr rfl hlocks hh (⟨hI_1565, hf_1565, Or.inr ⟨N_1549, N_1550, N_1551, rfl, rfl, rfl, by omega, by omega, by omega, by omega, by omega, by omega, Or.inr ⟨⟨by rw [show rdI (en 0) 3 = nI mo from by rw [es1548]; rfl, nI_toInt (n := mo) (by omega)]; omega, fun q => n_1553 (n_eq (b := 0) ((show rdI (en 0) 4 = nI tb from by rw [es1548]; rfl).symm.trans q) (by omega) (by decide))⟩, Or.inr ⟨fun q h1 h2 => i0_1554 q h1 (by omega), Or.inl ⟨rfl, j1556, (pre (nwF en_1565) j1556), by omega, by omega, GI9_in (by have h9 := i3_1562; rw [show RM9 en_1562 j1556 d1562 u1562 = _ from hL_1565] at h9; exact h9), ⟨by rw [nw_at (by omega) hve_1576 hv_1576, nw_at (by omega) hve_1577 hv_1577, ← hf_1565 2 (by omega)]; exact hp_1578, by rw [← htq_1579, show rdI (en 0) 2 = nI wd from by rw [es1548]; rfl]; exact Int64.lt_iff_toInt_lt.mpr (g_nle c_1583)⟩⟩⟩⟩⟩, hkp_1565⟩) dX12_growth_168
                              · obtain rfl : r_1578 = 0 := Eq.trans hw_1578 (if_neg hp_1578)
                                refine lv_if_eq (tgt := 169) hx hb dX12_growth_130 (by decide) (fun _ => ?_) (fun c_0 => absurd c_0 (by decide))
                                exact join_1566  en_1565 ls _ _ hI_1565 hf_1565 hkp_1565 (SD_rf en_1565) (fun q => hp_1578 (by rw [hf_1565 2 (by omega)]; have h9 := q.1; rw [nw_at (by omega) hve_1576 hv_1576, nw_at (by omega) hve_1577 hv_1577] at h9; exact h9)) (lv_sub hl [0, 1, 2, 3, 4, 5, 6] rfl) hh
                        exact loop_1562 (134217728 + 1) 134217728 1 0 0 en_1561 ls _ _ (by omega) hI_1561 hf_1561 (hND_1561) (by omega) (LVS_0 hbl_1561 (KPg.kp hx_1561).2.1 (KPg.kp hx_1561).2.2.1) (GI9_0 (by unfold RM9 W9; rw [rem9_all (by omega), show rdI (en_1561 0) 4 = rdI (en 0) 4 from hkp_1561.2.2.2.1, show rdF (en_1561 2) = rdF (en 2) from by rw [hf_1561 2 (by omega)]])) (hkp_1561) (lv_sub hl [0, 1, 2, 3, 4, 5, 6] rfl) hh
                  exact loop_1556 ((N_1551 + 1) + 1) 1 0 en_1554 ls _ _ (Nat.le_refl _) (by omega) (by omega) hI_1554 hf_1554 (GO9_0) (i1_1554) (lv_sub hl [0, 1, 2, 3, 4, 5] rfl) hh
                · have n_1555 : j1554 ≤ N_1551 := n_nlt (a := N_1551) (b := j1554) c_1555 (by omega) (by omega)
                  refine lv_aload_n hx hb dX12_growth_65 rfl (lv_at hl 1 rfl) ?_
                  refine lv_iload hx hb dX12_growth_66 (lv_at hl 0 rfl) ?_
                  obtain ⟨fa_1584, hi_1584, wd_1584, mo_1584, tb_1584, dp_1584, many_1584, grt_1584, lst_1584, nou_1584, rm_1584, rb_1584, pr_1584, wo_1584, es1584, p0_1584, p1_1584, p2_1584, p3_1584, p4_1584⟩ := getr_M hI_1554
                  have hq2_1585 : wd_1584 = wd := n_eq ((show nI wd_1584 = rdI (en_1554 0) 2 from by rw [es1584]; rfl).trans (i1_1554.2.1.trans (show rdI (en 0) 2 = nI wd from by rw [es1548]; rfl))) (by omega) (by omega)
                  have hq3_1585 : mo_1584 = mo := n_eq ((show nI mo_1584 = rdI (en_1554 0) 3 from by rw [es1584]; rfl).trans (i1_1554.2.2.1.trans (show rdI (en 0) 3 = nI mo from by rw [es1548]; rfl))) (by omega) (by omega)
                  have hq4_1585 : tb_1584 = tb := n_eq ((show nI tb_1584 = rdI (en_1554 0) 4 from by rw [es1584]; rfl).trans (i1_1554.2.2.2.1.trans (show rdI (en 0) 4 = nI tb from by rw [es1548]; rfl))) (by omega) (by omega)
                  have hq30_1585 : wo_1584 = wo := n_eq ((show nI wo_1584 = rdI (en_1554 0) 30 from by rw [es1584]; rfl).trans (i1_1554.2.2.2.2.2.trans (show rdI (en 0) 30 = nI wo from by rw [es1548]; rfl))) (by omega) (by omega)
                  rw [hq2_1585, hq3_1585, hq4_1585, hq30_1585] at es1584
                  refine hp_callMi (va_runV (As := [.int (nI j1554)]) (rest := []) ⟨hx, hb, hml, hown, hts⟩ (c_X12_isSpent l D cy _ cs ad en_1554 hI_1554 j1554 (by omega) (by omega)) (kw_X12_isSpent hts tw_1025 ⟨by decide, by decide⟩) (preV_of hh hK (hI.1 _ (by decide)) es1584 rfl) rfl rfl hl.1 rfl (lv_room (Nat.le_of_ble_eq_true rfl)) dX12_growth_68 ⟨Nat.le_of_ble_eq_true rfl, Nat.le_of_ble_eq_true rfl⟩) hh hA (fun r_1586 H locs en_1586 hw_1586 hh => ?_)
                  obtain ⟨hI_1586, hu_1586, hx_1586⟩ := hw_1586
                  have es1584_1586 : en_1586 0 = .inr (11, [.int fa_1584, .int hi_1584, .int (nI wd), .int (nI mo), .int (nI tb), .ref (ad 1), .ref (ad 2), .ref (ad 3), .ref (ad 4), .ref (ad 5), .ref (ad 6), .ref (ad 7), .ref (ad 8), .ref (ad 9), .int dp_1584, .long many_1584, .long grt_1584, .long lst_1584, .long nou_1584, .ref (ad 10), .ref (ad 11), .ref (ad 12), .int rm_1584, .long rb_1584, .ref (ad 13), .int pr_1584, .ref (ad 14), .ref (ad 15), .ref (ad 16), .ref (ad 17), .int (nI wo), .ref (ad 18), .ref (ad 19)]) := (hu_1586 0 (by omega)).trans es1584
                  have hf_1586 : ∀ c, (c ≠ 0 ∧ c ≠ 6 ∧ c ≠ 7 ∧ c ≠ 8 ∧ c ≠ 9) → en_1586 c = en c := fun c hc => (hu_1586 c (by omega)).trans (hf_1554 c hc)
                  have hkp_1586 : KP en en_1586 := KP_same i1_1554 (hu_1586 0 (by omega))
                  rw [SPN_k (a := en) (b := en_1554) (i1_1554.2.2.2.1) (hf_1554 2 (by omega))] at hx_1586
                  have hw_1586 := hx_1586
                  rcases hw_1586 with ⟨hb_1586, hy_1586⟩ | ⟨hb_1586, hy_1586⟩
                  · obtain rfl : r_1586 = 1 := hb_1586
                    refine lv_if_eq (tgt := 77) hx hb dX12_growth_71 (by decide) (fun c_0 => absurd c_0 (by decide)) (fun _ => ?_)
                    refine lv_bipush (v := (-6)) hx hb dX12_growth_74 (by decide) ?_
                    exact hp_iretM hx hb hr rfl hlocks hh (⟨hI_1586, hf_1586, Or.inr ⟨N_1549, N_1550, N_1551, rfl, rfl, rfl, by omega, by omega, by omega, by omega, by omega, by omega, Or.inr ⟨⟨by rw [show rdI (en 0) 3 = nI mo from by rw [es1548]; rfl, nI_toInt (n := mo) (by omega)]; omega, fun q => n_1553 (n_eq (b := 0) ((show rdI (en 0) 4 = nI tb from by rw [es1548]; rfl).symm.trans q) (by omega) (by decide))⟩, Or.inl ⟨⟨j1554, by omega, by omega, hy_1586⟩, rfl⟩⟩⟩, hkp_1586⟩) dX12_growth_76
                  · obtain rfl : r_1586 = 0 := hb_1586
                    refine lv_if_eq (tgt := 77) hx hb dX12_growth_71 (by decide) (fun _ => ?_) (fun c_0 => absurd c_0 (by decide))
                    refine lv_iinc (v := (nI (j1554 + 1))) (lv' := [(4, .int (nI (j1554 + 1))), (0, .ref (ad 0)), (1, .int (nI N_1549)), (2, .int (nI N_1550)), (3, .int (nI N_1551))]) hx hb dX12_growth_77 hl (k := 0) rfl (nI_1 _) (by decide) rfl (fun ls hl => ?_)
                    refine lv_goto (tgt := 59) hx hb dX12_growth_80 (by decide) ?_
                    exact ih_1554 ((j1554 + 1))  en_1586 ls H locs (by omega) (by omega) (by omega) hI_1586 hf_1586 (fun q h1 h2 => (Nat.lt_or_ge q j1554).elim (fun h => i0_1554 q h1 h) (fun h => by have e : q = j1554 := (by omega); rw [e]; exact hy_1586)) (hkp_1586) (lv_sub hl [0, 1, 2, 3, 4] rfl) hh
            exact loop_1554 ((N_1551 + 1) + 1) 1  en ls _ _ (Nat.le_refl _) (by omega) (by omega) hI hf0 (fun q h1 h2 => absurd h2 (by omega)) ((KP_rf en)) (lv_sub hl [0, 1, 2, 3, 4] rfl) hh
          · have n_1553 : tb = 0 := n_eq (a := tb) (b := 0) c_1553 (by omega) (by decide)
            refine lv_bipush (v := (-3)) hx hb dX12_growth_53 (by decide) ?_
            exact hp_iretM hx hb hr rfl hlocks hh (⟨hI, hf0, Or.inr ⟨N_1549, N_1550, N_1551, rfl, rfl, rfl, by omega, by omega, by omega, by omega, by omega, by omega, Or.inl ⟨Or.inr (by rw [show rdI (en 0) 4 = nI tb from by rw [es1548]; rfl, n_1553]; rfl), rfl⟩⟩, (KP_rf en)⟩) dX12_growth_55
      · obtain rfl : r_1551 = 0 := Eq.trans hw_1551 (if_neg (fun q => hp_1551 ((wj_32 (by decide) (by decide)).mp q)))
        refine lv_if_ne (tgt := 39) hx hb dX12_growth_33 (by decide) (fun c_0 => absurd c_0 (by decide)) (fun _ => ?_)
        refine lv_bipush (v := (-2)) hx hb dX12_growth_36 (by decide) ?_
        exact hp_iretM hx hb hr rfl hlocks hh (⟨hI, hf0, Or.inl ⟨Or.inr (Or.inr hp_1551), rfl⟩, (KP_rf en)⟩) dX12_growth_38
    · obtain rfl : r_1550 = 0 := Eq.trans hw_1550 (if_neg (fun q => hp_1550 ((wj_32 (by decide) (by decide)).mp q)))
      refine lv_if_eq (tgt := 36) hx hb dX12_growth_21 (by decide) (fun _ => ?_) (fun c_0 => absurd c_0 (by decide))
      refine lv_bipush (v := (-2)) hx hb dX12_growth_36 (by decide) ?_
      exact hp_iretM hx hb hr rfl hlocks hh (⟨hI, hf0, Or.inl ⟨Or.inr (Or.inl hp_1550), rfl⟩, (KP_rf en)⟩) dX12_growth_38
  · obtain rfl : r_1549 = 0 := Eq.trans hw_1549 (if_neg (fun q => hp_1549 ((wj_32 (by decide) (by decide)).mp q)))
    refine lv_if_eq (tgt := 36) hx hb dX12_growth_9 (by decide) (fun _ => ?_) (fun c_0 => absurd c_0 (by decide))
    refine lv_bipush (v := (-2)) hx hb dX12_growth_36 (by decide) ?_
    exact hp_iretM hx hb hr rfl hlocks hh (⟨hI, hf0, Or.inl ⟨Or.inl hp_1549, rfl⟩, (KP_rf en)⟩) dX12_growth_38
theorem kw_X12_growth {R : Room} {s : State} {args : Array Value} {own : String} {idx : Nat} (hts : ∀ w ∈ TB, w.before args s = true) (hl : Cond.methodLink own idx yX12_growth ∈ TB) (hR : 4 + 1 ≤ R.frames ∧ 8 + (7 + 11) + 40 * 4 ≤ R.locals) : CallW R s args own RX12 idx yX12_growth cX12_growth 7 (some .int) (Cond.code yX12_growth cX12_growth 7 (some .int) :: TB) (rmN 4) 0 0 3 := cwV 3 hts (TB_V hl tw_1106 tw_1107 tw_9 tw_1108) rfl rfl rfl (by decide +kernel) hR
