set_option maxHeartbeats 4000000 in
set_option maxRecDepth 100000 in
/-- beginWords -/
theorem c_X12_beginWords (l : Launch) (D : va_G) (cy : Nat → ClassId) (sz : Nat) (cs : List Nat) (ad : Nat → Nat) (en : Nat → va_E) (hI : RX cy cs ad en)    : Met l yX12_beginWords (Cond.code yX12_beginWords cX12_beginWords 1 none :: TB) (rmN 1) (va_Pc [.ref (ad 0)] (Pre D cy cs ad en sz)) (va_Qv (S := Nat → va_E) (fun en1 => RX cy cs ad en1 ∧ (∀ c, (c ≠ 0 ∧ c ≠ 6 ∧ c ≠ 7) → en1 c = en c) ∧ rdI (en1 0) 14 = nI 0 ∧ rdF (en1 7) 0 = -1 ∧ BLV en en1 ∧ KPg en en1) (PostM D cs ad) (Af cs ad sz)) 0 0 (Af cs ad sz) := by
  refine Met.ofW (cc := cX12_beginWords) (maxL := 1) (ret := none) (by decide) rfl ?_
  intro p e s m args below meth c s₁ B hml hv
  obtain ⟨rfl, hsz, hP, hK, hD0⟩ := hv
  have hx := B.exec
  have hb := B.bytes
  have hr := B.returns
  have hts : ∀ w ∈ TB, w.before _ s = true := fun w h => atoms_spec (ws := _ :: TB) B.pre w (List.mem_cons_of_mem _ h)
  have hown : s.vm.findClass RX12 = some m.cls := findClass_of_methodNamed B.named
  have hlocks := B.notSynchronized
  have hh : Hp D (Af cs ad sz) (Af cs ad sz) s.heap s.heap [] cs ad en := ⟨hP, Af_self hD0, va_S.rf⟩
  have hA : ∀ q : Nat, s.heap.size ≤ q → Af cs ad sz q := fun q h => Or.inr (by rw [hsz] at h; exact h)
  have hl := lv_entry ([.ref (ad 0)]) (n := 1) (Nat.le_of_ble_eq_true rfl)
  rw [lg_entry_eq]
  generalize (lg_sl ([.ref (ad 0)]) ++ List.replicate (1 - (lg_sl ([.ref (ad 0)])).length) Slot.unset).toArray = ls at hl ⊢
  have hl : lv_has ls 1 [(0, .ref (ad 0))] := hl
  have hf0 : ∀ c, (c ≠ 0 ∧ c ≠ 6 ∧ c ≠ 7) → en c = en c := fun _ _ => rfl
  obtain ⟨fa, hi, wd, mo, tb, dp, many, grt, lst, nou, rm, rb, pr, wo, es1302, hwd2, hwd3, hmo, htb, hwo⟩ := getr_M hI
  refine lv_aload_n hx hb dX12_beginWords_0 rfl (lv_at hl 0 rfl) ?_
  refine hp_callMv (va_runV (As := []) (rest := []) ⟨hx, hb, hml, hown, hts⟩ (c_X12_beginLevels l D cy _ cs ad en hI  ) (kw_X12_beginLevels hts tw_1042 ⟨by decide, by decide⟩) (preV_of hh hK (hI.1 _ (by decide)) es1302 rfl) rfl rfl hl.1 rfl (lv_room (Nat.le_of_ble_eq_true rfl)) dX12_beginWords_1 ⟨Nat.le_of_ble_eq_true rfl, Nat.le_of_ble_eq_true rfl⟩) hh hA (fun H locs en_1303 hw_1303 hh => ?_)
  obtain ⟨hI_1303, hu_1303, hx_1303⟩ := hw_1303
  have es1302_1303 : en_1303 0 = .inr (11, [.int fa, .int hi, .int (nI wd), .int (nI mo), .int (nI tb), .ref (ad 1), .ref (ad 2), .ref (ad 3), .ref (ad 4), .ref (ad 5), .ref (ad 6), .ref (ad 7), .ref (ad 8), .ref (ad 9), .int dp, .long many, .long grt, .long lst, .long nou, .ref (ad 10), .ref (ad 11), .ref (ad 12), .int rm, .long rb, .ref (ad 13), .int pr, .ref (ad 14), .ref (ad 15), .ref (ad 16), .ref (ad 17), .int (nI wo), .ref (ad 18), .ref (ad 19)]) := (hu_1303 0 (by omega)).trans es1302
  have hf_1303 : ∀ c, (c ≠ 0 ∧ c ≠ 6 ∧ c ≠ 7) → en_1303 c = en c := fun c hc => (hu_1303 c (by omega)).trans (hf0 c hc)
  have hkp_1303 : KPg en en_1303 := KPg_same (KPg_rf en) (hu_1303 0 (by omega))
  refine lv_aload_n hx hb dX12_beginWords_4 rfl (lv_at hl 0 rfl) ?_
  refine lv_iconst (v := 0) hx hb dX12_beginWords_5 (by decide) ?_
  refine hp_put hx hb hts ix12 tyX12 tyX12_ok nmX12 hown hK hh (q := 0) rfl (hI.1 _ (by decide)) es1302_1303 rfl 14 (by decide) (hts _ tw_893) (fun _ h9 => h9) rfl (ty := .int) (by decide +kernel) rfl rfl (Nat.le_of_ble_eq_true rfl) dX12_beginWords_6 (fun H locs en_1304 hen_1304 hh => ?_)
  have es1302_1304 : en_1304 0 = .inr (11, [.int fa, .int hi, .int (nI wd), .int (nI mo), .int (nI tb), .ref (ad 1), .ref (ad 2), .ref (ad 3), .ref (ad 4), .ref (ad 5), .ref (ad 6), .ref (ad 7), .ref (ad 8), .ref (ad 9), .int 0, .long many, .long grt, .long lst, .long nou, .ref (ad 10), .ref (ad 11), .ref (ad 12), .int rm, .long rb, .ref (ad 13), .int pr, .ref (ad 14), .ref (ad 15), .ref (ad 16), .ref (ad 17), .int (nI wo), .ref (ad 18), .ref (ad 19)]) := by rw [hen_1304]; exact va_up_self _ _ _
  have hI_1304 : RX cy cs ad en_1304 := by rw [hen_1304]; exact upr_M hI_1303 ⟨fa, hi, wd, mo, tb, 0, many, grt, lst, nou, rm, rb, pr, wo, rfl, hwd2, hwd3, hmo, htb, hwo⟩
  have hf_1304 : ∀ c, (c ≠ 0 ∧ c ≠ 6 ∧ c ≠ 7) → en_1304 c = en c := fun c hc => Eq.trans (show en_1304 c = en_1303 c from by rw [hen_1304, va_up_ne _ _ (by omega)]) (hf_1303 c hc)
  have hkp_1304 : KPg en en_1304 := KPg_fv hkp_1303 es1302_1303 es1302_1304 hi (nI wd) (nI mo) (nI tb) pr (nI wo) many grt lst nou rm rb rfl rfl rfl rfl rfl rfl rfl rfl rfl rfl rfl rfl rfl rfl rfl rfl rfl rfl rfl rfl rfl rfl rfl rfl
  refine lv_aload_n hx hb dX12_beginWords_9 rfl (lv_at hl 0 rfl) ?_
  refine hp_get hx hb hts ix12 hown hK hh (q := 0) rfl (hI.1 _ (by decide)) es1302_1304 rfl 11 (by decide) (hts _ tw_890) (fun _ h9 => h9) rfl dX12_beginWords_10 ?_
  refine lv_iconst (v := 0) hx hb dX12_beginWords_13 (by decide) ?_
  refine lv_iconst (v := (-1)) hx hb dX12_beginWords_14 (by decide) ?_
  obtain ⟨f_1305, es1305⟩ := getr_nw hI_1304
  rw [show (0 : Int32) = nI 0 from rfl]
  refine hp_iast hx hb hK hh (q := 7) rfl (hI.1 _ (by decide)) es1305 (vp_in_nI (n := 0) (by decide) (by decide)) dX12_beginWords_15 (fun H locs en_1306 hen_1306 hh => ?_)
  rw [nI_clamp (n := 0) (by decide)] at hen_1306
  have es1302_1306 : en_1306 0 = .inr (11, [.int fa, .int hi, .int (nI wd), .int (nI mo), .int (nI tb), .ref (ad 1), .ref (ad 2), .ref (ad 3), .ref (ad 4), .ref (ad 5), .ref (ad 6), .ref (ad 7), .ref (ad 8), .ref (ad 9), .int 0, .long many, .long grt, .long lst, .long nou, .ref (ad 10), .ref (ad 11), .ref (ad 12), .int rm, .long rb, .ref (ad 13), .int pr, .ref (ad 14), .ref (ad 15), .ref (ad 16), .ref (ad 17), .int (nI wo), .ref (ad 18), .ref (ad 19)]) := by rw [hen_1306, va_up_ne _ _ (by decide)]; exact es1302_1304
  have es1305_1306 : en_1306 7 = .inl (cy 0, 13, .inl (upd f_1305 0 (-1))) := by rw [hen_1306]; exact va_up_self _ _ _
  have hI_1306 : RX cy cs ad en_1306 := by rw [hen_1306]; exact upr_nw hI_1304 ⟨(upd f_1305 0 (-1)), rfl⟩
  have hf_1306 : ∀ c, (c ≠ 0 ∧ c ≠ 6 ∧ c ≠ 7) → en_1306 c = en c := fun c hc => Eq.trans (show en_1306 c = en_1304 c from by rw [hen_1306, va_up_ne _ _ (by omega)]) (hf_1304 c hc)
  have hkp_1306 : KPg en en_1306 := KPg_same hkp_1304 (show en_1306 0 = en_1304 0 from by rw [hen_1306, va_up_ne _ _ (by decide)])
  exact hp_vretM hx hb hr hlocks hh (⟨hI_1306, hf_1306, (by rw [es1302_1306]; rfl), (by rw [es1305_1306]; exact pk_us), (fun x => by rw [show en_1306 6 = en_1303 6 from by rw [hen_1306, va_up_ne _ _ (by decide), hen_1304, va_up_ne _ _ (by decide)]]; exact hx_1303 x), hkp_1306⟩) dX12_beginWords_16
theorem kw_X12_beginWords {R : Room} {s : State} {args : Array Value} {own : String} {idx : Nat} (hts : ∀ w ∈ TB, w.before args s = true) (hl : Cond.methodLink own idx yX12_beginWords ∈ TB) (hR : 1 + 1 ≤ R.frames ∧ 8 + (1 + 11) + 40 * 1 ≤ R.locals) : CallW R s args own RX12 idx yX12_beginWords cX12_beginWords 1 none (Cond.code yX12_beginWords cX12_beginWords 1 none :: TB) (rmN 1) 0 0 0 := cwV 0 hts (TB_V hl tw_1040 ts_38 tw_9 tw_1041) rfl rfl rfl (by decide +kernel) hR
set_option maxHeartbeats 4000000 in
set_option maxRecDepth 100000 in
/-- next -/
theorem c_X12_next (l : Launch) (D : va_G) (cy : Nat → ClassId) (sz : Nat) (cs : List Nat) (ad : Nat → Nat) (en : Nat → va_E) (hI : RX cy cs ad en) (n : Nat) (hn1 : 1 ≤ n) (hn8 : n ≤ 8) (d u : Nat) (hND : ND en n d u) (L : List (List Nat)) (hL : rem9 (rdI (en 0) 4).toNatClampNeg (alR (rdF (en 2))) n (nwF en) d u = L) (hLv : ∀ k, k ≤ d → ∀ i, i < (rdI (en 0) 2).toNatClampNeg * (rdI (en 0) 2).toNatClampNeg → rdL (en 6) (9 * k + i) = prM (rdI (en 0) 2).toNatClampNeg (rdI (en 0) 3).toNatClampNeg (rdF (en 1)) (nwF en) k i)   : Met l yX12_next (Cond.code yX12_next cX12_next 2 (some .boolean) :: TB) (rmN 2) (va_Pc [.ref (ad 0), .int (nI n)] (Pre D cy cs ad en sz)) (va_Qi (S := Nat → va_E) (fun r en1 => RX cy cs ad en1 ∧ (∀ c, (c ≠ 0 ∧ c ≠ 6 ∧ c ≠ 7) → en1 c = en c) ∧ ((r = 0 ∧ L = []) ∨ (r = 1 ∧ ∃ u1, ND en1 n (n - 1) u1 ∧ 1 ≤ u1 ∧ nmv (rdF (en 7)) d u < nmv (rdF (en1 7)) (n - 1) u1 ∧ L = pre (nwF en1) n :: rem9 (rdI (en 0) 4).toNatClampNeg (alR (rdF (en 2))) n (nwF en1) (n - 1) u1 ∧ ∀ k, k ≤ n → ∀ i, i < (rdI (en 0) 2).toNatClampNeg * (rdI (en 0) 2).toNatClampNeg → rdL (en1 6) (9 * k + i) = prM (rdI (en 0) 2).toNatClampNeg (rdI (en 0) 3).toNatClampNeg (rdF (en 1)) (nwF en1) k i)) ∧ KPg en en1) (PostM D cs ad) (Af cs ad sz)) 0 0 (Af cs ad sz) := by
  refine Met.ofW (cc := cX12_next) (maxL := 2) (ret := (some .boolean)) (by decide) rfl ?_
  intro p e s m args below meth c s₁ B hml hv
  obtain ⟨rfl, hsz, hP, hK, hD0⟩ := hv
  have hx := B.exec
  have hb := B.bytes
  have hr := B.returns
  have hts : ∀ w ∈ TB, w.before _ s = true := fun w h => atoms_spec (ws := _ :: TB) B.pre w (List.mem_cons_of_mem _ h)
  have hown : s.vm.findClass RX12 = some m.cls := findClass_of_methodNamed B.named
  have hlocks := B.notSynchronized
  have hh : Hp D (Af cs ad sz) (Af cs ad sz) s.heap s.heap [] cs ad en := ⟨hP, Af_self hD0, va_S.rf⟩
  have hA : ∀ q : Nat, s.heap.size ≤ q → Af cs ad sz q := fun q h => Or.inr (by rw [hsz] at h; exact h)
  have hl := lv_entry ([.ref (ad 0), .int (nI n)]) (n := 2) (Nat.le_of_ble_eq_true rfl)
  rw [lg_entry_eq]
  generalize (lg_sl ([.ref (ad 0), .int (nI n)]) ++ List.replicate (2 - (lg_sl ([.ref (ad 0), .int (nI n)])).length) Slot.unset).toArray = ls at hl ⊢
  have hl : lv_has ls 2 [(0, .ref (ad 0)), (1, .int (nI n))] := hl
  have hf0 : ∀ c, (c ≠ 0 ∧ c ≠ 6 ∧ c ≠ 7) → en c = en c := fun _ _ => rfl
  obtain ⟨fa, hi, wd, mo, tb, dp, many, grt, lst, nou, rm, rb, pr, wo, es1307, hwd2, hwd3, hmo, htb, hwo⟩ := getr_M hI
  have hq2 : (rdI (en 0) 2).toNatClampNeg = wd := by rw [show rdI (en 0) 2 = nI wd from by rw [es1307]; rfl]; exact nI_clamp (by omega)
  have hq3 : (rdI (en 0) 3).toNatClampNeg = mo := by rw [show rdI (en 0) 3 = nI mo from by rw [es1307]; rfl]; exact nI_clamp (by omega)
  have hq4 : (rdI (en 0) 4).toNatClampNeg = tb := by rw [show rdI (en 0) 4 = nI tb from by rw [es1307]; rfl]; exact nI_clamp (by omega)
  rw [hq4] at hL
  rw [hq2, hq3] at hLv
  obtain ⟨hd1, hd2, hd3⟩ := hND
  rcases hd2 with hd2 | ⟨hd2, hd4⟩
  · have hdp : dp = nI d := (show dp = rdI (en 0) 14 from by rw [es1307]; rfl).trans hd2
    rw [hdp] at es1307
    refine lv_aload_n hx hb dX12_next_0 rfl (lv_at hl 0 rfl) ?_
    refine hp_get hx hb hts ix12 hown hK hh (q := 0) rfl (hI.1 _ (by decide)) es1307 rfl 14 (by decide) (hts _ tw_893) (fun _ h9 => h9) rfl dX12_next_1 ?_
    refine lv_iload_n hx hb dX12_next_4 rfl (lv_at hl 1 rfl) ?_
    refine lv_icmp_ne (tgt := 18) hx hb dX12_next_5 (by decide) (fun c_1308 => ?_) (fun c_1308 => ?_)
    · have n_1308 : d ≠ n := n_neq (a := d) (b := n) c_1308 (by omega) (by omega)
      have loop_1309 : ∀ (fu mm1309 : Nat)  (d1309 : Nat) (u1309 : Nat) (en_1309 : Nat → va_E) (ls : Array Slot) (H : Heap) (locs : List Loc), mm1309 < fu → RX cy cs ad en_1309 → (∀ c, (c ≠ 0 ∧ c ≠ 6 ∧ c ≠ 7) → en_1309 c = en c) → (rdI (en_1309 0) 14 = nI d1309 ∧ d1309 < n) → (NWp (rdF (en_1309 7)) d1309 u1309) → (134217728 ≤ nmv (rdF (en_1309 7)) d1309 u1309 + mm1309 ∧ nmv (rdF (en 7)) d u ≤ nmv (rdF (en_1309 7)) d1309 u1309) → (rem9 tb (alR (rdF (en 2))) n (nwF en_1309) d1309 u1309 = L) → (∀ k, k ≤ d1309 → ∀ i, i < wd * wd → rdL (en_1309 6) (9 * k + i) = prM wd mo (rdF (en 1)) (nwF en_1309) k i) → (KPg en en_1309) → lv_has ls 2 [(0, .ref (ad 0)), (1, .int (nI n))] → Hp D (Af cs ad sz) (Af cs ad sz) s.heap H locs cs ad en_1309 → W p l e (headSpec (Cond.code yX12_next cX12_next 2 (some .boolean) :: TB) (rmN 2)).room s m ([.ref (ad 0), .int (nI n)] : List Value).toArray below meth c H locs 0 0 (MQ below (va_Qi (S := Nat → va_E) (fun r en1 => RX cy cs ad en1 ∧ (∀ c, (c ≠ 0 ∧ c ≠ 6 ∧ c ≠ 7) → en1 c = en c) ∧ ((r = 0 ∧ L = []) ∨ (r = 1 ∧ ∃ u1, ND en1 n (n - 1) u1 ∧ 1 ≤ u1 ∧ nmv (rdF (en 7)) d u < nmv (rdF (en1 7)) (n - 1) u1 ∧ L = pre (nwF en1) n :: rem9 (rdI (en 0) 4).toNatClampNeg (alR (rdF (en 2))) n (nwF en1) (n - 1) u1 ∧ ∀ k, k ≤ n → ∀ i, i < (rdI (en 0) 2).toNatClampNeg * (rdI (en 0) 2).toNatClampNeg → rdL (en1 6) (9 * k + i) = prM (rdI (en 0) 2).toNatClampNeg (rdI (en 0) 3).toNatClampNeg (rdF (en 1)) (nwF en1) k i)) ∧ KPg en en1) (PostM D cs ad) (Af cs ad sz)) ([.ref (ad 0), .int (nI n)] : List Value).toArray s 0 0 (Af cs ad sz)) (F0 m 18 ls []) := by
        intro fu
        induction fu with
        | zero => intro mm1309 d1309 u1309 en_1309 ls H locs h2; exact absurd h2 (by omega)
        | succ fu ih_1309 =>
          intro mm1309 d1309 u1309 en_1309 ls H locs hmm_1309 hI_1309 hf_1309 i0_1309 i1_1309 i2_1309 i3_1309 i4_1309 i5_1309 hl hh
          have hlt_1309 := nmv_lt i1_1309 (by omega)
          refine lv_aload_n hx hb dX12_next_18 rfl (lv_at hl 0 rfl) ?_
          obtain ⟨fa_1310, hi_1310, wd_1310, mo_1310, tb_1310, dp_1310, many_1310, grt_1310, lst_1310, nou_1310, rm_1310, rb_1310, pr_1310, wo_1310, es1310, p0_1310, p1_1310, p2_1310, p3_1310, p4_1310⟩ := getr_M hI_1309
          have hq2_1311 : wd_1310 = wd := n_eq ((show nI wd_1310 = rdI (en_1309 0) 2 from by rw [es1310]; rfl).trans (i5_1309.2.1.trans (show rdI (en 0) 2 = nI wd from by rw [es1307]; rfl))) (by omega) (by omega)
          have hq3_1311 : mo_1310 = mo := n_eq ((show nI mo_1310 = rdI (en_1309 0) 3 from by rw [es1310]; rfl).trans (i5_1309.2.2.1.trans (show rdI (en 0) 3 = nI mo from by rw [es1307]; rfl))) (by omega) (by omega)
          have hq4_1311 : tb_1310 = tb := n_eq ((show nI tb_1310 = rdI (en_1309 0) 4 from by rw [es1310]; rfl).trans (i5_1309.2.2.2.1.trans (show rdI (en 0) 4 = nI tb from by rw [es1307]; rfl))) (by omega) (by omega)
          have hq30_1311 : wo_1310 = wo := n_eq ((show nI wo_1310 = rdI (en_1309 0) 30 from by rw [es1310]; rfl).trans (i5_1309.2.2.2.2.2.1.trans (show rdI (en 0) 30 = nI wo from by rw [es1307]; rfl))) (by omega) (by omega)
          rw [hq2_1311, hq3_1311, hq4_1311, hq30_1311] at es1310
          have hdp_1312 : dp_1310 = nI d1309 := (show dp_1310 = rdI (en_1309 0) 14 from by rw [es1310]; rfl).trans (i0_1309.1)
          rw [hdp_1312] at es1310
          refine hp_get hx hb hts ix12 hown hK hh (q := 0) rfl (hI.1 _ (by decide)) es1310 rfl 14 (by decide) (hts _ tw_893) (fun _ h9 => h9) rfl dX12_next_19 ?_
          refine lv_if_lt (tgt := 183) hx hb dX12_next_22 (by decide) (fun c_1313 => ?_) (fun c_1313 => ?_)
          · have n_1313 : d1309 < 0 := n_lt (a := d1309) (b := 0) c_1313 (by omega) (by decide)
            exact absurd n_1313 (by omega)
          · have n_1313 : 0 ≤ d1309 := n_nlt (a := d1309) (b := 0) c_1313 (by omega) (by decide)
            refine lv_aload_n hx hb dX12_next_25 rfl (lv_at hl 0 rfl) ?_
            refine hp_get hx hb hts ix12 hown hK hh (q := 0) rfl (hI.1 _ (by decide)) es1310 rfl 11 (by decide) (hts _ tw_890) (fun _ h9 => h9) rfl dX12_next_26 ?_
            refine lv_aload_n hx hb dX12_next_29 rfl (lv_at hl 0 rfl) ?_
            refine hp_get hx hb hts ix12 hown hK hh (q := 0) rfl (hI.1 _ (by decide)) es1310 rfl 14 (by decide) (hts _ tw_893) (fun _ h9 => h9) rfl dX12_next_30 ?_
            refine lv_dup2_11 hx hb dX12_next_33 rfl rfl ?_
            obtain ⟨f_1314, es1314⟩ := getr_nw hI_1309
            refine hp_iald hx hb hK hh (q := 7) rfl (hI.1 _ (by decide)) es1314 (vp_in_nI (n := d1309) (by omega) (by decide)) dX12_next_34 ?_
            rw [nI_clamp (n := d1309) (by omega)]
            refine lv_iconst (v := 1) hx hb dX12_next_35 (by decide) ?_
            refine lv_iadd hx hb dX12_next_36 ?_
            rw [show f_1314 d1309 + 1 = nI u1309 from (show f_1314 d1309 + 1 = rdF (en_1309 7) d1309 + 1 from by rw [es1314]; rfl).trans i1_1309.2.1]
            refine hp_iast hx hb hK hh (q := 7) rfl (hI.1 _ (by decide)) es1314 (vp_in_nI (n := d1309) (by omega) (by decide)) dX12_next_37 (fun H locs en_1315 hen_1315 hh => ?_)
            rw [nI_clamp (n := d1309) (by omega)] at hen_1315
            have es1310_1315 : en_1315 0 = .inr (11, [.int fa_1310, .int hi_1310, .int (nI wd), .int (nI mo), .int (nI tb), .ref (ad 1), .ref (ad 2), .ref (ad 3), .ref (ad 4), .ref (ad 5), .ref (ad 6), .ref (ad 7), .ref (ad 8), .ref (ad 9), .int (nI d1309), .long many_1310, .long grt_1310, .long lst_1310, .long nou_1310, .ref (ad 10), .ref (ad 11), .ref (ad 12), .int rm_1310, .long rb_1310, .ref (ad 13), .int pr_1310, .ref (ad 14), .ref (ad 15), .ref (ad 16), .ref (ad 17), .int (nI wo), .ref (ad 18), .ref (ad 19)]) := by rw [hen_1315, va_up_ne _ _ (by decide)]; exact es1310
            have es1314_1315 : en_1315 7 = .inl (cy 0, 13, .inl (upd f_1314 d1309 (nI u1309))) := by rw [hen_1315]; exact va_up_self _ _ _
            have hI_1315 : RX cy cs ad en_1315 := by rw [hen_1315]; exact upr_nw hI_1309 ⟨(upd f_1314 d1309 (nI u1309)), rfl⟩
            have hf_1315 : ∀ c, (c ≠ 0 ∧ c ≠ 6 ∧ c ≠ 7) → en_1315 c = en c := fun c hc => Eq.trans (show en_1315 c = en_1309 c from by rw [hen_1315, va_up_ne _ _ (by omega)]) (hf_1309 c hc)
            have hkp_1315 : KPg en en_1315 := KPg_same i5_1309 (show en_1315 0 = en_1309 0 from by rw [hen_1315, va_up_ne _ _ (by decide)])
            have hno_1315 : ∀ i, i ≠ d1309 → rdF (en_1315 7) i = rdF (en_1309 7) i := fun i hi => by rw [es1314_1315, es1314]; exact pk_un hi
            have hnv_1315 : rdF (en_1315 7) d1309 = (nI u1309) := by rw [es1314_1315]; exact pk_us
            have loop_1316 : ∀ (fu mm1316 : Nat)  (w1316 : Nat) (en_1316 : Nat → va_E) (ls : Array Slot) (H : Heap) (locs : List Loc), mm1316 < fu → RX cy cs ad en_1316 → (∀ c, (c ≠ 0 ∧ c ≠ 6 ∧ c ≠ 7) → en_1316 c = en c) → (rdI (en_1316 0) 14 = nI d1309) → (rdF (en_1316 7) d1309 = nI w1316 ∧ u1309 ≤ w1316 ∧ w1316 ≤ 6) → (∀ i, i < d1309 → rdF (en_1316 7) i = rdF (en_1309 7) i) → (7 ≤ w1316 + mm1316) → (rem9 tb (alR (rdF (en 2))) n (nwF en_1309) d1309 w1316 = L) → (∀ k, k ≤ d1309 → ∀ i, i < wd * wd → rdL (en_1316 6) (9 * k + i) = prM wd mo (rdF (en 1)) (nwF en_1309) k i) → (KPg en en_1316) → lv_has ls 2 [(0, .ref (ad 0)), (1, .int (nI n))] → Hp D (Af cs ad sz) (Af cs ad sz) s.heap H locs cs ad en_1316 → W p l e (headSpec (Cond.code yX12_next cX12_next 2 (some .boolean) :: TB) (rmN 2)).room s m ([.ref (ad 0), .int (nI n)] : List Value).toArray below meth c H locs 0 0 (MQ below (va_Qi (S := Nat → va_E) (fun r en1 => RX cy cs ad en1 ∧ (∀ c, (c ≠ 0 ∧ c ≠ 6 ∧ c ≠ 7) → en1 c = en c) ∧ ((r = 0 ∧ L = []) ∨ (r = 1 ∧ ∃ u1, ND en1 n (n - 1) u1 ∧ 1 ≤ u1 ∧ nmv (rdF (en 7)) d u < nmv (rdF (en1 7)) (n - 1) u1 ∧ L = pre (nwF en1) n :: rem9 (rdI (en 0) 4).toNatClampNeg (alR (rdF (en 2))) n (nwF en1) (n - 1) u1 ∧ ∀ k, k ≤ n → ∀ i, i < (rdI (en 0) 2).toNatClampNeg * (rdI (en 0) 2).toNatClampNeg → rdL (en1 6) (9 * k + i) = prM (rdI (en 0) 2).toNatClampNeg (rdI (en 0) 3).toNatClampNeg (rdF (en 1)) (nwF en1) k i)) ∧ KPg en en1) (PostM D cs ad) (Af cs ad sz)) ([.ref (ad 0), .int (nI n)] : List Value).toArray s 0 0 (Af cs ad sz)) (F0 m 38 ls []) := by
              intro fu
              induction fu with
              | zero => intro mm1316 w1316 en_1316 ls H locs h2; exact absurd h2 (by omega)
              | succ fu ih_1316 =>
                intro mm1316 w1316 en_1316 ls H locs hmm_1316 hI_1316 hf_1316 i0_1316 i1_1316 i2_1316 i3_1316 i4_1316 i5_1316 i6_1316 hl hh
                refine lv_aload_n hx hb dX12_next_38 rfl (lv_at hl 0 rfl) ?_
                obtain ⟨fa_1317, hi_1317, wd_1317, mo_1317, tb_1317, dp_1317, many_1317, grt_1317, lst_1317, nou_1317, rm_1317, rb_1317, pr_1317, wo_1317, es1317, p0_1317, p1_1317, p2_1317, p3_1317, p4_1317⟩ := getr_M hI_1316
                have hq2_1318 : wd_1317 = wd := n_eq ((show nI wd_1317 = rdI (en_1316 0) 2 from by rw [es1317]; rfl).trans (i6_1316.2.1.trans (show rdI (en 0) 2 = nI wd from by rw [es1307]; rfl))) (by omega) (by omega)
                have hq3_1318 : mo_1317 = mo := n_eq ((show nI mo_1317 = rdI (en_1316 0) 3 from by rw [es1317]; rfl).trans (i6_1316.2.2.1.trans (show rdI (en 0) 3 = nI mo from by rw [es1307]; rfl))) (by omega) (by omega)
                have hq4_1318 : tb_1317 = tb := n_eq ((show nI tb_1317 = rdI (en_1316 0) 4 from by rw [es1317]; rfl).trans (i6_1316.2.2.2.1.trans (show rdI (en 0) 4 = nI tb from by rw [es1307]; rfl))) (by omega) (by omega)
                have hq30_1318 : wo_1317 = wo := n_eq ((show nI wo_1317 = rdI (en_1316 0) 30 from by rw [es1317]; rfl).trans (i6_1316.2.2.2.2.2.1.trans (show rdI (en 0) 30 = nI wo from by rw [es1307]; rfl))) (by omega) (by omega)
                rw [hq2_1318, hq3_1318, hq4_1318, hq30_1318] at es1317
                have hdp_1319 : dp_1317 = nI d1309 := (show dp_1317 = rdI (en_1316 0) 14 from by rw [es1317]; rfl).trans (i0_1316)
                rw [hdp_1319] at es1317
                refine hp_get hx hb hts ix12 hown hK hh (q := 0) rfl (hI.1 _ (by decide)) es1317 rfl 11 (by decide) (hts _ tw_890) (fun _ h9 => h9) rfl dX12_next_39 ?_
                refine lv_aload_n hx hb dX12_next_42 rfl (lv_at hl 0 rfl) ?_
                refine hp_get hx hb hts ix12 hown hK hh (q := 0) rfl (hI.1 _ (by decide)) es1317 rfl 14 (by decide) (hts _ tw_893) (fun _ h9 => h9) rfl dX12_next_43 ?_
                obtain ⟨f_1320, es1320⟩ := getr_nw hI_1316
                refine hp_iald hx hb hK hh (q := 7) rfl (hI.1 _ (by decide)) es1320 (vp_in_nI (n := d1309) (by omega) (by decide)) dX12_next_46 ?_
                rw [nI_clamp (n := d1309) (by omega)]
                rw [show f_1320 d1309 = nI w1316 from (show f_1320 d1309 = rdF (en_1316 7) d1309 from by rw [es1320]; rfl).trans i1_1316.1]
                refine lv_aload_n hx hb dX12_next_47 rfl (lv_at hl 0 rfl) ?_
                refine hp_get hx hb hts ix12 hown hK hh (q := 0) rfl (hI.1 _ (by decide)) es1317 rfl 4 (by decide) (hts _ tw_883) (fun _ h9 => h9) rfl dX12_next_48 ?_
                refine lv_icmp_ge (tgt := 104) hx hb dX12_next_51 (by decide) (fun c_1321 => ?_) (fun c_1321 => ?_)
                · have n_1321 : tb ≤ w1316 := n_le (a := tb) (b := w1316) c_1321 (by omega) (by omega)
                  refine lv_aload_n hx hb dX12_next_104 rfl (lv_at hl 0 rfl) ?_
                  refine hp_get hx hb hts ix12 hown hK hh (q := 0) rfl (hI.1 _ (by decide)) es1317 rfl 11 (by decide) (hts _ tw_890) (fun _ h9 => h9) rfl dX12_next_105 ?_
                  refine lv_aload_n hx hb dX12_next_108 rfl (lv_at hl 0 rfl) ?_
                  refine hp_get hx hb hts ix12 hown hK hh (q := 0) rfl (hI.1 _ (by decide)) es1317 rfl 14 (by decide) (hts _ tw_893) (fun _ h9 => h9) rfl dX12_next_109 ?_
                  refine hp_iald hx hb hK hh (q := 7) rfl (hI.1 _ (by decide)) es1320 (vp_in_nI (n := d1309) (by omega) (by decide)) dX12_next_112 ?_
                  rw [nI_clamp (n := d1309) (by omega)]
                  rw [show f_1320 d1309 = nI w1316 from (show f_1320 d1309 = rdF (en_1316 7) d1309 from by rw [es1320]; rfl).trans i1_1316.1]
                  refine lv_aload_n hx hb dX12_next_113 rfl (lv_at hl 0 rfl) ?_
                  refine hp_get hx hb hts ix12 hown hK hh (q := 0) rfl (hI.1 _ (by decide)) es1317 rfl 4 (by decide) (hts _ tw_883) (fun _ h9 => h9) rfl dX12_next_114 ?_
                  refine lv_icmp_lt (tgt := 133) hx hb dX12_next_117 (by decide) (fun c_1322 => ?_) (fun c_1322 => ?_)
                  · have n_1322 : w1316 < tb := n_lt (a := w1316) (b := tb) c_1322 (by omega) (by omega)
                    exact absurd n_1322 (by omega)
                  · have n_1322 : tb ≤ w1316 := n_nlt (a := w1316) (b := tb) c_1322 (by omega) (by omega)
                    rcases Nat.eq_zero_or_pos d1309 with hz9 | hz9
                    · have hz8 := hz9
                      refine lv_aload_n hx hb dX12_next_120 rfl (lv_at hl 0 rfl) ?_
                      refine lv_dup hx hb dX12_next_121 rfl ?_
                      refine hp_get hx hb hts ix12 hown hK hh (q := 0) rfl (hI.1 _ (by decide)) es1317 rfl 14 (by decide) (hts _ tw_893) (fun _ h9 => h9) rfl dX12_next_122 ?_
                      refine lv_iconst (v := 1) hx hb dX12_next_125 (by decide) ?_
                      refine lv_isub hx hb dX12_next_126 ?_
                      rw [show nI d1309 - (1 : Int32) = -1 from by rw [hz9]; decide]
                      refine hp_put hx hb hts ix12 tyX12 tyX12_ok nmX12 hown hK hh (q := 0) rfl (hI.1 _ (by decide)) es1317 rfl 14 (by decide) (hts _ tw_893) (fun _ h9 => h9) rfl (ty := .int) (by decide +kernel) rfl rfl (Nat.le_of_ble_eq_true rfl) dX12_next_127 (fun H locs en_1323 hen_1323 hh => ?_)
                      have es1320_1323 : en_1323 7 = .inl (cy 0, 13, .inl f_1320) := by rw [hen_1323, va_up_ne _ _ (by decide)]; exact es1320
                      have es1317_1323 : en_1323 0 = .inr (11, [.int fa_1317, .int hi_1317, .int (nI wd), .int (nI mo), .int (nI tb), .ref (ad 1), .ref (ad 2), .ref (ad 3), .ref (ad 4), .ref (ad 5), .ref (ad 6), .ref (ad 7), .ref (ad 8), .ref (ad 9), .int (-1), .long many_1317, .long grt_1317, .long lst_1317, .long nou_1317, .ref (ad 10), .ref (ad 11), .ref (ad 12), .int rm_1317, .long rb_1317, .ref (ad 13), .int pr_1317, .ref (ad 14), .ref (ad 15), .ref (ad 16), .ref (ad 17), .int (nI wo), .ref (ad 18), .ref (ad 19)]) := by rw [hen_1323]; exact va_up_self _ _ _
                      have hI_1323 : RX cy cs ad en_1323 := by rw [hen_1323]; exact upr_M hI_1316 ⟨fa_1317, hi_1317, wd, mo, tb, (-1), many_1317, grt_1317, lst_1317, nou_1317, rm_1317, rb_1317, pr_1317, wo, rfl, hwd2, hwd3, hmo, htb, hwo⟩
                      have hf_1323 : ∀ c, (c ≠ 0 ∧ c ≠ 6 ∧ c ≠ 7) → en_1323 c = en c := fun c hc => Eq.trans (show en_1323 c = en_1316 c from by rw [hen_1323, va_up_ne _ _ (by omega)]) (hf_1316 c hc)
                      have hkp_1323 : KPg en en_1323 := KPg_fv i6_1316 es1317 es1317_1323 hi_1317 (nI wd) (nI mo) (nI tb) pr_1317 (nI wo) many_1317 grt_1317 lst_1317 nou_1317 rm_1317 rb_1317 rfl rfl rfl rfl rfl rfl rfl rfl rfl rfl rfl rfl rfl rfl rfl rfl rfl rfl rfl rfl rfl rfl rfl rfl
                      have hg7_1323 : ∀ i, rdF (en_1323 7) i = rdF (en_1316 7) i := fun i => by rw [hen_1323, va_up_ne _ _ (by decide)]
                      have ha_1323 : ∀ i, i < d1309 → rdF (en_1323 7) i = rdF (en_1309 7) i := fun i hi => (hg7_1323 i).trans (i2_1316 i hi)
                      have hwv_1323 : rdF (en_1323 7) d1309 = nI w1316 := (hg7_1323 d1309).trans i1_1316.1
                      refine lv_goto (tgt := 18) hx hb dX12_next_130 (by decide) ?_
                      refine lv_aload_n hx hb dX12_next_18 rfl (lv_at hl 0 rfl) ?_
                      refine hp_get hx hb hts ix12 hown hK hh (q := 0) rfl (hI.1 _ (by decide)) es1317_1323 rfl 14 (by decide) (hts _ tw_893) (fun _ h9 => h9) rfl dX12_next_19 ?_
                      refine lv_if_lt (tgt := 183) hx hb dX12_next_22 (by decide) (fun _ => ?_) (fun c_0 => absurd c_0 (by decide))
                      refine lv_iconst (v := 0) hx hb dX12_next_183 (by decide) ?_
                      exact hp_iretM hx hb hr rfl hlocks hh (⟨hI_1323, hf_1323, Or.inl ⟨rfl, i4_1316.symm.trans (by rw [hz8]; exact rem9_end (by omega))⟩, hkp_1323⟩) dX12_next_184
                    · obtain ⟨v_1324, hv_1324, hve_1324⟩ := i1_1309.1 (d1309 - 1) (by omega)
                      refine lv_aload_n hx hb dX12_next_120 rfl (lv_at hl 0 rfl) ?_
                      refine lv_dup hx hb dX12_next_121 rfl ?_
                      refine hp_get hx hb hts ix12 hown hK hh (q := 0) rfl (hI.1 _ (by decide)) es1317 rfl 14 (by decide) (hts _ tw_893) (fun _ h9 => h9) rfl dX12_next_122 ?_
                      refine lv_iconst (v := 1) hx hb dX12_next_125 (by decide) ?_
                      refine lv_isub hx hb dX12_next_126 ?_
                      rw [show (1 : Int32) = nI 1 from rfl, pk_sub (a := d1309) (b := 1) (by omega)]
                      refine hp_put hx hb hts ix12 tyX12 tyX12_ok nmX12 hown hK hh (q := 0) rfl (hI.1 _ (by decide)) es1317 rfl 14 (by decide) (hts _ tw_893) (fun _ h9 => h9) rfl (ty := .int) (by decide +kernel) rfl rfl (Nat.le_of_ble_eq_true rfl) dX12_next_127 (fun H locs en_1325 hen_1325 hh => ?_)
                      have es1320_1325 : en_1325 7 = .inl (cy 0, 13, .inl f_1320) := by rw [hen_1325, va_up_ne _ _ (by decide)]; exact es1320
                      have es1317_1325 : en_1325 0 = .inr (11, [.int fa_1317, .int hi_1317, .int (nI wd), .int (nI mo), .int (nI tb), .ref (ad 1), .ref (ad 2), .ref (ad 3), .ref (ad 4), .ref (ad 5), .ref (ad 6), .ref (ad 7), .ref (ad 8), .ref (ad 9), .int (nI (d1309 - 1)), .long many_1317, .long grt_1317, .long lst_1317, .long nou_1317, .ref (ad 10), .ref (ad 11), .ref (ad 12), .int rm_1317, .long rb_1317, .ref (ad 13), .int pr_1317, .ref (ad 14), .ref (ad 15), .ref (ad 16), .ref (ad 17), .int (nI wo), .ref (ad 18), .ref (ad 19)]) := by rw [hen_1325]; exact va_up_self _ _ _
                      have hI_1325 : RX cy cs ad en_1325 := by rw [hen_1325]; exact upr_M hI_1316 ⟨fa_1317, hi_1317, wd, mo, tb, (nI (d1309 - 1)), many_1317, grt_1317, lst_1317, nou_1317, rm_1317, rb_1317, pr_1317, wo, rfl, hwd2, hwd3, hmo, htb, hwo⟩
                      have hf_1325 : ∀ c, (c ≠ 0 ∧ c ≠ 6 ∧ c ≠ 7) → en_1325 c = en c := fun c hc => Eq.trans (show en_1325 c = en_1316 c from by rw [hen_1325, va_up_ne _ _ (by omega)]) (hf_1316 c hc)
                      have hkp_1325 : KPg en en_1325 := KPg_fv i6_1316 es1317 es1317_1325 hi_1317 (nI wd) (nI mo) (nI tb) pr_1317 (nI wo) many_1317 grt_1317 lst_1317 nou_1317 rm_1317 rb_1317 rfl rfl rfl rfl rfl rfl rfl rfl rfl rfl rfl rfl rfl rfl rfl rfl rfl rfl rfl rfl rfl rfl rfl rfl
                      have hg7_1325 : ∀ i, rdF (en_1325 7) i = rdF (en_1316 7) i := fun i => by rw [hen_1325, va_up_ne _ _ (by decide)]
                      have ha_1325 : ∀ i, i < d1309 → rdF (en_1325 7) i = rdF (en_1309 7) i := fun i hi => (hg7_1325 i).trans (i2_1316 i hi)
                      have hwv_1325 : rdF (en_1325 7) d1309 = nI w1316 := (hg7_1325 d1309).trans i1_1316.1
                      refine lv_goto (tgt := 18) hx hb dX12_next_130 (by decide) ?_
                      have hNB_1326 := NWp_back i1_1309 (by omega) (by omega) ha_1325 hv_1324 hve_1324
                      exact ih_1309 (mm1309 - 1) (d1309 - 1) (v_1324 + 1) en_1325 ls H locs (by omega) hI_1325 hf_1325 (⟨by rw [es1317_1325]; rfl, by omega⟩) (hNB_1326.1) (by have h1 := hNB_1326.2; have h2 := i2_1309; omega) (RB9 (by omega) (by omega) i4_1316 (by show (rdF (en_1309 7) (d1309 - 1)).toNatClampNeg = v_1324; rw [hve_1324]; exact nI_clamp (by omega)) (fun i hi => congrArg Int32.toNatClampNeg (ha_1325 i (by omega)))) (LV_c i5_1316 (by omega) (by rw [hen_1325, va_up_ne _ _ (by decide)]) (fun i hi => congrArg Int32.toNatClampNeg (ha_1325 i (by omega)))) (hkp_1325) (lv_sub hl [0, 1] rfl) hh
                · have n_1321 : w1316 < tb := n_nle (a := tb) (b := w1316) c_1321 (by omega) (by omega)
                  refine lv_aload_n hx hb dX12_next_54 rfl (lv_at hl 0 rfl) ?_
                  refine hp_get hx hb hts ix12 hown hK hh (q := 0) rfl (hI.1 _ (by decide)) es1317 rfl 14 (by decide) (hts _ tw_893) (fun _ h9 => h9) rfl dX12_next_55 ?_
                  refine lv_if_le (tgt := 104) hx hb dX12_next_58 (by decide) (fun c_1327 => ?_) (fun c_1327 => ?_)
                  · have n_1327 : d1309 ≤ 0 := n_le (a := d1309) (b := 0) c_1327 (by omega) (by decide)
                    refine lv_aload_n hx hb dX12_next_104 rfl (lv_at hl 0 rfl) ?_
                    refine hp_get hx hb hts ix12 hown hK hh (q := 0) rfl (hI.1 _ (by decide)) es1317 rfl 11 (by decide) (hts _ tw_890) (fun _ h9 => h9) rfl dX12_next_105 ?_
                    refine lv_aload_n hx hb dX12_next_108 rfl (lv_at hl 0 rfl) ?_
                    refine hp_get hx hb hts ix12 hown hK hh (q := 0) rfl (hI.1 _ (by decide)) es1317 rfl 14 (by decide) (hts _ tw_893) (fun _ h9 => h9) rfl dX12_next_109 ?_
                    refine hp_iald hx hb hK hh (q := 7) rfl (hI.1 _ (by decide)) es1320 (vp_in_nI (n := d1309) (by omega) (by decide)) dX12_next_112 ?_
                    rw [nI_clamp (n := d1309) (by omega)]
                    rw [show f_1320 d1309 = nI w1316 from (show f_1320 d1309 = rdF (en_1316 7) d1309 from by rw [es1320]; rfl).trans i1_1316.1]
                    refine lv_aload_n hx hb dX12_next_113 rfl (lv_at hl 0 rfl) ?_
                    refine hp_get hx hb hts ix12 hown hK hh (q := 0) rfl (hI.1 _ (by decide)) es1317 rfl 4 (by decide) (hts _ tw_883) (fun _ h9 => h9) rfl dX12_next_114 ?_
                    refine lv_icmp_lt (tgt := 133) hx hb dX12_next_117 (by decide) (fun c_1328 => ?_) (fun c_1328 => ?_)
                    · have n_1328 : w1316 < tb := n_lt (a := w1316) (b := tb) c_1328 (by omega) (by omega)
                      refine lv_aload_n hx hb dX12_next_133 rfl (lv_at hl 0 rfl) ?_
                      refine lv_aload_n hx hb dX12_next_134 rfl (lv_at hl 0 rfl) ?_
                      refine hp_get hx hb hts ix12 hown hK hh (q := 0) rfl (hI.1 _ (by decide)) es1317 rfl 14 (by decide) (hts _ tw_893) (fun _ h9 => h9) rfl dX12_next_135 ?_
                      refine lv_aload_n hx hb dX12_next_138 rfl (lv_at hl 0 rfl) ?_
                      refine hp_get hx hb hts ix12 hown hK hh (q := 0) rfl (hI.1 _ (by decide)) es1317 rfl 11 (by decide) (hts _ tw_890) (fun _ h9 => h9) rfl dX12_next_139 ?_
                      refine lv_aload_n hx hb dX12_next_142 rfl (lv_at hl 0 rfl) ?_
                      refine hp_get hx hb hts ix12 hown hK hh (q := 0) rfl (hI.1 _ (by decide)) es1317 rfl 14 (by decide) (hts _ tw_893) (fun _ h9 => h9) rfl dX12_next_143 ?_
                      refine hp_iald hx hb hK hh (q := 7) rfl (hI.1 _ (by decide)) es1320 (vp_in_nI (n := d1309) (by omega) (by decide)) dX12_next_146 ?_
                      rw [nI_clamp (n := d1309) (by omega)]
                      rw [show f_1320 d1309 = nI w1316 from (show f_1320 d1309 = rdF (en_1316 7) d1309 from by rw [es1320]; rfl).trans i1_1316.1]
                      refine hp_callMv (va_runV (As := [.int (nI d1309), .int (nI w1316)]) (rest := []) ⟨hx, hb, hml, hown, hts⟩ (c_X12_goOn l D cy _ cs ad en_1316 hI_1316 d1309 w1316 (by omega) (by omega)) (kw_X12_goOn hts tw_1050 ⟨by decide, by decide⟩) (preV_of hh hK (hI.1 _ (by decide)) es1317 rfl) rfl rfl hl.1 rfl (lv_room (Nat.le_of_ble_eq_true rfl)) dX12_next_147 ⟨Nat.le_of_ble_eq_true rfl, Nat.le_of_ble_eq_true rfl⟩) hh hA (fun H locs en_1329 hw_1329 hh => ?_)
                      have hok_1329 : okk (alR (rdF (en 2))) (pv (nwF en_1309) d1309) w1316 = true := okR_0 (by omega)
                      obtain ⟨hI_1329, hu_1329, hx_1329⟩ := hw_1329
                      have es1317_1329 : en_1329 0 = .inr (11, [.int fa_1317, .int hi_1317, .int (nI wd), .int (nI mo), .int (nI tb), .ref (ad 1), .ref (ad 2), .ref (ad 3), .ref (ad 4), .ref (ad 5), .ref (ad 6), .ref (ad 7), .ref (ad 8), .ref (ad 9), .int (nI d1309), .long many_1317, .long grt_1317, .long lst_1317, .long nou_1317, .ref (ad 10), .ref (ad 11), .ref (ad 12), .int rm_1317, .long rb_1317, .ref (ad 13), .int pr_1317, .ref (ad 14), .ref (ad 15), .ref (ad 16), .ref (ad 17), .int (nI wo), .ref (ad 18), .ref (ad 19)]) := (hu_1329 0 (by omega)).trans es1317
                      have es1320_1329 : en_1329 7 = .inl (cy 0, 13, .inl f_1320) := (hu_1329 7 (by omega)).trans es1320
                      have hf_1329 : ∀ c, (c ≠ 0 ∧ c ≠ 6 ∧ c ≠ 7) → en_1329 c = en c := fun c hc => (hu_1329 c (by omega)).trans (hf_1316 c hc)
                      have hkp_1329 : KPg en en_1329 := KPg_same i6_1316 (hu_1329 0 (by omega))
                      have hg7_1329 : ∀ i, rdF (en_1329 7) i = rdF (en_1316 7) i := fun i => by rw [hu_1329 7 (by omega)]
                      have ha_1329 : ∀ i, i < d1309 → rdF (en_1329 7) i = rdF (en_1309 7) i := fun i hi => (hg7_1329 i).trans (i2_1316 i hi)
                      have hwv_1329 : rdF (en_1329 7) d1309 = nI w1316 := (hg7_1329 d1309).trans i1_1316.1
                      have hgo_1329 : ∀ x, rdL (en_1329 6) x = if 9 * d1309 + 9 ≤ x ∧ x < 9 * d1309 + 9 + wd * wd then goV wd mo d1309 w1316 (rdL (en_1316 6)) (rdF (en 1)) (x - (9 * d1309 + 9)) else rdL (en_1316 6) x := fun x => by have h9 := hx_1329 x; rw [show (rdI (en_1316 0) 2).toNatClampNeg = wd from by rw [show rdI (en_1316 0) 2 = nI wd from by rw [es1317]; rfl]; exact nI_clamp (by omega), show (rdI (en_1316 0) 3).toNatClampNeg = mo from by rw [show rdI (en_1316 0) 3 = nI mo from by rw [es1317]; rfl]; exact nI_clamp (by omega), show rdF (en_1316 1) = rdF (en 1) from by rw [hf_1316 1 (by omega)]] at h9; exact h9
                      refine lv_aload_n hx hb dX12_next_150 rfl (lv_at hl 0 rfl) ?_
                      refine lv_dup hx hb dX12_next_151 rfl ?_
                      refine hp_get hx hb hts ix12 hown hK hh (q := 0) rfl (hI.1 _ (by decide)) es1317_1329 rfl 14 (by decide) (hts _ tw_893) (fun _ h9 => h9) rfl dX12_next_152 ?_
                      refine lv_iconst (v := 1) hx hb dX12_next_155 (by decide) ?_
                      refine lv_iadd hx hb dX12_next_156 ?_
                      rw [show (1 : Int32) = nI 1 from rfl, nI_add d1309 1]
                      refine hp_put hx hb hts ix12 tyX12 tyX12_ok nmX12 hown hK hh (q := 0) rfl (hI.1 _ (by decide)) es1317_1329 rfl 14 (by decide) (hts _ tw_893) (fun _ h9 => h9) rfl (ty := .int) (by decide +kernel) rfl rfl (Nat.le_of_ble_eq_true rfl) dX12_next_157 (fun H locs en_1330 hen_1330 hh => ?_)
                      have es1320_1330 : en_1330 7 = .inl (cy 0, 13, .inl f_1320) := by rw [hen_1330, va_up_ne _ _ (by decide)]; exact es1320_1329
                      have es1317_1330 : en_1330 0 = .inr (11, [.int fa_1317, .int hi_1317, .int (nI wd), .int (nI mo), .int (nI tb), .ref (ad 1), .ref (ad 2), .ref (ad 3), .ref (ad 4), .ref (ad 5), .ref (ad 6), .ref (ad 7), .ref (ad 8), .ref (ad 9), .int (nI (d1309 + 1)), .long many_1317, .long grt_1317, .long lst_1317, .long nou_1317, .ref (ad 10), .ref (ad 11), .ref (ad 12), .int rm_1317, .long rb_1317, .ref (ad 13), .int pr_1317, .ref (ad 14), .ref (ad 15), .ref (ad 16), .ref (ad 17), .int (nI wo), .ref (ad 18), .ref (ad 19)]) := by rw [hen_1330]; exact va_up_self _ _ _
                      have hI_1330 : RX cy cs ad en_1330 := by rw [hen_1330]; exact upr_M hI_1329 ⟨fa_1317, hi_1317, wd, mo, tb, (nI (d1309 + 1)), many_1317, grt_1317, lst_1317, nou_1317, rm_1317, rb_1317, pr_1317, wo, rfl, hwd2, hwd3, hmo, htb, hwo⟩
                      have hf_1330 : ∀ c, (c ≠ 0 ∧ c ≠ 6 ∧ c ≠ 7) → en_1330 c = en c := fun c hc => Eq.trans (show en_1330 c = en_1329 c from by rw [hen_1330, va_up_ne _ _ (by omega)]) (hf_1329 c hc)
                      have hkp_1330 : KPg en en_1330 := KPg_fv hkp_1329 es1317_1329 es1317_1330 hi_1317 (nI wd) (nI mo) (nI tb) pr_1317 (nI wo) many_1317 grt_1317 lst_1317 nou_1317 rm_1317 rb_1317 rfl rfl rfl rfl rfl rfl rfl rfl rfl rfl rfl rfl rfl rfl rfl rfl rfl rfl rfl rfl rfl rfl rfl rfl
                      have hg7_1330 : ∀ i, rdF (en_1330 7) i = rdF (en_1329 7) i := fun i => by rw [hen_1330, va_up_ne _ _ (by decide)]
                      have ha_1330 : ∀ i, i < d1309 → rdF (en_1330 7) i = rdF (en_1309 7) i := fun i hi => (hg7_1330 i).trans (ha_1329 i hi)
                      have hwv_1330 : rdF (en_1330 7) d1309 = nI w1316 := (hg7_1330 d1309).trans hwv_1329
                      refine lv_aload_n hx hb dX12_next_160 rfl (lv_at hl 0 rfl) ?_
                      refine hp_get hx hb hts ix12 hown hK hh (q := 0) rfl (hI.1 _ (by decide)) es1317_1330 rfl 14 (by decide) (hts _ tw_893) (fun _ h9 => h9) rfl dX12_next_161 ?_
                      refine lv_iload_n hx hb dX12_next_164 rfl (lv_at hl 1 rfl) ?_
                      refine lv_icmp_ne (tgt := 170) hx hb dX12_next_165 (by decide) (fun c_1331 => ?_) (fun c_1331 => ?_)
                      · have n_1331 : (d1309 + 1) ≠ n := n_neq (a := (d1309 + 1)) (b := n) c_1331 (by omega) (by omega)
                        refine lv_aload_n hx hb dX12_next_170 rfl (lv_at hl 0 rfl) ?_
                        refine hp_get hx hb hts ix12 hown hK hh (q := 0) rfl (hI.1 _ (by decide)) es1317_1330 rfl 11 (by decide) (hts _ tw_890) (fun _ h9 => h9) rfl dX12_next_171 ?_
                        refine lv_aload_n hx hb dX12_next_174 rfl (lv_at hl 0 rfl) ?_
                        refine hp_get hx hb hts ix12 hown hK hh (q := 0) rfl (hI.1 _ (by decide)) es1317_1330 rfl 14 (by decide) (hts _ tw_893) (fun _ h9 => h9) rfl dX12_next_175 ?_
                        refine lv_iconst (v := (-1)) hx hb dX12_next_178 (by decide) ?_
                        refine hp_iast hx hb hK hh (q := 7) rfl (hI.1 _ (by decide)) es1320_1330 (vp_in_nI (n := (d1309 + 1)) (by omega) (by decide)) dX12_next_179 (fun H locs en_1332 hen_1332 hh => ?_)
                        rw [nI_clamp (n := (d1309 + 1)) (by omega)] at hen_1332
                        have es1317_1332 : en_1332 0 = .inr (11, [.int fa_1317, .int hi_1317, .int (nI wd), .int (nI mo), .int (nI tb), .ref (ad 1), .ref (ad 2), .ref (ad 3), .ref (ad 4), .ref (ad 5), .ref (ad 6), .ref (ad 7), .ref (ad 8), .ref (ad 9), .int (nI (d1309 + 1)), .long many_1317, .long grt_1317, .long lst_1317, .long nou_1317, .ref (ad 10), .ref (ad 11), .ref (ad 12), .int rm_1317, .long rb_1317, .ref (ad 13), .int pr_1317, .ref (ad 14), .ref (ad 15), .ref (ad 16), .ref (ad 17), .int (nI wo), .ref (ad 18), .ref (ad 19)]) := by rw [hen_1332, va_up_ne _ _ (by decide)]; exact es1317_1330
                        have es1320_1332 : en_1332 7 = .inl (cy 0, 13, .inl (upd f_1320 (d1309 + 1) (-1))) := by rw [hen_1332]; exact va_up_self _ _ _
                        have hI_1332 : RX cy cs ad en_1332 := by rw [hen_1332]; exact upr_nw hI_1330 ⟨(upd f_1320 (d1309 + 1) (-1)), rfl⟩
                        have hf_1332 : ∀ c, (c ≠ 0 ∧ c ≠ 6 ∧ c ≠ 7) → en_1332 c = en c := fun c hc => Eq.trans (show en_1332 c = en_1330 c from by rw [hen_1332, va_up_ne _ _ (by omega)]) (hf_1330 c hc)
                        have hkp_1332 : KPg en en_1332 := KPg_same hkp_1330 (show en_1332 0 = en_1330 0 from by rw [hen_1332, va_up_ne _ _ (by decide)])
                        have hno_1332 : ∀ i, i ≠ (d1309 + 1) → rdF (en_1332 7) i = rdF (en_1330 7) i := fun i hi => by rw [es1320_1332, es1320_1330]; exact pk_un hi
                        have hnv_1332 : rdF (en_1332 7) (d1309 + 1) = (-1) := by rw [es1320_1332]; exact pk_us
                        have ha_1332 : ∀ i, i < d1309 → rdF (en_1332 7) i = rdF (en_1309 7) i := fun i hi => (hno_1332 i (by omega)).trans (ha_1330 i hi)
                        have hwv_1332 : rdF (en_1332 7) d1309 = nI w1316 := (hno_1332 d1309 (by omega)).trans hwv_1330
                        refine lv_goto (tgt := 18) hx hb dX12_next_180 (by decide) ?_
                        have hNB_1333 := NWp_desc i1_1309 (by omega) ha_1332 hwv_1332 (by omega) (by omega) hnv_1332
                        exact ih_1309 (mm1309 - 1) (d1309 + 1) 0 en_1332 ls H locs (by omega) hI_1332 hf_1332 (⟨by rw [es1317_1332]; rfl, by omega⟩) (hNB_1333.1) (by have h1 := hNB_1333.2; have h2 := i2_1309; omega) ((rem9_deep (by omega) hok_1329 (by omega) (fun i hi => congrArg Int32.toNatClampNeg (ha_1332 i (by omega))) (by show (rdF (en_1332 7) d1309).toNatClampNeg = w1316; rw [hwv_1332]; exact nI_clamp (by omega))).symm.trans i4_1316) (by rw [show en_1332 6 = en_1329 6 from by rw [hen_1332, va_up_ne _ _ (by decide), hen_1330, va_up_ne _ _ (by decide)]]; exact LV_go i5_1316 hgo_1329 (mww (by omega)) (fun i hi => congrArg Int32.toNatClampNeg (ha_1332 i (by omega))) (by show (rdF (en_1332 7) d1309).toNatClampNeg = w1316; rw [hwv_1332]; exact nI_clamp (by omega))) (hkp_1332) (lv_sub hl [0, 1] rfl) hh
                      · have n_1331 : (d1309 + 1) = n := n_eq (a := (d1309 + 1)) (b := n) c_1331 (by omega) (by omega)
                        refine lv_iconst (v := 1) hx hb dX12_next_168 (by decide) ?_
                        have hNR_1334 := NWp_ret i1_1309 ha_1330 hwv_1330 (by omega) (by omega)
                        have hdn_1334 : n - 1 = d1309 := by omega
                        have hlv_1334 : ∀ k, k ≤ d1309 + 1 → ∀ i, i < wd * wd → rdL (en_1330 6) (9 * k + i) = prM wd mo (rdF (en 1)) (nwF en_1330) k i := by rw [show en_1330 6 = en_1329 6 from by rw [hen_1330, va_up_ne _ _ (by decide)]]; exact LV_go i5_1316 hgo_1329 (mww (by omega)) (fun i hi => congrArg Int32.toNatClampNeg (ha_1330 i (by omega))) (by show (rdF (en_1330 7) d1309).toNatClampNeg = w1316; rw [hwv_1330]; exact nI_clamp (by omega))
                        have hrt_1334 := RT9 i4_1316 (by omega) hok_1329 (by omega) (fun i hi => congrArg Int32.toNatClampNeg (ha_1330 i (by omega))) (by show (rdF (en_1330 7) d1309).toNatClampNeg = w1316; rw [hwv_1330]; exact nI_clamp (by omega))
                        exact hp_iretM hx hb hr rfl hlocks hh (⟨hI_1330, hf_1330, Or.inr ⟨rfl, w1316 + 1, ⟨by omega, Or.inr ⟨by rw [es1317_1330]; exact congrArg nI (by omega), by omega⟩, by rw [hdn_1334]; exact hNR_1334.1⟩, by omega, (by have h1 := hNR_1334.2; have h2 := i2_1309.2; rw [hdn_1334]; omega), (by rw [hq4]; exact hrt_1334), (fun k hk => by rw [hq2, hq3]; exact hlv_1334 k (by omega))⟩, hkp_1330⟩) dX12_next_169
                    · have n_1328 : tb ≤ w1316 := n_nlt (a := w1316) (b := tb) c_1328 (by omega) (by omega)
                      exact absurd n_1328 (by omega)
                  · have n_1327 : 0 < d1309 := n_nle (a := d1309) (b := 0) c_1327 (by omega) (by decide)
                    refine lv_aload_n hx hb dX12_next_61 rfl (lv_at hl 0 rfl) ?_
                    refine lv_aload_n hx hb dX12_next_62 rfl (lv_at hl 0 rfl) ?_
                    refine hp_get hx hb hts ix12 hown hK hh (q := 0) rfl (hI.1 _ (by decide)) es1317 rfl 11 (by decide) (hts _ tw_890) (fun _ h9 => h9) rfl dX12_next_63 ?_
                    refine lv_aload_n hx hb dX12_next_66 rfl (lv_at hl 0 rfl) ?_
                    refine hp_get hx hb hts ix12 hown hK hh (q := 0) rfl (hI.1 _ (by decide)) es1317 rfl 14 (by decide) (hts _ tw_893) (fun _ h9 => h9) rfl dX12_next_67 ?_
                    refine lv_iconst (v := 1) hx hb dX12_next_70 (by decide) ?_
                    refine lv_isub hx hb dX12_next_71 ?_
                    rw [show (1 : Int32) = nI 1 from rfl, pk_sub (a := d1309) (b := 1) (by omega)]
                    refine hp_iald hx hb hK hh (q := 7) rfl (hI.1 _ (by decide)) es1320 (vp_in_nI (n := (d1309 - 1)) (by omega) (by decide)) dX12_next_72 ?_
                    rw [nI_clamp (n := (d1309 - 1)) (by omega)]
                    obtain ⟨v_1335, hv_1335, hve_1335⟩ := i1_1309.1 (d1309 - 1) (by omega)
                    rw [show f_1320 (d1309 - 1) = nI v_1335 from (show f_1320 (d1309 - 1) = rdF (en_1316 7) (d1309 - 1) from by rw [es1320]; rfl).trans ((i2_1316 (d1309 - 1) (by omega)).trans hve_1335)]
                    refine lv_aload_n hx hb dX12_next_73 rfl (lv_at hl 0 rfl) ?_
                    refine hp_get hx hb hts ix12 hown hK hh (q := 0) rfl (hI.1 _ (by decide)) es1317 rfl 11 (by decide) (hts _ tw_890) (fun _ h9 => h9) rfl dX12_next_74 ?_
                    refine lv_aload_n hx hb dX12_next_77 rfl (lv_at hl 0 rfl) ?_
                    refine hp_get hx hb hts ix12 hown hK hh (q := 0) rfl (hI.1 _ (by decide)) es1317 rfl 14 (by decide) (hts _ tw_893) (fun _ h9 => h9) rfl dX12_next_78 ?_
                    refine hp_iald hx hb hK hh (q := 7) rfl (hI.1 _ (by decide)) es1320 (vp_in_nI (n := d1309) (by omega) (by decide)) dX12_next_81 ?_
                    rw [nI_clamp (n := d1309) (by omega)]
                    rw [show f_1320 d1309 = nI w1316 from (show f_1320 d1309 = rdF (en_1316 7) d1309 from by rw [es1320]; rfl).trans i1_1316.1]
                    refine hp_callRi (va_runV (As := [.int (nI v_1335), .int (nI w1316)]) (rest := []) ⟨hx, hb, hml, hown, hts⟩ (c_X12_mayFollow l D cy _ cs ad en_1316 hI_1316 v_1335 w1316 (by omega) (by omega)) (kw_X12_mayFollow hts tw_1029 ⟨by decide, by decide⟩) (preV_of hh hK (hI.1 _ (by decide)) es1317 rfl) rfl rfl hl.1 rfl (lv_room (Nat.le_of_ble_eq_true rfl)) dX12_next_82 ⟨Nat.le_of_ble_eq_true rfl, Nat.le_of_ble_eq_true rfl⟩) hh hA (fun r_1336 H locs hw_1336 hh => ?_)
                    rcases Decidable.em (rdF (en_1316 2) (6 * v_1335 + w1316) = 0) with hp_1336 | hp_1336
                    · obtain rfl : r_1336 = 1 := Eq.trans hw_1336 (if_pos hp_1336)
                      refine lv_if_ne (tgt := 104) hx hb dX12_next_85 (by decide) (fun _ => ?_) (fun c_0 => absurd c_0 (by decide))
                      refine lv_aload_n hx hb dX12_next_104 rfl (lv_at hl 0 rfl) ?_
                      refine hp_get hx hb hts ix12 hown hK hh (q := 0) rfl (hI.1 _ (by decide)) es1317 rfl 11 (by decide) (hts _ tw_890) (fun _ h9 => h9) rfl dX12_next_105 ?_
                      refine lv_aload_n hx hb dX12_next_108 rfl (lv_at hl 0 rfl) ?_
                      refine hp_get hx hb hts ix12 hown hK hh (q := 0) rfl (hI.1 _ (by decide)) es1317 rfl 14 (by decide) (hts _ tw_893) (fun _ h9 => h9) rfl dX12_next_109 ?_
                      refine hp_iald hx hb hK hh (q := 7) rfl (hI.1 _ (by decide)) es1320 (vp_in_nI (n := d1309) (by omega) (by decide)) dX12_next_112 ?_
                      rw [nI_clamp (n := d1309) (by omega)]
                      rw [show f_1320 d1309 = nI w1316 from (show f_1320 d1309 = rdF (en_1316 7) d1309 from by rw [es1320]; rfl).trans i1_1316.1]
                      refine lv_aload_n hx hb dX12_next_113 rfl (lv_at hl 0 rfl) ?_
                      refine hp_get hx hb hts ix12 hown hK hh (q := 0) rfl (hI.1 _ (by decide)) es1317 rfl 4 (by decide) (hts _ tw_883) (fun _ h9 => h9) rfl dX12_next_114 ?_
                      refine lv_icmp_lt (tgt := 133) hx hb dX12_next_117 (by decide) (fun c_1337 => ?_) (fun c_1337 => ?_)
                      · have n_1337 : w1316 < tb := n_lt (a := w1316) (b := tb) c_1337 (by omega) (by omega)
                        refine lv_aload_n hx hb dX12_next_133 rfl (lv_at hl 0 rfl) ?_
                        refine lv_aload_n hx hb dX12_next_134 rfl (lv_at hl 0 rfl) ?_
                        refine hp_get hx hb hts ix12 hown hK hh (q := 0) rfl (hI.1 _ (by decide)) es1317 rfl 14 (by decide) (hts _ tw_893) (fun _ h9 => h9) rfl dX12_next_135 ?_
                        refine lv_aload_n hx hb dX12_next_138 rfl (lv_at hl 0 rfl) ?_
                        refine hp_get hx hb hts ix12 hown hK hh (q := 0) rfl (hI.1 _ (by decide)) es1317 rfl 11 (by decide) (hts _ tw_890) (fun _ h9 => h9) rfl dX12_next_139 ?_
                        refine lv_aload_n hx hb dX12_next_142 rfl (lv_at hl 0 rfl) ?_
                        refine hp_get hx hb hts ix12 hown hK hh (q := 0) rfl (hI.1 _ (by decide)) es1317 rfl 14 (by decide) (hts _ tw_893) (fun _ h9 => h9) rfl dX12_next_143 ?_
                        refine hp_iald hx hb hK hh (q := 7) rfl (hI.1 _ (by decide)) es1320 (vp_in_nI (n := d1309) (by omega) (by decide)) dX12_next_146 ?_
                        rw [nI_clamp (n := d1309) (by omega)]
                        rw [show f_1320 d1309 = nI w1316 from (show f_1320 d1309 = rdF (en_1316 7) d1309 from by rw [es1320]; rfl).trans i1_1316.1]
                        refine hp_callMv (va_runV (As := [.int (nI d1309), .int (nI w1316)]) (rest := []) ⟨hx, hb, hml, hown, hts⟩ (c_X12_goOn l D cy _ cs ad en_1316 hI_1316 d1309 w1316 (by omega) (by omega)) (kw_X12_goOn hts tw_1050 ⟨by decide, by decide⟩) (preV_of hh hK (hI.1 _ (by decide)) es1317 rfl) rfl rfl hl.1 rfl (lv_room (Nat.le_of_ble_eq_true rfl)) dX12_next_147 ⟨Nat.le_of_ble_eq_true rfl, Nat.le_of_ble_eq_true rfl⟩) hh hA (fun H locs en_1338 hw_1338 hh => ?_)
                        have hok_1338 : okk (alR (rdF (en 2))) (pv (nwF en_1309) d1309) w1316 = true := okR_yes (v := v_1335) (pv_at (by omega) (by show (rdF (en_1309 7) (d1309 - 1)).toNatClampNeg = v_1335; rw [hve_1335]; exact nI_clamp (by omega))) (by rw [← hf_1316 2 (by omega)]; exact hp_1336)
                        obtain ⟨hI_1338, hu_1338, hx_1338⟩ := hw_1338
                        have es1317_1338 : en_1338 0 = .inr (11, [.int fa_1317, .int hi_1317, .int (nI wd), .int (nI mo), .int (nI tb), .ref (ad 1), .ref (ad 2), .ref (ad 3), .ref (ad 4), .ref (ad 5), .ref (ad 6), .ref (ad 7), .ref (ad 8), .ref (ad 9), .int (nI d1309), .long many_1317, .long grt_1317, .long lst_1317, .long nou_1317, .ref (ad 10), .ref (ad 11), .ref (ad 12), .int rm_1317, .long rb_1317, .ref (ad 13), .int pr_1317, .ref (ad 14), .ref (ad 15), .ref (ad 16), .ref (ad 17), .int (nI wo), .ref (ad 18), .ref (ad 19)]) := (hu_1338 0 (by omega)).trans es1317
                        have es1320_1338 : en_1338 7 = .inl (cy 0, 13, .inl f_1320) := (hu_1338 7 (by omega)).trans es1320
                        have hf_1338 : ∀ c, (c ≠ 0 ∧ c ≠ 6 ∧ c ≠ 7) → en_1338 c = en c := fun c hc => (hu_1338 c (by omega)).trans (hf_1316 c hc)
                        have hkp_1338 : KPg en en_1338 := KPg_same i6_1316 (hu_1338 0 (by omega))
                        have hg7_1338 : ∀ i, rdF (en_1338 7) i = rdF (en_1316 7) i := fun i => by rw [hu_1338 7 (by omega)]
                        have ha_1338 : ∀ i, i < d1309 → rdF (en_1338 7) i = rdF (en_1309 7) i := fun i hi => (hg7_1338 i).trans (i2_1316 i hi)
                        have hwv_1338 : rdF (en_1338 7) d1309 = nI w1316 := (hg7_1338 d1309).trans i1_1316.1
                        have hgo_1338 : ∀ x, rdL (en_1338 6) x = if 9 * d1309 + 9 ≤ x ∧ x < 9 * d1309 + 9 + wd * wd then goV wd mo d1309 w1316 (rdL (en_1316 6)) (rdF (en 1)) (x - (9 * d1309 + 9)) else rdL (en_1316 6) x := fun x => by have h9 := hx_1338 x; rw [show (rdI (en_1316 0) 2).toNatClampNeg = wd from by rw [show rdI (en_1316 0) 2 = nI wd from by rw [es1317]; rfl]; exact nI_clamp (by omega), show (rdI (en_1316 0) 3).toNatClampNeg = mo from by rw [show rdI (en_1316 0) 3 = nI mo from by rw [es1317]; rfl]; exact nI_clamp (by omega), show rdF (en_1316 1) = rdF (en 1) from by rw [hf_1316 1 (by omega)]] at h9; exact h9
                        refine lv_aload_n hx hb dX12_next_150 rfl (lv_at hl 0 rfl) ?_
                        refine lv_dup hx hb dX12_next_151 rfl ?_
                        refine hp_get hx hb hts ix12 hown hK hh (q := 0) rfl (hI.1 _ (by decide)) es1317_1338 rfl 14 (by decide) (hts _ tw_893) (fun _ h9 => h9) rfl dX12_next_152 ?_
                        refine lv_iconst (v := 1) hx hb dX12_next_155 (by decide) ?_
                        refine lv_iadd hx hb dX12_next_156 ?_
                        rw [show (1 : Int32) = nI 1 from rfl, nI_add d1309 1]
                        refine hp_put hx hb hts ix12 tyX12 tyX12_ok nmX12 hown hK hh (q := 0) rfl (hI.1 _ (by decide)) es1317_1338 rfl 14 (by decide) (hts _ tw_893) (fun _ h9 => h9) rfl (ty := .int) (by decide +kernel) rfl rfl (Nat.le_of_ble_eq_true rfl) dX12_next_157 (fun H locs en_1339 hen_1339 hh => ?_)
                        have es1320_1339 : en_1339 7 = .inl (cy 0, 13, .inl f_1320) := by rw [hen_1339, va_up_ne _ _ (by decide)]; exact es1320_1338
                        have es1317_1339 : en_1339 0 = .inr (11, [.int fa_1317, .int hi_1317, .int (nI wd), .int (nI mo), .int (nI tb), .ref (ad 1), .ref (ad 2), .ref (ad 3), .ref (ad 4), .ref (ad 5), .ref (ad 6), .ref (ad 7), .ref (ad 8), .ref (ad 9), .int (nI (d1309 + 1)), .long many_1317, .long grt_1317, .long lst_1317, .long nou_1317, .ref (ad 10), .ref (ad 11), .ref (ad 12), .int rm_1317, .long rb_1317, .ref (ad 13), .int pr_1317, .ref (ad 14), .ref (ad 15), .ref (ad 16), .ref (ad 17), .int (nI wo), .ref (ad 18), .ref (ad 19)]) := by rw [hen_1339]; exact va_up_self _ _ _
                        have hI_1339 : RX cy cs ad en_1339 := by rw [hen_1339]; exact upr_M hI_1338 ⟨fa_1317, hi_1317, wd, mo, tb, (nI (d1309 + 1)), many_1317, grt_1317, lst_1317, nou_1317, rm_1317, rb_1317, pr_1317, wo, rfl, hwd2, hwd3, hmo, htb, hwo⟩
                        have hf_1339 : ∀ c, (c ≠ 0 ∧ c ≠ 6 ∧ c ≠ 7) → en_1339 c = en c := fun c hc => Eq.trans (show en_1339 c = en_1338 c from by rw [hen_1339, va_up_ne _ _ (by omega)]) (hf_1338 c hc)
                        have hkp_1339 : KPg en en_1339 := KPg_fv hkp_1338 es1317_1338 es1317_1339 hi_1317 (nI wd) (nI mo) (nI tb) pr_1317 (nI wo) many_1317 grt_1317 lst_1317 nou_1317 rm_1317 rb_1317 rfl rfl rfl rfl rfl rfl rfl rfl rfl rfl rfl rfl rfl rfl rfl rfl rfl rfl rfl rfl rfl rfl rfl rfl
                        have hg7_1339 : ∀ i, rdF (en_1339 7) i = rdF (en_1338 7) i := fun i => by rw [hen_1339, va_up_ne _ _ (by decide)]
                        have ha_1339 : ∀ i, i < d1309 → rdF (en_1339 7) i = rdF (en_1309 7) i := fun i hi => (hg7_1339 i).trans (ha_1338 i hi)
                        have hwv_1339 : rdF (en_1339 7) d1309 = nI w1316 := (hg7_1339 d1309).trans hwv_1338
                        refine lv_aload_n hx hb dX12_next_160 rfl (lv_at hl 0 rfl) ?_
                        refine hp_get hx hb hts ix12 hown hK hh (q := 0) rfl (hI.1 _ (by decide)) es1317_1339 rfl 14 (by decide) (hts _ tw_893) (fun _ h9 => h9) rfl dX12_next_161 ?_
                        refine lv_iload_n hx hb dX12_next_164 rfl (lv_at hl 1 rfl) ?_
                        refine lv_icmp_ne (tgt := 170) hx hb dX12_next_165 (by decide) (fun c_1340 => ?_) (fun c_1340 => ?_)
                        · have n_1340 : (d1309 + 1) ≠ n := n_neq (a := (d1309 + 1)) (b := n) c_1340 (by omega) (by omega)
                          refine lv_aload_n hx hb dX12_next_170 rfl (lv_at hl 0 rfl) ?_
                          refine hp_get hx hb hts ix12 hown hK hh (q := 0) rfl (hI.1 _ (by decide)) es1317_1339 rfl 11 (by decide) (hts _ tw_890) (fun _ h9 => h9) rfl dX12_next_171 ?_
                          refine lv_aload_n hx hb dX12_next_174 rfl (lv_at hl 0 rfl) ?_
                          refine hp_get hx hb hts ix12 hown hK hh (q := 0) rfl (hI.1 _ (by decide)) es1317_1339 rfl 14 (by decide) (hts _ tw_893) (fun _ h9 => h9) rfl dX12_next_175 ?_
                          refine lv_iconst (v := (-1)) hx hb dX12_next_178 (by decide) ?_
                          refine hp_iast hx hb hK hh (q := 7) rfl (hI.1 _ (by decide)) es1320_1339 (vp_in_nI (n := (d1309 + 1)) (by omega) (by decide)) dX12_next_179 (fun H locs en_1341 hen_1341 hh => ?_)
                          rw [nI_clamp (n := (d1309 + 1)) (by omega)] at hen_1341
                          have es1317_1341 : en_1341 0 = .inr (11, [.int fa_1317, .int hi_1317, .int (nI wd), .int (nI mo), .int (nI tb), .ref (ad 1), .ref (ad 2), .ref (ad 3), .ref (ad 4), .ref (ad 5), .ref (ad 6), .ref (ad 7), .ref (ad 8), .ref (ad 9), .int (nI (d1309 + 1)), .long many_1317, .long grt_1317, .long lst_1317, .long nou_1317, .ref (ad 10), .ref (ad 11), .ref (ad 12), .int rm_1317, .long rb_1317, .ref (ad 13), .int pr_1317, .ref (ad 14), .ref (ad 15), .ref (ad 16), .ref (ad 17), .int (nI wo), .ref (ad 18), .ref (ad 19)]) := by rw [hen_1341, va_up_ne _ _ (by decide)]; exact es1317_1339
                          have es1320_1341 : en_1341 7 = .inl (cy 0, 13, .inl (upd f_1320 (d1309 + 1) (-1))) := by rw [hen_1341]; exact va_up_self _ _ _
                          have hI_1341 : RX cy cs ad en_1341 := by rw [hen_1341]; exact upr_nw hI_1339 ⟨(upd f_1320 (d1309 + 1) (-1)), rfl⟩
                          have hf_1341 : ∀ c, (c ≠ 0 ∧ c ≠ 6 ∧ c ≠ 7) → en_1341 c = en c := fun c hc => Eq.trans (show en_1341 c = en_1339 c from by rw [hen_1341, va_up_ne _ _ (by omega)]) (hf_1339 c hc)
                          have hkp_1341 : KPg en en_1341 := KPg_same hkp_1339 (show en_1341 0 = en_1339 0 from by rw [hen_1341, va_up_ne _ _ (by decide)])
                          have hno_1341 : ∀ i, i ≠ (d1309 + 1) → rdF (en_1341 7) i = rdF (en_1339 7) i := fun i hi => by rw [es1320_1341, es1320_1339]; exact pk_un hi
                          have hnv_1341 : rdF (en_1341 7) (d1309 + 1) = (-1) := by rw [es1320_1341]; exact pk_us
                          have ha_1341 : ∀ i, i < d1309 → rdF (en_1341 7) i = rdF (en_1309 7) i := fun i hi => (hno_1341 i (by omega)).trans (ha_1339 i hi)
                          have hwv_1341 : rdF (en_1341 7) d1309 = nI w1316 := (hno_1341 d1309 (by omega)).trans hwv_1339
                          refine lv_goto (tgt := 18) hx hb dX12_next_180 (by decide) ?_
                          have hNB_1342 := NWp_desc i1_1309 (by omega) ha_1341 hwv_1341 (by omega) (by omega) hnv_1341
                          exact ih_1309 (mm1309 - 1) (d1309 + 1) 0 en_1341 ls H locs (by omega) hI_1341 hf_1341 (⟨by rw [es1317_1341]; rfl, by omega⟩) (hNB_1342.1) (by have h1 := hNB_1342.2; have h2 := i2_1309; omega) ((rem9_deep (by omega) hok_1338 (by omega) (fun i hi => congrArg Int32.toNatClampNeg (ha_1341 i (by omega))) (by show (rdF (en_1341 7) d1309).toNatClampNeg = w1316; rw [hwv_1341]; exact nI_clamp (by omega))).symm.trans i4_1316) (by rw [show en_1341 6 = en_1338 6 from by rw [hen_1341, va_up_ne _ _ (by decide), hen_1339, va_up_ne _ _ (by decide)]]; exact LV_go i5_1316 hgo_1338 (mww (by omega)) (fun i hi => congrArg Int32.toNatClampNeg (ha_1341 i (by omega))) (by show (rdF (en_1341 7) d1309).toNatClampNeg = w1316; rw [hwv_1341]; exact nI_clamp (by omega))) (hkp_1341) (lv_sub hl [0, 1] rfl) hh
                        · have n_1340 : (d1309 + 1) = n := n_eq (a := (d1309 + 1)) (b := n) c_1340 (by omega) (by omega)
                          refine lv_iconst (v := 1) hx hb dX12_next_168 (by decide) ?_
                          have hNR_1343 := NWp_ret i1_1309 ha_1339 hwv_1339 (by omega) (by omega)
                          have hdn_1343 : n - 1 = d1309 := by omega
                          have hlv_1343 : ∀ k, k ≤ d1309 + 1 → ∀ i, i < wd * wd → rdL (en_1339 6) (9 * k + i) = prM wd mo (rdF (en 1)) (nwF en_1339) k i := by rw [show en_1339 6 = en_1338 6 from by rw [hen_1339, va_up_ne _ _ (by decide)]]; exact LV_go i5_1316 hgo_1338 (mww (by omega)) (fun i hi => congrArg Int32.toNatClampNeg (ha_1339 i (by omega))) (by show (rdF (en_1339 7) d1309).toNatClampNeg = w1316; rw [hwv_1339]; exact nI_clamp (by omega))
                          have hrt_1343 := RT9 i4_1316 (by omega) hok_1338 (by omega) (fun i hi => congrArg Int32.toNatClampNeg (ha_1339 i (by omega))) (by show (rdF (en_1339 7) d1309).toNatClampNeg = w1316; rw [hwv_1339]; exact nI_clamp (by omega))
                          exact hp_iretM hx hb hr rfl hlocks hh (⟨hI_1339, hf_1339, Or.inr ⟨rfl, w1316 + 1, ⟨by omega, Or.inr ⟨by rw [es1317_1339]; exact congrArg nI (by omega), by omega⟩, by rw [hdn_1343]; exact hNR_1343.1⟩, by omega, (by have h1 := hNR_1343.2; have h2 := i2_1309.2; rw [hdn_1343]; omega), (by rw [hq4]; exact hrt_1343), (fun k hk => by rw [hq2, hq3]; exact hlv_1343 k (by omega))⟩, hkp_1339⟩) dX12_next_169
                      · have n_1337 : tb ≤ w1316 := n_nlt (a := w1316) (b := tb) c_1337 (by omega) (by omega)
                        exact absurd n_1337 (by omega)
                    · obtain rfl : r_1336 = 0 := Eq.trans hw_1336 (if_neg hp_1336)
                      refine lv_if_ne (tgt := 104) hx hb dX12_next_85 (by decide) (fun c_0 => absurd c_0 (by decide)) (fun _ => ?_)
                      refine lv_aload_n hx hb dX12_next_88 rfl (lv_at hl 0 rfl) ?_
                      refine hp_get hx hb hts ix12 hown hK hh (q := 0) rfl (hI.1 _ (by decide)) es1317 rfl 11 (by decide) (hts _ tw_890) (fun _ h9 => h9) rfl dX12_next_89 ?_
                      refine lv_aload_n hx hb dX12_next_92 rfl (lv_at hl 0 rfl) ?_
                      refine hp_get hx hb hts ix12 hown hK hh (q := 0) rfl (hI.1 _ (by decide)) es1317 rfl 14 (by decide) (hts _ tw_893) (fun _ h9 => h9) rfl dX12_next_93 ?_
                      refine lv_dup2_11 hx hb dX12_next_96 rfl rfl ?_
                      refine hp_iald hx hb hK hh (q := 7) rfl (hI.1 _ (by decide)) es1320 (vp_in_nI (n := d1309) (by omega) (by decide)) dX12_next_97 ?_
                      rw [nI_clamp (n := d1309) (by omega)]
                      rw [show f_1320 d1309 = nI w1316 from (show f_1320 d1309 = rdF (en_1316 7) d1309 from by rw [es1320]; rfl).trans i1_1316.1]
                      refine lv_iconst (v := 1) hx hb dX12_next_98 (by decide) ?_
                      refine lv_iadd hx hb dX12_next_99 ?_
                      rw [show (1 : Int32) = nI 1 from rfl, nI_add w1316 1]
                      refine hp_iast hx hb hK hh (q := 7) rfl (hI.1 _ (by decide)) es1320 (vp_in_nI (n := d1309) (by omega) (by decide)) dX12_next_100 (fun H locs en_1344 hen_1344 hh => ?_)
                      rw [nI_clamp (n := d1309) (by omega)] at hen_1344
                      have es1317_1344 : en_1344 0 = .inr (11, [.int fa_1317, .int hi_1317, .int (nI wd), .int (nI mo), .int (nI tb), .ref (ad 1), .ref (ad 2), .ref (ad 3), .ref (ad 4), .ref (ad 5), .ref (ad 6), .ref (ad 7), .ref (ad 8), .ref (ad 9), .int (nI d1309), .long many_1317, .long grt_1317, .long lst_1317, .long nou_1317, .ref (ad 10), .ref (ad 11), .ref (ad 12), .int rm_1317, .long rb_1317, .ref (ad 13), .int pr_1317, .ref (ad 14), .ref (ad 15), .ref (ad 16), .ref (ad 17), .int (nI wo), .ref (ad 18), .ref (ad 19)]) := by rw [hen_1344, va_up_ne _ _ (by decide)]; exact es1317
                      have es1320_1344 : en_1344 7 = .inl (cy 0, 13, .inl (upd f_1320 d1309 (nI (w1316 + 1)))) := by rw [hen_1344]; exact va_up_self _ _ _
                      have hI_1344 : RX cy cs ad en_1344 := by rw [hen_1344]; exact upr_nw hI_1316 ⟨(upd f_1320 d1309 (nI (w1316 + 1))), rfl⟩
                      have hf_1344 : ∀ c, (c ≠ 0 ∧ c ≠ 6 ∧ c ≠ 7) → en_1344 c = en c := fun c hc => Eq.trans (show en_1344 c = en_1316 c from by rw [hen_1344, va_up_ne _ _ (by omega)]) (hf_1316 c hc)
                      have hkp_1344 : KPg en en_1344 := KPg_same i6_1316 (show en_1344 0 = en_1316 0 from by rw [hen_1344, va_up_ne _ _ (by decide)])
                      have hno_1344 : ∀ i, i ≠ d1309 → rdF (en_1344 7) i = rdF (en_1316 7) i := fun i hi => by rw [es1320_1344, es1320]; exact pk_un hi
                      have hnv_1344 : rdF (en_1344 7) d1309 = (nI (w1316 + 1)) := by rw [es1320_1344]; exact pk_us
                      refine lv_goto (tgt := 38) hx hb dX12_next_101 (by decide) ?_
                      exact ih_1316 (mm1316 - 1) (w1316 + 1) en_1344 ls H locs (by omega) hI_1344 hf_1344 (by rw [es1317_1344]; rfl) (⟨hnv_1344, by omega, by omega⟩) (fun i hi => (hno_1344 i (by omega)).trans (i2_1316 i hi)) (by omega) ((rem9_no (by omega) (okR_no (v := v_1335) (pv_at (by omega) (by show (rdF (en_1309 7) (d1309 - 1)).toNatClampNeg = v_1335; rw [hve_1335]; exact nI_clamp (by omega))) (by rw [← hf_1316 2 (by omega)]; exact hp_1336))).symm.trans i4_1316) (LV_c i5_1316 (Nat.le_refl _) (by rw [hen_1344, va_up_ne _ _ (by decide)]) (fun _ _ => rfl)) (hkp_1344) (lv_sub hl [0, 1] rfl) hh
            exact loop_1316 (7 + 1) 7 u1309 en_1315 ls _ _ (by omega) hI_1315 hf_1315 (by rw [es1310_1315]; rfl) (⟨hnv_1315, by omega, i1_1309.2.2⟩) (fun i hi => hno_1315 i (by omega)) (by omega) (i3_1309) (LV_c i4_1309 (Nat.le_refl _) (by rw [hen_1315, va_up_ne _ _ (by decide)]) (fun _ _ => rfl)) (hkp_1315) (lv_sub hl [0, 1] rfl) hh
      exact loop_1309 (134217728 + 1) 134217728 d u en ls _ _ (by omega) hI hf0 (⟨by rw [es1307]; exact congrArg nI (by omega), by omega⟩) (hd3) (⟨by omega, Nat.le_of_eq rfl⟩) (hL) (hLv) ((KPg_rf en)) (lv_sub hl [0, 1] rfl) hh
    · have n_1308 : d = n := n_eq (a := d) (b := n) c_1308 (by omega) (by omega)
      exact absurd n_1308 (by omega)
  · have hdp : dp = nI n := (show dp = rdI (en 0) 14 from by rw [es1307]; rfl).trans hd2
    rw [hdp] at es1307
    refine lv_aload_n hx hb dX12_next_0 rfl (lv_at hl 0 rfl) ?_
    refine hp_get hx hb hts ix12 hown hK hh (q := 0) rfl (hI.1 _ (by decide)) es1307 rfl 14 (by decide) (hts _ tw_893) (fun _ h9 => h9) rfl dX12_next_1 ?_
    refine lv_iload_n hx hb dX12_next_4 rfl (lv_at hl 1 rfl) ?_
    refine lv_icmp_ne (tgt := 18) hx hb dX12_next_5 (by decide) (fun c_1345 => ?_) (fun c_1345 => ?_)
    · have n_1345 : n ≠ n := n_neq (a := n) (b := n) c_1345 (by omega) (by omega)
      exact absurd n_1345 (by omega)
    · have n_1345 : n = n := n_eq (a := n) (b := n) c_1345 (by omega) (by omega)
      refine lv_aload_n hx hb dX12_next_8 rfl (lv_at hl 0 rfl) ?_
      refine lv_dup hx hb dX12_next_9 rfl ?_
      refine hp_get hx hb hts ix12 hown hK hh (q := 0) rfl (hI.1 _ (by decide)) es1307 rfl 14 (by decide) (hts _ tw_893) (fun _ h9 => h9) rfl dX12_next_10 ?_
      refine lv_iconst (v := 1) hx hb dX12_next_13 (by decide) ?_
      refine lv_isub hx hb dX12_next_14 ?_
      rw [show (1 : Int32) = nI 1 from rfl, pk_sub (a := n) (b := 1) (by omega)]
      refine hp_put hx hb hts ix12 tyX12 tyX12_ok nmX12 hown hK hh (q := 0) rfl (hI.1 _ (by decide)) es1307 rfl 14 (by decide) (hts _ tw_893) (fun _ h9 => h9) rfl (ty := .int) (by decide +kernel) rfl rfl (Nat.le_of_ble_eq_true rfl) dX12_next_15 (fun H locs en_1346 hen_1346 hh => ?_)
      obtain ⟨f_1347, es1347⟩ := getr_nw hI
      have es1347_1346 : en_1346 7 = .inl (cy 0, 13, .inl f_1347) := by rw [hen_1346, va_up_ne _ _ (by decide)]; exact es1347
      have es1307_1346 : en_1346 0 = .inr (11, [.int fa, .int hi, .int (nI wd), .int (nI mo), .int (nI tb), .ref (ad 1), .ref (ad 2), .ref (ad 3), .ref (ad 4), .ref (ad 5), .ref (ad 6), .ref (ad 7), .ref (ad 8), .ref (ad 9), .int (nI (n - 1)), .long many, .long grt, .long lst, .long nou, .ref (ad 10), .ref (ad 11), .ref (ad 12), .int rm, .long rb, .ref (ad 13), .int pr, .ref (ad 14), .ref (ad 15), .ref (ad 16), .ref (ad 17), .int (nI wo), .ref (ad 18), .ref (ad 19)]) := by rw [hen_1346]; exact va_up_self _ _ _
      have hI_1346 : RX cy cs ad en_1346 := by rw [hen_1346]; exact upr_M hI ⟨fa, hi, wd, mo, tb, (nI (n - 1)), many, grt, lst, nou, rm, rb, pr, wo, rfl, hwd2, hwd3, hmo, htb, hwo⟩
      have hf_1346 : ∀ c, (c ≠ 0 ∧ c ≠ 6 ∧ c ≠ 7) → en_1346 c = en c := fun c hc => Eq.trans (show en_1346 c = en c from by rw [hen_1346, va_up_ne _ _ (by omega)]) (hf0 c hc)
      have hkp_1346 : KPg en en_1346 := KPg_fv (KPg_rf en) es1307 es1307_1346 hi (nI wd) (nI mo) (nI tb) pr (nI wo) many grt lst nou rm rb rfl rfl rfl rfl rfl rfl rfl rfl rfl rfl rfl rfl rfl rfl rfl rfl rfl rfl rfl rfl rfl rfl rfl rfl
      have loop_1348 : ∀ (fu mm1348 : Nat)  (d1348 : Nat) (u1348 : Nat) (en_1348 : Nat → va_E) (ls : Array Slot) (H : Heap) (locs : List Loc), mm1348 < fu → RX cy cs ad en_1348 → (∀ c, (c ≠ 0 ∧ c ≠ 6 ∧ c ≠ 7) → en_1348 c = en c) → (rdI (en_1348 0) 14 = nI d1348 ∧ d1348 < n) → (NWp (rdF (en_1348 7)) d1348 u1348) → (134217728 ≤ nmv (rdF (en_1348 7)) d1348 u1348 + mm1348 ∧ nmv (rdF (en 7)) d u ≤ nmv (rdF (en_1348 7)) d1348 u1348) → (rem9 tb (alR (rdF (en 2))) n (nwF en_1348) d1348 u1348 = L) → (∀ k, k ≤ d1348 → ∀ i, i < wd * wd → rdL (en_1348 6) (9 * k + i) = prM wd mo (rdF (en 1)) (nwF en_1348) k i) → (KPg en en_1348) → lv_has ls 2 [(0, .ref (ad 0)), (1, .int (nI n))] → Hp D (Af cs ad sz) (Af cs ad sz) s.heap H locs cs ad en_1348 → W p l e (headSpec (Cond.code yX12_next cX12_next 2 (some .boolean) :: TB) (rmN 2)).room s m ([.ref (ad 0), .int (nI n)] : List Value).toArray below meth c H locs 0 0 (MQ below (va_Qi (S := Nat → va_E) (fun r en1 => RX cy cs ad en1 ∧ (∀ c, (c ≠ 0 ∧ c ≠ 6 ∧ c ≠ 7) → en1 c = en c) ∧ ((r = 0 ∧ L = []) ∨ (r = 1 ∧ ∃ u1, ND en1 n (n - 1) u1 ∧ 1 ≤ u1 ∧ nmv (rdF (en 7)) d u < nmv (rdF (en1 7)) (n - 1) u1 ∧ L = pre (nwF en1) n :: rem9 (rdI (en 0) 4).toNatClampNeg (alR (rdF (en 2))) n (nwF en1) (n - 1) u1 ∧ ∀ k, k ≤ n → ∀ i, i < (rdI (en 0) 2).toNatClampNeg * (rdI (en 0) 2).toNatClampNeg → rdL (en1 6) (9 * k + i) = prM (rdI (en 0) 2).toNatClampNeg (rdI (en 0) 3).toNatClampNeg (rdF (en 1)) (nwF en1) k i)) ∧ KPg en en1) (PostM D cs ad) (Af cs ad sz)) ([.ref (ad 0), .int (nI n)] : List Value).toArray s 0 0 (Af cs ad sz)) (F0 m 18 ls []) := by
        intro fu
        induction fu with
        | zero => intro mm1348 d1348 u1348 en_1348 ls H locs h2; exact absurd h2 (by omega)
        | succ fu ih_1348 =>
          intro mm1348 d1348 u1348 en_1348 ls H locs hmm_1348 hI_1348 hf_1348 i0_1348 i1_1348 i2_1348 i3_1348 i4_1348 i5_1348 hl hh
          have hlt_1348 := nmv_lt i1_1348 (by omega)
          refine lv_aload_n hx hb dX12_next_18 rfl (lv_at hl 0 rfl) ?_
          obtain ⟨fa_1349, hi_1349, wd_1349, mo_1349, tb_1349, dp_1349, many_1349, grt_1349, lst_1349, nou_1349, rm_1349, rb_1349, pr_1349, wo_1349, es1349, p0_1349, p1_1349, p2_1349, p3_1349, p4_1349⟩ := getr_M hI_1348
          have hq2_1350 : wd_1349 = wd := n_eq ((show nI wd_1349 = rdI (en_1348 0) 2 from by rw [es1349]; rfl).trans (i5_1348.2.1.trans (show rdI (en 0) 2 = nI wd from by rw [es1307]; rfl))) (by omega) (by omega)
          have hq3_1350 : mo_1349 = mo := n_eq ((show nI mo_1349 = rdI (en_1348 0) 3 from by rw [es1349]; rfl).trans (i5_1348.2.2.1.trans (show rdI (en 0) 3 = nI mo from by rw [es1307]; rfl))) (by omega) (by omega)
          have hq4_1350 : tb_1349 = tb := n_eq ((show nI tb_1349 = rdI (en_1348 0) 4 from by rw [es1349]; rfl).trans (i5_1348.2.2.2.1.trans (show rdI (en 0) 4 = nI tb from by rw [es1307]; rfl))) (by omega) (by omega)
          have hq30_1350 : wo_1349 = wo := n_eq ((show nI wo_1349 = rdI (en_1348 0) 30 from by rw [es1349]; rfl).trans (i5_1348.2.2.2.2.2.1.trans (show rdI (en 0) 30 = nI wo from by rw [es1307]; rfl))) (by omega) (by omega)
          rw [hq2_1350, hq3_1350, hq4_1350, hq30_1350] at es1349
          have hdp_1351 : dp_1349 = nI d1348 := (show dp_1349 = rdI (en_1348 0) 14 from by rw [es1349]; rfl).trans (i0_1348.1)
          rw [hdp_1351] at es1349
          refine hp_get hx hb hts ix12 hown hK hh (q := 0) rfl (hI.1 _ (by decide)) es1349 rfl 14 (by decide) (hts _ tw_893) (fun _ h9 => h9) rfl dX12_next_19 ?_
          refine lv_if_lt (tgt := 183) hx hb dX12_next_22 (by decide) (fun c_1352 => ?_) (fun c_1352 => ?_)
          · have n_1352 : d1348 < 0 := n_lt (a := d1348) (b := 0) c_1352 (by omega) (by decide)
            exact absurd n_1352 (by omega)
          · have n_1352 : 0 ≤ d1348 := n_nlt (a := d1348) (b := 0) c_1352 (by omega) (by decide)
            refine lv_aload_n hx hb dX12_next_25 rfl (lv_at hl 0 rfl) ?_
            refine hp_get hx hb hts ix12 hown hK hh (q := 0) rfl (hI.1 _ (by decide)) es1349 rfl 11 (by decide) (hts _ tw_890) (fun _ h9 => h9) rfl dX12_next_26 ?_
            refine lv_aload_n hx hb dX12_next_29 rfl (lv_at hl 0 rfl) ?_
            refine hp_get hx hb hts ix12 hown hK hh (q := 0) rfl (hI.1 _ (by decide)) es1349 rfl 14 (by decide) (hts _ tw_893) (fun _ h9 => h9) rfl dX12_next_30 ?_
            refine lv_dup2_11 hx hb dX12_next_33 rfl rfl ?_
            obtain ⟨f_1353, es1353⟩ := getr_nw hI_1348
            refine hp_iald hx hb hK hh (q := 7) rfl (hI.1 _ (by decide)) es1353 (vp_in_nI (n := d1348) (by omega) (by decide)) dX12_next_34 ?_
            rw [nI_clamp (n := d1348) (by omega)]
            refine lv_iconst (v := 1) hx hb dX12_next_35 (by decide) ?_
            refine lv_iadd hx hb dX12_next_36 ?_
            rw [show f_1353 d1348 + 1 = nI u1348 from (show f_1353 d1348 + 1 = rdF (en_1348 7) d1348 + 1 from by rw [es1353]; rfl).trans i1_1348.2.1]
            refine hp_iast hx hb hK hh (q := 7) rfl (hI.1 _ (by decide)) es1353 (vp_in_nI (n := d1348) (by omega) (by decide)) dX12_next_37 (fun H locs en_1354 hen_1354 hh => ?_)
            rw [nI_clamp (n := d1348) (by omega)] at hen_1354
            have es1349_1354 : en_1354 0 = .inr (11, [.int fa_1349, .int hi_1349, .int (nI wd), .int (nI mo), .int (nI tb), .ref (ad 1), .ref (ad 2), .ref (ad 3), .ref (ad 4), .ref (ad 5), .ref (ad 6), .ref (ad 7), .ref (ad 8), .ref (ad 9), .int (nI d1348), .long many_1349, .long grt_1349, .long lst_1349, .long nou_1349, .ref (ad 10), .ref (ad 11), .ref (ad 12), .int rm_1349, .long rb_1349, .ref (ad 13), .int pr_1349, .ref (ad 14), .ref (ad 15), .ref (ad 16), .ref (ad 17), .int (nI wo), .ref (ad 18), .ref (ad 19)]) := by rw [hen_1354, va_up_ne _ _ (by decide)]; exact es1349
            have es1353_1354 : en_1354 7 = .inl (cy 0, 13, .inl (upd f_1353 d1348 (nI u1348))) := by rw [hen_1354]; exact va_up_self _ _ _
            have hI_1354 : RX cy cs ad en_1354 := by rw [hen_1354]; exact upr_nw hI_1348 ⟨(upd f_1353 d1348 (nI u1348)), rfl⟩
            have hf_1354 : ∀ c, (c ≠ 0 ∧ c ≠ 6 ∧ c ≠ 7) → en_1354 c = en c := fun c hc => Eq.trans (show en_1354 c = en_1348 c from by rw [hen_1354, va_up_ne _ _ (by omega)]) (hf_1348 c hc)
            have hkp_1354 : KPg en en_1354 := KPg_same i5_1348 (show en_1354 0 = en_1348 0 from by rw [hen_1354, va_up_ne _ _ (by decide)])
            have hno_1354 : ∀ i, i ≠ d1348 → rdF (en_1354 7) i = rdF (en_1348 7) i := fun i hi => by rw [es1353_1354, es1353]; exact pk_un hi
            have hnv_1354 : rdF (en_1354 7) d1348 = (nI u1348) := by rw [es1353_1354]; exact pk_us
            have loop_1355 : ∀ (fu mm1355 : Nat)  (w1355 : Nat) (en_1355 : Nat → va_E) (ls : Array Slot) (H : Heap) (locs : List Loc), mm1355 < fu → RX cy cs ad en_1355 → (∀ c, (c ≠ 0 ∧ c ≠ 6 ∧ c ≠ 7) → en_1355 c = en c) → (rdI (en_1355 0) 14 = nI d1348) → (rdF (en_1355 7) d1348 = nI w1355 ∧ u1348 ≤ w1355 ∧ w1355 ≤ 6) → (∀ i, i < d1348 → rdF (en_1355 7) i = rdF (en_1348 7) i) → (7 ≤ w1355 + mm1355) → (rem9 tb (alR (rdF (en 2))) n (nwF en_1348) d1348 w1355 = L) → (∀ k, k ≤ d1348 → ∀ i, i < wd * wd → rdL (en_1355 6) (9 * k + i) = prM wd mo (rdF (en 1)) (nwF en_1348) k i) → (KPg en en_1355) → lv_has ls 2 [(0, .ref (ad 0)), (1, .int (nI n))] → Hp D (Af cs ad sz) (Af cs ad sz) s.heap H locs cs ad en_1355 → W p l e (headSpec (Cond.code yX12_next cX12_next 2 (some .boolean) :: TB) (rmN 2)).room s m ([.ref (ad 0), .int (nI n)] : List Value).toArray below meth c H locs 0 0 (MQ below (va_Qi (S := Nat → va_E) (fun r en1 => RX cy cs ad en1 ∧ (∀ c, (c ≠ 0 ∧ c ≠ 6 ∧ c ≠ 7) → en1 c = en c) ∧ ((r = 0 ∧ L = []) ∨ (r = 1 ∧ ∃ u1, ND en1 n (n - 1) u1 ∧ 1 ≤ u1 ∧ nmv (rdF (en 7)) d u < nmv (rdF (en1 7)) (n - 1) u1 ∧ L = pre (nwF en1) n :: rem9 (rdI (en 0) 4).toNatClampNeg (alR (rdF (en 2))) n (nwF en1) (n - 1) u1 ∧ ∀ k, k ≤ n → ∀ i, i < (rdI (en 0) 2).toNatClampNeg * (rdI (en 0) 2).toNatClampNeg → rdL (en1 6) (9 * k + i) = prM (rdI (en 0) 2).toNatClampNeg (rdI (en 0) 3).toNatClampNeg (rdF (en 1)) (nwF en1) k i)) ∧ KPg en en1) (PostM D cs ad) (Af cs ad sz)) ([.ref (ad 0), .int (nI n)] : List Value).toArray s 0 0 (Af cs ad sz)) (F0 m 38 ls []) := by
              intro fu
              induction fu with
              | zero => intro mm1355 w1355 en_1355 ls H locs h2; exact absurd h2 (by omega)
              | succ fu ih_1355 =>
                intro mm1355 w1355 en_1355 ls H locs hmm_1355 hI_1355 hf_1355 i0_1355 i1_1355 i2_1355 i3_1355 i4_1355 i5_1355 i6_1355 hl hh
                refine lv_aload_n hx hb dX12_next_38 rfl (lv_at hl 0 rfl) ?_
                obtain ⟨fa_1356, hi_1356, wd_1356, mo_1356, tb_1356, dp_1356, many_1356, grt_1356, lst_1356, nou_1356, rm_1356, rb_1356, pr_1356, wo_1356, es1356, p0_1356, p1_1356, p2_1356, p3_1356, p4_1356⟩ := getr_M hI_1355
                have hq2_1357 : wd_1356 = wd := n_eq ((show nI wd_1356 = rdI (en_1355 0) 2 from by rw [es1356]; rfl).trans (i6_1355.2.1.trans (show rdI (en 0) 2 = nI wd from by rw [es1307]; rfl))) (by omega) (by omega)
                have hq3_1357 : mo_1356 = mo := n_eq ((show nI mo_1356 = rdI (en_1355 0) 3 from by rw [es1356]; rfl).trans (i6_1355.2.2.1.trans (show rdI (en 0) 3 = nI mo from by rw [es1307]; rfl))) (by omega) (by omega)
                have hq4_1357 : tb_1356 = tb := n_eq ((show nI tb_1356 = rdI (en_1355 0) 4 from by rw [es1356]; rfl).trans (i6_1355.2.2.2.1.trans (show rdI (en 0) 4 = nI tb from by rw [es1307]; rfl))) (by omega) (by omega)
                have hq30_1357 : wo_1356 = wo := n_eq ((show nI wo_1356 = rdI (en_1355 0) 30 from by rw [es1356]; rfl).trans (i6_1355.2.2.2.2.2.1.trans (show rdI (en 0) 30 = nI wo from by rw [es1307]; rfl))) (by omega) (by omega)
                rw [hq2_1357, hq3_1357, hq4_1357, hq30_1357] at es1356
                have hdp_1358 : dp_1356 = nI d1348 := (show dp_1356 = rdI (en_1355 0) 14 from by rw [es1356]; rfl).trans (i0_1355)
                rw [hdp_1358] at es1356
                refine hp_get hx hb hts ix12 hown hK hh (q := 0) rfl (hI.1 _ (by decide)) es1356 rfl 11 (by decide) (hts _ tw_890) (fun _ h9 => h9) rfl dX12_next_39 ?_
                refine lv_aload_n hx hb dX12_next_42 rfl (lv_at hl 0 rfl) ?_
                refine hp_get hx hb hts ix12 hown hK hh (q := 0) rfl (hI.1 _ (by decide)) es1356 rfl 14 (by decide) (hts _ tw_893) (fun _ h9 => h9) rfl dX12_next_43 ?_
                obtain ⟨f_1359, es1359⟩ := getr_nw hI_1355
                refine hp_iald hx hb hK hh (q := 7) rfl (hI.1 _ (by decide)) es1359 (vp_in_nI (n := d1348) (by omega) (by decide)) dX12_next_46 ?_
                rw [nI_clamp (n := d1348) (by omega)]
                rw [show f_1359 d1348 = nI w1355 from (show f_1359 d1348 = rdF (en_1355 7) d1348 from by rw [es1359]; rfl).trans i1_1355.1]
                refine lv_aload_n hx hb dX12_next_47 rfl (lv_at hl 0 rfl) ?_
                refine hp_get hx hb hts ix12 hown hK hh (q := 0) rfl (hI.1 _ (by decide)) es1356 rfl 4 (by decide) (hts _ tw_883) (fun _ h9 => h9) rfl dX12_next_48 ?_
                refine lv_icmp_ge (tgt := 104) hx hb dX12_next_51 (by decide) (fun c_1360 => ?_) (fun c_1360 => ?_)
                · have n_1360 : tb ≤ w1355 := n_le (a := tb) (b := w1355) c_1360 (by omega) (by omega)
                  refine lv_aload_n hx hb dX12_next_104 rfl (lv_at hl 0 rfl) ?_
                  refine hp_get hx hb hts ix12 hown hK hh (q := 0) rfl (hI.1 _ (by decide)) es1356 rfl 11 (by decide) (hts _ tw_890) (fun _ h9 => h9) rfl dX12_next_105 ?_
                  refine lv_aload_n hx hb dX12_next_108 rfl (lv_at hl 0 rfl) ?_
                  refine hp_get hx hb hts ix12 hown hK hh (q := 0) rfl (hI.1 _ (by decide)) es1356 rfl 14 (by decide) (hts _ tw_893) (fun _ h9 => h9) rfl dX12_next_109 ?_
                  refine hp_iald hx hb hK hh (q := 7) rfl (hI.1 _ (by decide)) es1359 (vp_in_nI (n := d1348) (by omega) (by decide)) dX12_next_112 ?_
                  rw [nI_clamp (n := d1348) (by omega)]
                  rw [show f_1359 d1348 = nI w1355 from (show f_1359 d1348 = rdF (en_1355 7) d1348 from by rw [es1359]; rfl).trans i1_1355.1]
                  refine lv_aload_n hx hb dX12_next_113 rfl (lv_at hl 0 rfl) ?_
                  refine hp_get hx hb hts ix12 hown hK hh (q := 0) rfl (hI.1 _ (by decide)) es1356 rfl 4 (by decide) (hts _ tw_883) (fun _ h9 => h9) rfl dX12_next_114 ?_
                  refine lv_icmp_lt (tgt := 133) hx hb dX12_next_117 (by decide) (fun c_1361 => ?_) (fun c_1361 => ?_)
                  · have n_1361 : w1355 < tb := n_lt (a := w1355) (b := tb) c_1361 (by omega) (by omega)
                    exact absurd n_1361 (by omega)
                  · have n_1361 : tb ≤ w1355 := n_nlt (a := w1355) (b := tb) c_1361 (by omega) (by omega)
                    rcases Nat.eq_zero_or_pos d1348 with hz9 | hz9
                    · have hz8 := hz9
                      refine lv_aload_n hx hb dX12_next_120 rfl (lv_at hl 0 rfl) ?_
                      refine lv_dup hx hb dX12_next_121 rfl ?_
                      refine hp_get hx hb hts ix12 hown hK hh (q := 0) rfl (hI.1 _ (by decide)) es1356 rfl 14 (by decide) (hts _ tw_893) (fun _ h9 => h9) rfl dX12_next_122 ?_
                      refine lv_iconst (v := 1) hx hb dX12_next_125 (by decide) ?_
                      refine lv_isub hx hb dX12_next_126 ?_
                      rw [show nI d1348 - (1 : Int32) = -1 from by rw [hz9]; decide]
                      refine hp_put hx hb hts ix12 tyX12 tyX12_ok nmX12 hown hK hh (q := 0) rfl (hI.1 _ (by decide)) es1356 rfl 14 (by decide) (hts _ tw_893) (fun _ h9 => h9) rfl (ty := .int) (by decide +kernel) rfl rfl (Nat.le_of_ble_eq_true rfl) dX12_next_127 (fun H locs en_1362 hen_1362 hh => ?_)
                      have es1359_1362 : en_1362 7 = .inl (cy 0, 13, .inl f_1359) := by rw [hen_1362, va_up_ne _ _ (by decide)]; exact es1359
                      have es1356_1362 : en_1362 0 = .inr (11, [.int fa_1356, .int hi_1356, .int (nI wd), .int (nI mo), .int (nI tb), .ref (ad 1), .ref (ad 2), .ref (ad 3), .ref (ad 4), .ref (ad 5), .ref (ad 6), .ref (ad 7), .ref (ad 8), .ref (ad 9), .int (-1), .long many_1356, .long grt_1356, .long lst_1356, .long nou_1356, .ref (ad 10), .ref (ad 11), .ref (ad 12), .int rm_1356, .long rb_1356, .ref (ad 13), .int pr_1356, .ref (ad 14), .ref (ad 15), .ref (ad 16), .ref (ad 17), .int (nI wo), .ref (ad 18), .ref (ad 19)]) := by rw [hen_1362]; exact va_up_self _ _ _
                      have hI_1362 : RX cy cs ad en_1362 := by rw [hen_1362]; exact upr_M hI_1355 ⟨fa_1356, hi_1356, wd, mo, tb, (-1), many_1356, grt_1356, lst_1356, nou_1356, rm_1356, rb_1356, pr_1356, wo, rfl, hwd2, hwd3, hmo, htb, hwo⟩
                      have hf_1362 : ∀ c, (c ≠ 0 ∧ c ≠ 6 ∧ c ≠ 7) → en_1362 c = en c := fun c hc => Eq.trans (show en_1362 c = en_1355 c from by rw [hen_1362, va_up_ne _ _ (by omega)]) (hf_1355 c hc)
                      have hkp_1362 : KPg en en_1362 := KPg_fv i6_1355 es1356 es1356_1362 hi_1356 (nI wd) (nI mo) (nI tb) pr_1356 (nI wo) many_1356 grt_1356 lst_1356 nou_1356 rm_1356 rb_1356 rfl rfl rfl rfl rfl rfl rfl rfl rfl rfl rfl rfl rfl rfl rfl rfl rfl rfl rfl rfl rfl rfl rfl rfl
                      have hg7_1362 : ∀ i, rdF (en_1362 7) i = rdF (en_1355 7) i := fun i => by rw [hen_1362, va_up_ne _ _ (by decide)]
                      have ha_1362 : ∀ i, i < d1348 → rdF (en_1362 7) i = rdF (en_1348 7) i := fun i hi => (hg7_1362 i).trans (i2_1355 i hi)
                      have hwv_1362 : rdF (en_1362 7) d1348 = nI w1355 := (hg7_1362 d1348).trans i1_1355.1
                      refine lv_goto (tgt := 18) hx hb dX12_next_130 (by decide) ?_
                      refine lv_aload_n hx hb dX12_next_18 rfl (lv_at hl 0 rfl) ?_
                      refine hp_get hx hb hts ix12 hown hK hh (q := 0) rfl (hI.1 _ (by decide)) es1356_1362 rfl 14 (by decide) (hts _ tw_893) (fun _ h9 => h9) rfl dX12_next_19 ?_
                      refine lv_if_lt (tgt := 183) hx hb dX12_next_22 (by decide) (fun _ => ?_) (fun c_0 => absurd c_0 (by decide))
                      refine lv_iconst (v := 0) hx hb dX12_next_183 (by decide) ?_
                      exact hp_iretM hx hb hr rfl hlocks hh (⟨hI_1362, hf_1362, Or.inl ⟨rfl, i4_1355.symm.trans (by rw [hz8]; exact rem9_end (by omega))⟩, hkp_1362⟩) dX12_next_184
                    · obtain ⟨v_1363, hv_1363, hve_1363⟩ := i1_1348.1 (d1348 - 1) (by omega)
                      refine lv_aload_n hx hb dX12_next_120 rfl (lv_at hl 0 rfl) ?_
                      refine lv_dup hx hb dX12_next_121 rfl ?_
                      refine hp_get hx hb hts ix12 hown hK hh (q := 0) rfl (hI.1 _ (by decide)) es1356 rfl 14 (by decide) (hts _ tw_893) (fun _ h9 => h9) rfl dX12_next_122 ?_
                      refine lv_iconst (v := 1) hx hb dX12_next_125 (by decide) ?_
                      refine lv_isub hx hb dX12_next_126 ?_
                      rw [show (1 : Int32) = nI 1 from rfl, pk_sub (a := d1348) (b := 1) (by omega)]
                      refine hp_put hx hb hts ix12 tyX12 tyX12_ok nmX12 hown hK hh (q := 0) rfl (hI.1 _ (by decide)) es1356 rfl 14 (by decide) (hts _ tw_893) (fun _ h9 => h9) rfl (ty := .int) (by decide +kernel) rfl rfl (Nat.le_of_ble_eq_true rfl) dX12_next_127 (fun H locs en_1364 hen_1364 hh => ?_)
                      have es1359_1364 : en_1364 7 = .inl (cy 0, 13, .inl f_1359) := by rw [hen_1364, va_up_ne _ _ (by decide)]; exact es1359
                      have es1356_1364 : en_1364 0 = .inr (11, [.int fa_1356, .int hi_1356, .int (nI wd), .int (nI mo), .int (nI tb), .ref (ad 1), .ref (ad 2), .ref (ad 3), .ref (ad 4), .ref (ad 5), .ref (ad 6), .ref (ad 7), .ref (ad 8), .ref (ad 9), .int (nI (d1348 - 1)), .long many_1356, .long grt_1356, .long lst_1356, .long nou_1356, .ref (ad 10), .ref (ad 11), .ref (ad 12), .int rm_1356, .long rb_1356, .ref (ad 13), .int pr_1356, .ref (ad 14), .ref (ad 15), .ref (ad 16), .ref (ad 17), .int (nI wo), .ref (ad 18), .ref (ad 19)]) := by rw [hen_1364]; exact va_up_self _ _ _
                      have hI_1364 : RX cy cs ad en_1364 := by rw [hen_1364]; exact upr_M hI_1355 ⟨fa_1356, hi_1356, wd, mo, tb, (nI (d1348 - 1)), many_1356, grt_1356, lst_1356, nou_1356, rm_1356, rb_1356, pr_1356, wo, rfl, hwd2, hwd3, hmo, htb, hwo⟩
                      have hf_1364 : ∀ c, (c ≠ 0 ∧ c ≠ 6 ∧ c ≠ 7) → en_1364 c = en c := fun c hc => Eq.trans (show en_1364 c = en_1355 c from by rw [hen_1364, va_up_ne _ _ (by omega)]) (hf_1355 c hc)
                      have hkp_1364 : KPg en en_1364 := KPg_fv i6_1355 es1356 es1356_1364 hi_1356 (nI wd) (nI mo) (nI tb) pr_1356 (nI wo) many_1356 grt_1356 lst_1356 nou_1356 rm_1356 rb_1356 rfl rfl rfl rfl rfl rfl rfl rfl rfl rfl rfl rfl rfl rfl rfl rfl rfl rfl rfl rfl rfl rfl rfl rfl
                      have hg7_1364 : ∀ i, rdF (en_1364 7) i = rdF (en_1355 7) i := fun i => by rw [hen_1364, va_up_ne _ _ (by decide)]
                      have ha_1364 : ∀ i, i < d1348 → rdF (en_1364 7) i = rdF (en_1348 7) i := fun i hi => (hg7_1364 i).trans (i2_1355 i hi)
                      have hwv_1364 : rdF (en_1364 7) d1348 = nI w1355 := (hg7_1364 d1348).trans i1_1355.1
                      refine lv_goto (tgt := 18) hx hb dX12_next_130 (by decide) ?_
                      have hNB_1365 := NWp_back i1_1348 (by omega) (by omega) ha_1364 hv_1363 hve_1363
                      exact ih_1348 (mm1348 - 1) (d1348 - 1) (v_1363 + 1) en_1364 ls H locs (by omega) hI_1364 hf_1364 (⟨by rw [es1356_1364]; rfl, by omega⟩) (hNB_1365.1) (by have h1 := hNB_1365.2; have h2 := i2_1348; omega) (RB9 (by omega) (by omega) i4_1355 (by show (rdF (en_1348 7) (d1348 - 1)).toNatClampNeg = v_1363; rw [hve_1363]; exact nI_clamp (by omega)) (fun i hi => congrArg Int32.toNatClampNeg (ha_1364 i (by omega)))) (LV_c i5_1355 (by omega) (by rw [hen_1364, va_up_ne _ _ (by decide)]) (fun i hi => congrArg Int32.toNatClampNeg (ha_1364 i (by omega)))) (hkp_1364) (lv_sub hl [0, 1] rfl) hh
                · have n_1360 : w1355 < tb := n_nle (a := tb) (b := w1355) c_1360 (by omega) (by omega)
                  refine lv_aload_n hx hb dX12_next_54 rfl (lv_at hl 0 rfl) ?_
                  refine hp_get hx hb hts ix12 hown hK hh (q := 0) rfl (hI.1 _ (by decide)) es1356 rfl 14 (by decide) (hts _ tw_893) (fun _ h9 => h9) rfl dX12_next_55 ?_
                  refine lv_if_le (tgt := 104) hx hb dX12_next_58 (by decide) (fun c_1366 => ?_) (fun c_1366 => ?_)
                  · have n_1366 : d1348 ≤ 0 := n_le (a := d1348) (b := 0) c_1366 (by omega) (by decide)
                    refine lv_aload_n hx hb dX12_next_104 rfl (lv_at hl 0 rfl) ?_
                    refine hp_get hx hb hts ix12 hown hK hh (q := 0) rfl (hI.1 _ (by decide)) es1356 rfl 11 (by decide) (hts _ tw_890) (fun _ h9 => h9) rfl dX12_next_105 ?_
                    refine lv_aload_n hx hb dX12_next_108 rfl (lv_at hl 0 rfl) ?_
                    refine hp_get hx hb hts ix12 hown hK hh (q := 0) rfl (hI.1 _ (by decide)) es1356 rfl 14 (by decide) (hts _ tw_893) (fun _ h9 => h9) rfl dX12_next_109 ?_
                    refine hp_iald hx hb hK hh (q := 7) rfl (hI.1 _ (by decide)) es1359 (vp_in_nI (n := d1348) (by omega) (by decide)) dX12_next_112 ?_
                    rw [nI_clamp (n := d1348) (by omega)]
                    rw [show f_1359 d1348 = nI w1355 from (show f_1359 d1348 = rdF (en_1355 7) d1348 from by rw [es1359]; rfl).trans i1_1355.1]
                    refine lv_aload_n hx hb dX12_next_113 rfl (lv_at hl 0 rfl) ?_
                    refine hp_get hx hb hts ix12 hown hK hh (q := 0) rfl (hI.1 _ (by decide)) es1356 rfl 4 (by decide) (hts _ tw_883) (fun _ h9 => h9) rfl dX12_next_114 ?_
                    refine lv_icmp_lt (tgt := 133) hx hb dX12_next_117 (by decide) (fun c_1367 => ?_) (fun c_1367 => ?_)
                    · have n_1367 : w1355 < tb := n_lt (a := w1355) (b := tb) c_1367 (by omega) (by omega)
                      refine lv_aload_n hx hb dX12_next_133 rfl (lv_at hl 0 rfl) ?_
                      refine lv_aload_n hx hb dX12_next_134 rfl (lv_at hl 0 rfl) ?_
                      refine hp_get hx hb hts ix12 hown hK hh (q := 0) rfl (hI.1 _ (by decide)) es1356 rfl 14 (by decide) (hts _ tw_893) (fun _ h9 => h9) rfl dX12_next_135 ?_
                      refine lv_aload_n hx hb dX12_next_138 rfl (lv_at hl 0 rfl) ?_
                      refine hp_get hx hb hts ix12 hown hK hh (q := 0) rfl (hI.1 _ (by decide)) es1356 rfl 11 (by decide) (hts _ tw_890) (fun _ h9 => h9) rfl dX12_next_139 ?_
                      refine lv_aload_n hx hb dX12_next_142 rfl (lv_at hl 0 rfl) ?_
                      refine hp_get hx hb hts ix12 hown hK hh (q := 0) rfl (hI.1 _ (by decide)) es1356 rfl 14 (by decide) (hts _ tw_893) (fun _ h9 => h9) rfl dX12_next_143 ?_
                      refine hp_iald hx hb hK hh (q := 7) rfl (hI.1 _ (by decide)) es1359 (vp_in_nI (n := d1348) (by omega) (by decide)) dX12_next_146 ?_
                      rw [nI_clamp (n := d1348) (by omega)]
                      rw [show f_1359 d1348 = nI w1355 from (show f_1359 d1348 = rdF (en_1355 7) d1348 from by rw [es1359]; rfl).trans i1_1355.1]
                      refine hp_callMv (va_runV (As := [.int (nI d1348), .int (nI w1355)]) (rest := []) ⟨hx, hb, hml, hown, hts⟩ (c_X12_goOn l D cy _ cs ad en_1355 hI_1355 d1348 w1355 (by omega) (by omega)) (kw_X12_goOn hts tw_1050 ⟨by decide, by decide⟩) (preV_of hh hK (hI.1 _ (by decide)) es1356 rfl) rfl rfl hl.1 rfl (lv_room (Nat.le_of_ble_eq_true rfl)) dX12_next_147 ⟨Nat.le_of_ble_eq_true rfl, Nat.le_of_ble_eq_true rfl⟩) hh hA (fun H locs en_1368 hw_1368 hh => ?_)
                      have hok_1368 : okk (alR (rdF (en 2))) (pv (nwF en_1348) d1348) w1355 = true := okR_0 (by omega)
                      obtain ⟨hI_1368, hu_1368, hx_1368⟩ := hw_1368
                      have es1356_1368 : en_1368 0 = .inr (11, [.int fa_1356, .int hi_1356, .int (nI wd), .int (nI mo), .int (nI tb), .ref (ad 1), .ref (ad 2), .ref (ad 3), .ref (ad 4), .ref (ad 5), .ref (ad 6), .ref (ad 7), .ref (ad 8), .ref (ad 9), .int (nI d1348), .long many_1356, .long grt_1356, .long lst_1356, .long nou_1356, .ref (ad 10), .ref (ad 11), .ref (ad 12), .int rm_1356, .long rb_1356, .ref (ad 13), .int pr_1356, .ref (ad 14), .ref (ad 15), .ref (ad 16), .ref (ad 17), .int (nI wo), .ref (ad 18), .ref (ad 19)]) := (hu_1368 0 (by omega)).trans es1356
                      have es1359_1368 : en_1368 7 = .inl (cy 0, 13, .inl f_1359) := (hu_1368 7 (by omega)).trans es1359
                      have hf_1368 : ∀ c, (c ≠ 0 ∧ c ≠ 6 ∧ c ≠ 7) → en_1368 c = en c := fun c hc => (hu_1368 c (by omega)).trans (hf_1355 c hc)
                      have hkp_1368 : KPg en en_1368 := KPg_same i6_1355 (hu_1368 0 (by omega))
                      have hg7_1368 : ∀ i, rdF (en_1368 7) i = rdF (en_1355 7) i := fun i => by rw [hu_1368 7 (by omega)]
                      have ha_1368 : ∀ i, i < d1348 → rdF (en_1368 7) i = rdF (en_1348 7) i := fun i hi => (hg7_1368 i).trans (i2_1355 i hi)
                      have hwv_1368 : rdF (en_1368 7) d1348 = nI w1355 := (hg7_1368 d1348).trans i1_1355.1
                      have hgo_1368 : ∀ x, rdL (en_1368 6) x = if 9 * d1348 + 9 ≤ x ∧ x < 9 * d1348 + 9 + wd * wd then goV wd mo d1348 w1355 (rdL (en_1355 6)) (rdF (en 1)) (x - (9 * d1348 + 9)) else rdL (en_1355 6) x := fun x => by have h9 := hx_1368 x; rw [show (rdI (en_1355 0) 2).toNatClampNeg = wd from by rw [show rdI (en_1355 0) 2 = nI wd from by rw [es1356]; rfl]; exact nI_clamp (by omega), show (rdI (en_1355 0) 3).toNatClampNeg = mo from by rw [show rdI (en_1355 0) 3 = nI mo from by rw [es1356]; rfl]; exact nI_clamp (by omega), show rdF (en_1355 1) = rdF (en 1) from by rw [hf_1355 1 (by omega)]] at h9; exact h9
                      refine lv_aload_n hx hb dX12_next_150 rfl (lv_at hl 0 rfl) ?_
                      refine lv_dup hx hb dX12_next_151 rfl ?_
                      refine hp_get hx hb hts ix12 hown hK hh (q := 0) rfl (hI.1 _ (by decide)) es1356_1368 rfl 14 (by decide) (hts _ tw_893) (fun _ h9 => h9) rfl dX12_next_152 ?_
                      refine lv_iconst (v := 1) hx hb dX12_next_155 (by decide) ?_
                      refine lv_iadd hx hb dX12_next_156 ?_
                      rw [show (1 : Int32) = nI 1 from rfl, nI_add d1348 1]
                      refine hp_put hx hb hts ix12 tyX12 tyX12_ok nmX12 hown hK hh (q := 0) rfl (hI.1 _ (by decide)) es1356_1368 rfl 14 (by decide) (hts _ tw_893) (fun _ h9 => h9) rfl (ty := .int) (by decide +kernel) rfl rfl (Nat.le_of_ble_eq_true rfl) dX12_next_157 (fun H locs en_1369 hen_1369 hh => ?_)
                      have es1359_1369 : en_1369 7 = .inl (cy 0, 13, .inl f_1359) := by rw [hen_1369, va_up_ne _ _ (by decide)]; exact es1359_1368
                      have es1356_1369 : en_1369 0 = .inr (11, [.int fa_1356, .int hi_1356, .int (nI wd), .int (nI mo), .int (nI tb), .ref (ad 1), .ref (ad 2), .ref (ad 3), .ref (ad 4), .ref (ad 5), .ref (ad 6), .ref (ad 7), .ref (ad 8), .ref (ad 9), .int (nI (d1348 + 1)), .long many_1356, .long grt_1356, .long lst_1356, .long nou_1356, .ref (ad 10), .ref (ad 11), .ref (ad 12), .int rm_1356, .long rb_1356, .ref (ad 13), .int pr_1356, .ref (ad 14), .ref (ad 15), .ref (ad 16), .ref (ad 17), .int (nI wo), .ref (ad 18), .ref (ad 19)]) := by rw [hen_1369]; exact va_up_self _ _ _
                      have hI_1369 : RX cy cs ad en_1369 := by rw [hen_1369]; exact upr_M hI_1368 ⟨fa_1356, hi_1356, wd, mo, tb, (nI (d1348 + 1)), many_1356, grt_1356, lst_1356, nou_1356, rm_1356, rb_1356, pr_1356, wo, rfl, hwd2, hwd3, hmo, htb, hwo⟩
                      have hf_1369 : ∀ c, (c ≠ 0 ∧ c ≠ 6 ∧ c ≠ 7) → en_1369 c = en c := fun c hc => Eq.trans (show en_1369 c = en_1368 c from by rw [hen_1369, va_up_ne _ _ (by omega)]) (hf_1368 c hc)
                      have hkp_1369 : KPg en en_1369 := KPg_fv hkp_1368 es1356_1368 es1356_1369 hi_1356 (nI wd) (nI mo) (nI tb) pr_1356 (nI wo) many_1356 grt_1356 lst_1356 nou_1356 rm_1356 rb_1356 rfl rfl rfl rfl rfl rfl rfl rfl rfl rfl rfl rfl rfl rfl rfl rfl rfl rfl rfl rfl rfl rfl rfl rfl
                      have hg7_1369 : ∀ i, rdF (en_1369 7) i = rdF (en_1368 7) i := fun i => by rw [hen_1369, va_up_ne _ _ (by decide)]
                      have ha_1369 : ∀ i, i < d1348 → rdF (en_1369 7) i = rdF (en_1348 7) i := fun i hi => (hg7_1369 i).trans (ha_1368 i hi)
                      have hwv_1369 : rdF (en_1369 7) d1348 = nI w1355 := (hg7_1369 d1348).trans hwv_1368
                      refine lv_aload_n hx hb dX12_next_160 rfl (lv_at hl 0 rfl) ?_
                      refine hp_get hx hb hts ix12 hown hK hh (q := 0) rfl (hI.1 _ (by decide)) es1356_1369 rfl 14 (by decide) (hts _ tw_893) (fun _ h9 => h9) rfl dX12_next_161 ?_
                      refine lv_iload_n hx hb dX12_next_164 rfl (lv_at hl 1 rfl) ?_
                      refine lv_icmp_ne (tgt := 170) hx hb dX12_next_165 (by decide) (fun c_1370 => ?_) (fun c_1370 => ?_)
                      · have n_1370 : (d1348 + 1) ≠ n := n_neq (a := (d1348 + 1)) (b := n) c_1370 (by omega) (by omega)
                        refine lv_aload_n hx hb dX12_next_170 rfl (lv_at hl 0 rfl) ?_
                        refine hp_get hx hb hts ix12 hown hK hh (q := 0) rfl (hI.1 _ (by decide)) es1356_1369 rfl 11 (by decide) (hts _ tw_890) (fun _ h9 => h9) rfl dX12_next_171 ?_
                        refine lv_aload_n hx hb dX12_next_174 rfl (lv_at hl 0 rfl) ?_
                        refine hp_get hx hb hts ix12 hown hK hh (q := 0) rfl (hI.1 _ (by decide)) es1356_1369 rfl 14 (by decide) (hts _ tw_893) (fun _ h9 => h9) rfl dX12_next_175 ?_
                        refine lv_iconst (v := (-1)) hx hb dX12_next_178 (by decide) ?_
                        refine hp_iast hx hb hK hh (q := 7) rfl (hI.1 _ (by decide)) es1359_1369 (vp_in_nI (n := (d1348 + 1)) (by omega) (by decide)) dX12_next_179 (fun H locs en_1371 hen_1371 hh => ?_)
                        rw [nI_clamp (n := (d1348 + 1)) (by omega)] at hen_1371
                        have es1356_1371 : en_1371 0 = .inr (11, [.int fa_1356, .int hi_1356, .int (nI wd), .int (nI mo), .int (nI tb), .ref (ad 1), .ref (ad 2), .ref (ad 3), .ref (ad 4), .ref (ad 5), .ref (ad 6), .ref (ad 7), .ref (ad 8), .ref (ad 9), .int (nI (d1348 + 1)), .long many_1356, .long grt_1356, .long lst_1356, .long nou_1356, .ref (ad 10), .ref (ad 11), .ref (ad 12), .int rm_1356, .long rb_1356, .ref (ad 13), .int pr_1356, .ref (ad 14), .ref (ad 15), .ref (ad 16), .ref (ad 17), .int (nI wo), .ref (ad 18), .ref (ad 19)]) := by rw [hen_1371, va_up_ne _ _ (by decide)]; exact es1356_1369
                        have es1359_1371 : en_1371 7 = .inl (cy 0, 13, .inl (upd f_1359 (d1348 + 1) (-1))) := by rw [hen_1371]; exact va_up_self _ _ _
                        have hI_1371 : RX cy cs ad en_1371 := by rw [hen_1371]; exact upr_nw hI_1369 ⟨(upd f_1359 (d1348 + 1) (-1)), rfl⟩
                        have hf_1371 : ∀ c, (c ≠ 0 ∧ c ≠ 6 ∧ c ≠ 7) → en_1371 c = en c := fun c hc => Eq.trans (show en_1371 c = en_1369 c from by rw [hen_1371, va_up_ne _ _ (by omega)]) (hf_1369 c hc)
                        have hkp_1371 : KPg en en_1371 := KPg_same hkp_1369 (show en_1371 0 = en_1369 0 from by rw [hen_1371, va_up_ne _ _ (by decide)])
                        have hno_1371 : ∀ i, i ≠ (d1348 + 1) → rdF (en_1371 7) i = rdF (en_1369 7) i := fun i hi => by rw [es1359_1371, es1359_1369]; exact pk_un hi
                        have hnv_1371 : rdF (en_1371 7) (d1348 + 1) = (-1) := by rw [es1359_1371]; exact pk_us
                        have ha_1371 : ∀ i, i < d1348 → rdF (en_1371 7) i = rdF (en_1348 7) i := fun i hi => (hno_1371 i (by omega)).trans (ha_1369 i hi)
                        have hwv_1371 : rdF (en_1371 7) d1348 = nI w1355 := (hno_1371 d1348 (by omega)).trans hwv_1369
                        refine lv_goto (tgt := 18) hx hb dX12_next_180 (by decide) ?_
                        have hNB_1372 := NWp_desc i1_1348 (by omega) ha_1371 hwv_1371 (by omega) (by omega) hnv_1371
                        exact ih_1348 (mm1348 - 1) (d1348 + 1) 0 en_1371 ls H locs (by omega) hI_1371 hf_1371 (⟨by rw [es1356_1371]; rfl, by omega⟩) (hNB_1372.1) (by have h1 := hNB_1372.2; have h2 := i2_1348; omega) ((rem9_deep (by omega) hok_1368 (by omega) (fun i hi => congrArg Int32.toNatClampNeg (ha_1371 i (by omega))) (by show (rdF (en_1371 7) d1348).toNatClampNeg = w1355; rw [hwv_1371]; exact nI_clamp (by omega))).symm.trans i4_1355) (by rw [show en_1371 6 = en_1368 6 from by rw [hen_1371, va_up_ne _ _ (by decide), hen_1369, va_up_ne _ _ (by decide)]]; exact LV_go i5_1355 hgo_1368 (mww (by omega)) (fun i hi => congrArg Int32.toNatClampNeg (ha_1371 i (by omega))) (by show (rdF (en_1371 7) d1348).toNatClampNeg = w1355; rw [hwv_1371]; exact nI_clamp (by omega))) (hkp_1371) (lv_sub hl [0, 1] rfl) hh
                      · have n_1370 : (d1348 + 1) = n := n_eq (a := (d1348 + 1)) (b := n) c_1370 (by omega) (by omega)
                        refine lv_iconst (v := 1) hx hb dX12_next_168 (by decide) ?_
                        have hNR_1373 := NWp_ret i1_1348 ha_1369 hwv_1369 (by omega) (by omega)
                        have hdn_1373 : n - 1 = d1348 := by omega
                        have hlv_1373 : ∀ k, k ≤ d1348 + 1 → ∀ i, i < wd * wd → rdL (en_1369 6) (9 * k + i) = prM wd mo (rdF (en 1)) (nwF en_1369) k i := by rw [show en_1369 6 = en_1368 6 from by rw [hen_1369, va_up_ne _ _ (by decide)]]; exact LV_go i5_1355 hgo_1368 (mww (by omega)) (fun i hi => congrArg Int32.toNatClampNeg (ha_1369 i (by omega))) (by show (rdF (en_1369 7) d1348).toNatClampNeg = w1355; rw [hwv_1369]; exact nI_clamp (by omega))
                        have hrt_1373 := RT9 i4_1355 (by omega) hok_1368 (by omega) (fun i hi => congrArg Int32.toNatClampNeg (ha_1369 i (by omega))) (by show (rdF (en_1369 7) d1348).toNatClampNeg = w1355; rw [hwv_1369]; exact nI_clamp (by omega))
                        exact hp_iretM hx hb hr rfl hlocks hh (⟨hI_1369, hf_1369, Or.inr ⟨rfl, w1355 + 1, ⟨by omega, Or.inr ⟨by rw [es1356_1369]; exact congrArg nI (by omega), by omega⟩, by rw [hdn_1373]; exact hNR_1373.1⟩, by omega, (by have h1 := hNR_1373.2; have h2 := i2_1348.2; rw [hdn_1373]; omega), (by rw [hq4]; exact hrt_1373), (fun k hk => by rw [hq2, hq3]; exact hlv_1373 k (by omega))⟩, hkp_1369⟩) dX12_next_169
                    · have n_1367 : tb ≤ w1355 := n_nlt (a := w1355) (b := tb) c_1367 (by omega) (by omega)
                      exact absurd n_1367 (by omega)
                  · have n_1366 : 0 < d1348 := n_nle (a := d1348) (b := 0) c_1366 (by omega) (by decide)
                    refine lv_aload_n hx hb dX12_next_61 rfl (lv_at hl 0 rfl) ?_
                    refine lv_aload_n hx hb dX12_next_62 rfl (lv_at hl 0 rfl) ?_
                    refine hp_get hx hb hts ix12 hown hK hh (q := 0) rfl (hI.1 _ (by decide)) es1356 rfl 11 (by decide) (hts _ tw_890) (fun _ h9 => h9) rfl dX12_next_63 ?_
                    refine lv_aload_n hx hb dX12_next_66 rfl (lv_at hl 0 rfl) ?_
                    refine hp_get hx hb hts ix12 hown hK hh (q := 0) rfl (hI.1 _ (by decide)) es1356 rfl 14 (by decide) (hts _ tw_893) (fun _ h9 => h9) rfl dX12_next_67 ?_
                    refine lv_iconst (v := 1) hx hb dX12_next_70 (by decide) ?_
                    refine lv_isub hx hb dX12_next_71 ?_
                    rw [show (1 : Int32) = nI 1 from rfl, pk_sub (a := d1348) (b := 1) (by omega)]
                    refine hp_iald hx hb hK hh (q := 7) rfl (hI.1 _ (by decide)) es1359 (vp_in_nI (n := (d1348 - 1)) (by omega) (by decide)) dX12_next_72 ?_
                    rw [nI_clamp (n := (d1348 - 1)) (by omega)]
                    obtain ⟨v_1374, hv_1374, hve_1374⟩ := i1_1348.1 (d1348 - 1) (by omega)
                    rw [show f_1359 (d1348 - 1) = nI v_1374 from (show f_1359 (d1348 - 1) = rdF (en_1355 7) (d1348 - 1) from by rw [es1359]; rfl).trans ((i2_1355 (d1348 - 1) (by omega)).trans hve_1374)]
                    refine lv_aload_n hx hb dX12_next_73 rfl (lv_at hl 0 rfl) ?_
                    refine hp_get hx hb hts ix12 hown hK hh (q := 0) rfl (hI.1 _ (by decide)) es1356 rfl 11 (by decide) (hts _ tw_890) (fun _ h9 => h9) rfl dX12_next_74 ?_
                    refine lv_aload_n hx hb dX12_next_77 rfl (lv_at hl 0 rfl) ?_
                    refine hp_get hx hb hts ix12 hown hK hh (q := 0) rfl (hI.1 _ (by decide)) es1356 rfl 14 (by decide) (hts _ tw_893) (fun _ h9 => h9) rfl dX12_next_78 ?_
                    refine hp_iald hx hb hK hh (q := 7) rfl (hI.1 _ (by decide)) es1359 (vp_in_nI (n := d1348) (by omega) (by decide)) dX12_next_81 ?_
                    rw [nI_clamp (n := d1348) (by omega)]
                    rw [show f_1359 d1348 = nI w1355 from (show f_1359 d1348 = rdF (en_1355 7) d1348 from by rw [es1359]; rfl).trans i1_1355.1]
                    refine hp_callRi (va_runV (As := [.int (nI v_1374), .int (nI w1355)]) (rest := []) ⟨hx, hb, hml, hown, hts⟩ (c_X12_mayFollow l D cy _ cs ad en_1355 hI_1355 v_1374 w1355 (by omega) (by omega)) (kw_X12_mayFollow hts tw_1029 ⟨by decide, by decide⟩) (preV_of hh hK (hI.1 _ (by decide)) es1356 rfl) rfl rfl hl.1 rfl (lv_room (Nat.le_of_ble_eq_true rfl)) dX12_next_82 ⟨Nat.le_of_ble_eq_true rfl, Nat.le_of_ble_eq_true rfl⟩) hh hA (fun r_1375 H locs hw_1375 hh => ?_)
                    rcases Decidable.em (rdF (en_1355 2) (6 * v_1374 + w1355) = 0) with hp_1375 | hp_1375
                    · obtain rfl : r_1375 = 1 := Eq.trans hw_1375 (if_pos hp_1375)
                      refine lv_if_ne (tgt := 104) hx hb dX12_next_85 (by decide) (fun _ => ?_) (fun c_0 => absurd c_0 (by decide))
                      refine lv_aload_n hx hb dX12_next_104 rfl (lv_at hl 0 rfl) ?_
                      refine hp_get hx hb hts ix12 hown hK hh (q := 0) rfl (hI.1 _ (by decide)) es1356 rfl 11 (by decide) (hts _ tw_890) (fun _ h9 => h9) rfl dX12_next_105 ?_
                      refine lv_aload_n hx hb dX12_next_108 rfl (lv_at hl 0 rfl) ?_
                      refine hp_get hx hb hts ix12 hown hK hh (q := 0) rfl (hI.1 _ (by decide)) es1356 rfl 14 (by decide) (hts _ tw_893) (fun _ h9 => h9) rfl dX12_next_109 ?_
                      refine hp_iald hx hb hK hh (q := 7) rfl (hI.1 _ (by decide)) es1359 (vp_in_nI (n := d1348) (by omega) (by decide)) dX12_next_112 ?_
                      rw [nI_clamp (n := d1348) (by omega)]
                      rw [show f_1359 d1348 = nI w1355 from (show f_1359 d1348 = rdF (en_1355 7) d1348 from by rw [es1359]; rfl).trans i1_1355.1]
                      refine lv_aload_n hx hb dX12_next_113 rfl (lv_at hl 0 rfl) ?_
                      refine hp_get hx hb hts ix12 hown hK hh (q := 0) rfl (hI.1 _ (by decide)) es1356 rfl 4 (by decide) (hts _ tw_883) (fun _ h9 => h9) rfl dX12_next_114 ?_
                      refine lv_icmp_lt (tgt := 133) hx hb dX12_next_117 (by decide) (fun c_1376 => ?_) (fun c_1376 => ?_)
                      · have n_1376 : w1355 < tb := n_lt (a := w1355) (b := tb) c_1376 (by omega) (by omega)
                        refine lv_aload_n hx hb dX12_next_133 rfl (lv_at hl 0 rfl) ?_
                        refine lv_aload_n hx hb dX12_next_134 rfl (lv_at hl 0 rfl) ?_
                        refine hp_get hx hb hts ix12 hown hK hh (q := 0) rfl (hI.1 _ (by decide)) es1356 rfl 14 (by decide) (hts _ tw_893) (fun _ h9 => h9) rfl dX12_next_135 ?_
                        refine lv_aload_n hx hb dX12_next_138 rfl (lv_at hl 0 rfl) ?_
                        refine hp_get hx hb hts ix12 hown hK hh (q := 0) rfl (hI.1 _ (by decide)) es1356 rfl 11 (by decide) (hts _ tw_890) (fun _ h9 => h9) rfl dX12_next_139 ?_
                        refine lv_aload_n hx hb dX12_next_142 rfl (lv_at hl 0 rfl) ?_
                        refine hp_get hx hb hts ix12 hown hK hh (q := 0) rfl (hI.1 _ (by decide)) es1356 rfl 14 (by decide) (hts _ tw_893) (fun _ h9 => h9) rfl dX12_next_143 ?_
                        refine hp_iald hx hb hK hh (q := 7) rfl (hI.1 _ (by decide)) es1359 (vp_in_nI (n := d1348) (by omega) (by decide)) dX12_next_146 ?_
                        rw [nI_clamp (n := d1348) (by omega)]
                        rw [show f_1359 d1348 = nI w1355 from (show f_1359 d1348 = rdF (en_1355 7) d1348 from by rw [es1359]; rfl).trans i1_1355.1]
                        refine hp_callMv (va_runV (As := [.int (nI d1348), .int (nI w1355)]) (rest := []) ⟨hx, hb, hml, hown, hts⟩ (c_X12_goOn l D cy _ cs ad en_1355 hI_1355 d1348 w1355 (by omega) (by omega)) (kw_X12_goOn hts tw_1050 ⟨by decide, by decide⟩) (preV_of hh hK (hI.1 _ (by decide)) es1356 rfl) rfl rfl hl.1 rfl (lv_room (Nat.le_of_ble_eq_true rfl)) dX12_next_147 ⟨Nat.le_of_ble_eq_true rfl, Nat.le_of_ble_eq_true rfl⟩) hh hA (fun H locs en_1377 hw_1377 hh => ?_)
                        have hok_1377 : okk (alR (rdF (en 2))) (pv (nwF en_1348) d1348) w1355 = true := okR_yes (v := v_1374) (pv_at (by omega) (by show (rdF (en_1348 7) (d1348 - 1)).toNatClampNeg = v_1374; rw [hve_1374]; exact nI_clamp (by omega))) (by rw [← hf_1355 2 (by omega)]; exact hp_1375)
                        obtain ⟨hI_1377, hu_1377, hx_1377⟩ := hw_1377
                        have es1356_1377 : en_1377 0 = .inr (11, [.int fa_1356, .int hi_1356, .int (nI wd), .int (nI mo), .int (nI tb), .ref (ad 1), .ref (ad 2), .ref (ad 3), .ref (ad 4), .ref (ad 5), .ref (ad 6), .ref (ad 7), .ref (ad 8), .ref (ad 9), .int (nI d1348), .long many_1356, .long grt_1356, .long lst_1356, .long nou_1356, .ref (ad 10), .ref (ad 11), .ref (ad 12), .int rm_1356, .long rb_1356, .ref (ad 13), .int pr_1356, .ref (ad 14), .ref (ad 15), .ref (ad 16), .ref (ad 17), .int (nI wo), .ref (ad 18), .ref (ad 19)]) := (hu_1377 0 (by omega)).trans es1356
                        have es1359_1377 : en_1377 7 = .inl (cy 0, 13, .inl f_1359) := (hu_1377 7 (by omega)).trans es1359
                        have hf_1377 : ∀ c, (c ≠ 0 ∧ c ≠ 6 ∧ c ≠ 7) → en_1377 c = en c := fun c hc => (hu_1377 c (by omega)).trans (hf_1355 c hc)
                        have hkp_1377 : KPg en en_1377 := KPg_same i6_1355 (hu_1377 0 (by omega))
                        have hg7_1377 : ∀ i, rdF (en_1377 7) i = rdF (en_1355 7) i := fun i => by rw [hu_1377 7 (by omega)]
                        have ha_1377 : ∀ i, i < d1348 → rdF (en_1377 7) i = rdF (en_1348 7) i := fun i hi => (hg7_1377 i).trans (i2_1355 i hi)
                        have hwv_1377 : rdF (en_1377 7) d1348 = nI w1355 := (hg7_1377 d1348).trans i1_1355.1
                        have hgo_1377 : ∀ x, rdL (en_1377 6) x = if 9 * d1348 + 9 ≤ x ∧ x < 9 * d1348 + 9 + wd * wd then goV wd mo d1348 w1355 (rdL (en_1355 6)) (rdF (en 1)) (x - (9 * d1348 + 9)) else rdL (en_1355 6) x := fun x => by have h9 := hx_1377 x; rw [show (rdI (en_1355 0) 2).toNatClampNeg = wd from by rw [show rdI (en_1355 0) 2 = nI wd from by rw [es1356]; rfl]; exact nI_clamp (by omega), show (rdI (en_1355 0) 3).toNatClampNeg = mo from by rw [show rdI (en_1355 0) 3 = nI mo from by rw [es1356]; rfl]; exact nI_clamp (by omega), show rdF (en_1355 1) = rdF (en 1) from by rw [hf_1355 1 (by omega)]] at h9; exact h9
                        refine lv_aload_n hx hb dX12_next_150 rfl (lv_at hl 0 rfl) ?_
                        refine lv_dup hx hb dX12_next_151 rfl ?_
                        refine hp_get hx hb hts ix12 hown hK hh (q := 0) rfl (hI.1 _ (by decide)) es1356_1377 rfl 14 (by decide) (hts _ tw_893) (fun _ h9 => h9) rfl dX12_next_152 ?_
                        refine lv_iconst (v := 1) hx hb dX12_next_155 (by decide) ?_
                        refine lv_iadd hx hb dX12_next_156 ?_
                        rw [show (1 : Int32) = nI 1 from rfl, nI_add d1348 1]
                        refine hp_put hx hb hts ix12 tyX12 tyX12_ok nmX12 hown hK hh (q := 0) rfl (hI.1 _ (by decide)) es1356_1377 rfl 14 (by decide) (hts _ tw_893) (fun _ h9 => h9) rfl (ty := .int) (by decide +kernel) rfl rfl (Nat.le_of_ble_eq_true rfl) dX12_next_157 (fun H locs en_1378 hen_1378 hh => ?_)
                        have es1359_1378 : en_1378 7 = .inl (cy 0, 13, .inl f_1359) := by rw [hen_1378, va_up_ne _ _ (by decide)]; exact es1359_1377
                        have es1356_1378 : en_1378 0 = .inr (11, [.int fa_1356, .int hi_1356, .int (nI wd), .int (nI mo), .int (nI tb), .ref (ad 1), .ref (ad 2), .ref (ad 3), .ref (ad 4), .ref (ad 5), .ref (ad 6), .ref (ad 7), .ref (ad 8), .ref (ad 9), .int (nI (d1348 + 1)), .long many_1356, .long grt_1356, .long lst_1356, .long nou_1356, .ref (ad 10), .ref (ad 11), .ref (ad 12), .int rm_1356, .long rb_1356, .ref (ad 13), .int pr_1356, .ref (ad 14), .ref (ad 15), .ref (ad 16), .ref (ad 17), .int (nI wo), .ref (ad 18), .ref (ad 19)]) := by rw [hen_1378]; exact va_up_self _ _ _
                        have hI_1378 : RX cy cs ad en_1378 := by rw [hen_1378]; exact upr_M hI_1377 ⟨fa_1356, hi_1356, wd, mo, tb, (nI (d1348 + 1)), many_1356, grt_1356, lst_1356, nou_1356, rm_1356, rb_1356, pr_1356, wo, rfl, hwd2, hwd3, hmo, htb, hwo⟩
                        have hf_1378 : ∀ c, (c ≠ 0 ∧ c ≠ 6 ∧ c ≠ 7) → en_1378 c = en c := fun c hc => Eq.trans (show en_1378 c = en_1377 c from by rw [hen_1378, va_up_ne _ _ (by omega)]) (hf_1377 c hc)
                        have hkp_1378 : KPg en en_1378 := KPg_fv hkp_1377 es1356_1377 es1356_1378 hi_1356 (nI wd) (nI mo) (nI tb) pr_1356 (nI wo) many_1356 grt_1356 lst_1356 nou_1356 rm_1356 rb_1356 rfl rfl rfl rfl rfl rfl rfl rfl rfl rfl rfl rfl rfl rfl rfl rfl rfl rfl rfl rfl rfl rfl rfl rfl
                        have hg7_1378 : ∀ i, rdF (en_1378 7) i = rdF (en_1377 7) i := fun i => by rw [hen_1378, va_up_ne _ _ (by decide)]
                        have ha_1378 : ∀ i, i < d1348 → rdF (en_1378 7) i = rdF (en_1348 7) i := fun i hi => (hg7_1378 i).trans (ha_1377 i hi)
                        have hwv_1378 : rdF (en_1378 7) d1348 = nI w1355 := (hg7_1378 d1348).trans hwv_1377
                        refine lv_aload_n hx hb dX12_next_160 rfl (lv_at hl 0 rfl) ?_
                        refine hp_get hx hb hts ix12 hown hK hh (q := 0) rfl (hI.1 _ (by decide)) es1356_1378 rfl 14 (by decide) (hts _ tw_893) (fun _ h9 => h9) rfl dX12_next_161 ?_
                        refine lv_iload_n hx hb dX12_next_164 rfl (lv_at hl 1 rfl) ?_
                        refine lv_icmp_ne (tgt := 170) hx hb dX12_next_165 (by decide) (fun c_1379 => ?_) (fun c_1379 => ?_)
                        · have n_1379 : (d1348 + 1) ≠ n := n_neq (a := (d1348 + 1)) (b := n) c_1379 (by omega) (by omega)
                          refine lv_aload_n hx hb dX12_next_170 rfl (lv_at hl 0 rfl) ?_
                          refine hp_get hx hb hts ix12 hown hK hh (q := 0) rfl (hI.1 _ (by decide)) es1356_1378 rfl 11 (by decide) (hts _ tw_890) (fun _ h9 => h9) rfl dX12_next_171 ?_
                          refine lv_aload_n hx hb dX12_next_174 rfl (lv_at hl 0 rfl) ?_
                          refine hp_get hx hb hts ix12 hown hK hh (q := 0) rfl (hI.1 _ (by decide)) es1356_1378 rfl 14 (by decide) (hts _ tw_893) (fun _ h9 => h9) rfl dX12_next_175 ?_
                          refine lv_iconst (v := (-1)) hx hb dX12_next_178 (by decide) ?_
                          refine hp_iast hx hb hK hh (q := 7) rfl (hI.1 _ (by decide)) es1359_1378 (vp_in_nI (n := (d1348 + 1)) (by omega) (by decide)) dX12_next_179 (fun H locs en_1380 hen_1380 hh => ?_)
                          rw [nI_clamp (n := (d1348 + 1)) (by omega)] at hen_1380
                          have es1356_1380 : en_1380 0 = .inr (11, [.int fa_1356, .int hi_1356, .int (nI wd), .int (nI mo), .int (nI tb), .ref (ad 1), .ref (ad 2), .ref (ad 3), .ref (ad 4), .ref (ad 5), .ref (ad 6), .ref (ad 7), .ref (ad 8), .ref (ad 9), .int (nI (d1348 + 1)), .long many_1356, .long grt_1356, .long lst_1356, .long nou_1356, .ref (ad 10), .ref (ad 11), .ref (ad 12), .int rm_1356, .long rb_1356, .ref (ad 13), .int pr_1356, .ref (ad 14), .ref (ad 15), .ref (ad 16), .ref (ad 17), .int (nI wo), .ref (ad 18), .ref (ad 19)]) := by rw [hen_1380, va_up_ne _ _ (by decide)]; exact es1356_1378
                          have es1359_1380 : en_1380 7 = .inl (cy 0, 13, .inl (upd f_1359 (d1348 + 1) (-1))) := by rw [hen_1380]; exact va_up_self _ _ _
                          have hI_1380 : RX cy cs ad en_1380 := by rw [hen_1380]; exact upr_nw hI_1378 ⟨(upd f_1359 (d1348 + 1) (-1)), rfl⟩
                          have hf_1380 : ∀ c, (c ≠ 0 ∧ c ≠ 6 ∧ c ≠ 7) → en_1380 c = en c := fun c hc => Eq.trans (show en_1380 c = en_1378 c from by rw [hen_1380, va_up_ne _ _ (by omega)]) (hf_1378 c hc)
                          have hkp_1380 : KPg en en_1380 := KPg_same hkp_1378 (show en_1380 0 = en_1378 0 from by rw [hen_1380, va_up_ne _ _ (by decide)])
                          have hno_1380 : ∀ i, i ≠ (d1348 + 1) → rdF (en_1380 7) i = rdF (en_1378 7) i := fun i hi => by rw [es1359_1380, es1359_1378]; exact pk_un hi
                          have hnv_1380 : rdF (en_1380 7) (d1348 + 1) = (-1) := by rw [es1359_1380]; exact pk_us
                          have ha_1380 : ∀ i, i < d1348 → rdF (en_1380 7) i = rdF (en_1348 7) i := fun i hi => (hno_1380 i (by omega)).trans (ha_1378 i hi)
                          have hwv_1380 : rdF (en_1380 7) d1348 = nI w1355 := (hno_1380 d1348 (by omega)).trans hwv_1378
                          refine lv_goto (tgt := 18) hx hb dX12_next_180 (by decide) ?_
                          have hNB_1381 := NWp_desc i1_1348 (by omega) ha_1380 hwv_1380 (by omega) (by omega) hnv_1380
                          exact ih_1348 (mm1348 - 1) (d1348 + 1) 0 en_1380 ls H locs (by omega) hI_1380 hf_1380 (⟨by rw [es1356_1380]; rfl, by omega⟩) (hNB_1381.1) (by have h1 := hNB_1381.2; have h2 := i2_1348; omega) ((rem9_deep (by omega) hok_1377 (by omega) (fun i hi => congrArg Int32.toNatClampNeg (ha_1380 i (by omega))) (by show (rdF (en_1380 7) d1348).toNatClampNeg = w1355; rw [hwv_1380]; exact nI_clamp (by omega))).symm.trans i4_1355) (by rw [show en_1380 6 = en_1377 6 from by rw [hen_1380, va_up_ne _ _ (by decide), hen_1378, va_up_ne _ _ (by decide)]]; exact LV_go i5_1355 hgo_1377 (mww (by omega)) (fun i hi => congrArg Int32.toNatClampNeg (ha_1380 i (by omega))) (by show (rdF (en_1380 7) d1348).toNatClampNeg = w1355; rw [hwv_1380]; exact nI_clamp (by omega))) (hkp_1380) (lv_sub hl [0, 1] rfl) hh
                        · have n_1379 : (d1348 + 1) = n := n_eq (a := (d1348 + 1)) (b := n) c_1379 (by omega) (by omega)
                          refine lv_iconst (v := 1) hx hb dX12_next_168 (by decide) ?_
                          have hNR_1382 := NWp_ret i1_1348 ha_1378 hwv_1378 (by omega) (by omega)
                          have hdn_1382 : n - 1 = d1348 := by omega
                          have hlv_1382 : ∀ k, k ≤ d1348 + 1 → ∀ i, i < wd * wd → rdL (en_1378 6) (9 * k + i) = prM wd mo (rdF (en 1)) (nwF en_1378) k i := by rw [show en_1378 6 = en_1377 6 from by rw [hen_1378, va_up_ne _ _ (by decide)]]; exact LV_go i5_1355 hgo_1377 (mww (by omega)) (fun i hi => congrArg Int32.toNatClampNeg (ha_1378 i (by omega))) (by show (rdF (en_1378 7) d1348).toNatClampNeg = w1355; rw [hwv_1378]; exact nI_clamp (by omega))
                          have hrt_1382 := RT9 i4_1355 (by omega) hok_1377 (by omega) (fun i hi => congrArg Int32.toNatClampNeg (ha_1378 i (by omega))) (by show (rdF (en_1378 7) d1348).toNatClampNeg = w1355; rw [hwv_1378]; exact nI_clamp (by omega))
                          exact hp_iretM hx hb hr rfl hlocks hh (⟨hI_1378, hf_1378, Or.inr ⟨rfl, w1355 + 1, ⟨by omega, Or.inr ⟨by rw [es1356_1378]; exact congrArg nI (by omega), by omega⟩, by rw [hdn_1382]; exact hNR_1382.1⟩, by omega, (by have h1 := hNR_1382.2; have h2 := i2_1348.2; rw [hdn_1382]; omega), (by rw [hq4]; exact hrt_1382), (fun k hk => by rw [hq2, hq3]; exact hlv_1382 k (by omega))⟩, hkp_1378⟩) dX12_next_169
                      · have n_1376 : tb ≤ w1355 := n_nlt (a := w1355) (b := tb) c_1376 (by omega) (by omega)
                        exact absurd n_1376 (by omega)
                    · obtain rfl : r_1375 = 0 := Eq.trans hw_1375 (if_neg hp_1375)
                      refine lv_if_ne (tgt := 104) hx hb dX12_next_85 (by decide) (fun c_0 => absurd c_0 (by decide)) (fun _ => ?_)
                      refine lv_aload_n hx hb dX12_next_88 rfl (lv_at hl 0 rfl) ?_
                      refine hp_get hx hb hts ix12 hown hK hh (q := 0) rfl (hI.1 _ (by decide)) es1356 rfl 11 (by decide) (hts _ tw_890) (fun _ h9 => h9) rfl dX12_next_89 ?_
                      refine lv_aload_n hx hb dX12_next_92 rfl (lv_at hl 0 rfl) ?_
                      refine hp_get hx hb hts ix12 hown hK hh (q := 0) rfl (hI.1 _ (by decide)) es1356 rfl 14 (by decide) (hts _ tw_893) (fun _ h9 => h9) rfl dX12_next_93 ?_
                      refine lv_dup2_11 hx hb dX12_next_96 rfl rfl ?_
                      refine hp_iald hx hb hK hh (q := 7) rfl (hI.1 _ (by decide)) es1359 (vp_in_nI (n := d1348) (by omega) (by decide)) dX12_next_97 ?_
                      rw [nI_clamp (n := d1348) (by omega)]
                      rw [show f_1359 d1348 = nI w1355 from (show f_1359 d1348 = rdF (en_1355 7) d1348 from by rw [es1359]; rfl).trans i1_1355.1]
                      refine lv_iconst (v := 1) hx hb dX12_next_98 (by decide) ?_
                      refine lv_iadd hx hb dX12_next_99 ?_
                      rw [show (1 : Int32) = nI 1 from rfl, nI_add w1355 1]
                      refine hp_iast hx hb hK hh (q := 7) rfl (hI.1 _ (by decide)) es1359 (vp_in_nI (n := d1348) (by omega) (by decide)) dX12_next_100 (fun H locs en_1383 hen_1383 hh => ?_)
                      rw [nI_clamp (n := d1348) (by omega)] at hen_1383
                      have es1356_1383 : en_1383 0 = .inr (11, [.int fa_1356, .int hi_1356, .int (nI wd), .int (nI mo), .int (nI tb), .ref (ad 1), .ref (ad 2), .ref (ad 3), .ref (ad 4), .ref (ad 5), .ref (ad 6), .ref (ad 7), .ref (ad 8), .ref (ad 9), .int (nI d1348), .long many_1356, .long grt_1356, .long lst_1356, .long nou_1356, .ref (ad 10), .ref (ad 11), .ref (ad 12), .int rm_1356, .long rb_1356, .ref (ad 13), .int pr_1356, .ref (ad 14), .ref (ad 15), .ref (ad 16), .ref (ad 17), .int (nI wo), .ref (ad 18), .ref (ad 19)]) := by rw [hen_1383, va_up_ne _ _ (by decide)]; exact es1356
                      have es1359_1383 : en_1383 7 = .inl (cy 0, 13, .inl (upd f_1359 d1348 (nI (w1355 + 1)))) := by rw [hen_1383]; exact va_up_self _ _ _
                      have hI_1383 : RX cy cs ad en_1383 := by rw [hen_1383]; exact upr_nw hI_1355 ⟨(upd f_1359 d1348 (nI (w1355 + 1))), rfl⟩
                      have hf_1383 : ∀ c, (c ≠ 0 ∧ c ≠ 6 ∧ c ≠ 7) → en_1383 c = en c := fun c hc => Eq.trans (show en_1383 c = en_1355 c from by rw [hen_1383, va_up_ne _ _ (by omega)]) (hf_1355 c hc)
                      have hkp_1383 : KPg en en_1383 := KPg_same i6_1355 (show en_1383 0 = en_1355 0 from by rw [hen_1383, va_up_ne _ _ (by decide)])
                      have hno_1383 : ∀ i, i ≠ d1348 → rdF (en_1383 7) i = rdF (en_1355 7) i := fun i hi => by rw [es1359_1383, es1359]; exact pk_un hi
                      have hnv_1383 : rdF (en_1383 7) d1348 = (nI (w1355 + 1)) := by rw [es1359_1383]; exact pk_us
                      refine lv_goto (tgt := 38) hx hb dX12_next_101 (by decide) ?_
                      exact ih_1355 (mm1355 - 1) (w1355 + 1) en_1383 ls H locs (by omega) hI_1383 hf_1383 (by rw [es1356_1383]; rfl) (⟨hnv_1383, by omega, by omega⟩) (fun i hi => (hno_1383 i (by omega)).trans (i2_1355 i hi)) (by omega) ((rem9_no (by omega) (okR_no (v := v_1374) (pv_at (by omega) (by show (rdF (en_1348 7) (d1348 - 1)).toNatClampNeg = v_1374; rw [hve_1374]; exact nI_clamp (by omega))) (by rw [← hf_1355 2 (by omega)]; exact hp_1375))).symm.trans i4_1355) (LV_c i5_1355 (Nat.le_refl _) (by rw [hen_1383, va_up_ne _ _ (by decide)]) (fun _ _ => rfl)) (hkp_1383) (lv_sub hl [0, 1] rfl) hh
            exact loop_1355 (7 + 1) 7 u1348 en_1354 ls _ _ (by omega) hI_1354 hf_1354 (by rw [es1349_1354]; rfl) (⟨hnv_1354, by omega, i1_1348.2.2⟩) (fun i hi => hno_1354 i (by omega)) (by omega) (i3_1348) (LV_c i4_1348 (Nat.le_refl _) (by rw [hen_1354, va_up_ne _ _ (by decide)]) (fun _ _ => rfl)) (hkp_1354) (lv_sub hl [0, 1] rfl) hh
      exact loop_1348 (134217728 + 1) 134217728 d u en_1346 ls _ _ (by omega) hI_1346 hf_1346 (⟨by rw [es1307_1346]; exact congrArg nI (by omega), by omega⟩) ((by rw [show en_1346 7 = en 7 from by rw [hen_1346, va_up_ne _ _ (by decide)]]; exact hd3)) (⟨by omega, Nat.le_of_eq (by rw [show en_1346 7 = en 7 from by rw [hen_1346, va_up_ne _ _ (by decide)]])⟩) ((by have h9 := hL; rw [show nwF en = nwF en_1346 from by unfold nwF; rw [show en_1346 7 = en 7 from by rw [hen_1346, va_up_ne _ _ (by decide)]]] at h9; exact h9)) ((LV_c hLv (Nat.le_refl _) (by rw [hen_1346, va_up_ne _ _ (by decide)]) (fun x _ => by unfold nwF; rw [show en_1346 7 = en 7 from by rw [hen_1346, va_up_ne _ _ (by decide)]]))) (hkp_1346) (lv_sub hl [0, 1] rfl) hh
theorem kw_X12_next {R : Room} {s : State} {args : Array Value} {own : String} {idx : Nat} (hts : ∀ w ∈ TB, w.before args s = true) (hl : Cond.methodLink own idx yX12_next ∈ TB) (hR : 2 + 1 ≤ R.frames ∧ 8 + (2 + 11) + 40 * 2 ≤ R.locals) : CallW R s args own RX12 idx yX12_next cX12_next 2 (some .boolean) (Cond.code yX12_next cX12_next 2 (some .boolean) :: TB) (rmN 2) 0 0 1 := cwV 1 hts (TB_V hl tw_1048 ts_40 tw_9 tw_1049) rfl rfl rfl (by decide +kernel) hR
